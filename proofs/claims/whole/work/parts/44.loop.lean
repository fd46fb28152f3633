theorem lw_more {L k : Nat} {x3 : Int32} (hL : L ≤ 2561) (ek : x3 = nI (1 + 5 * k)) (hk : k ≤ 512) (q : ¬ Int32.ofNat L - 5 < x3) : 1 + 5 * k + 5 ≤ L := by
  have q2 := Int32.le_iff_toInt_le.mp (Int32.not_lt.mp q)
  have e5 : (5 : Int32) = nI 5 := by decide
  have e : (Int32.ofNat L - 5).toInt = (L : Int) - 5 := by rw [e5]; exact pk_sub_toInt (a := L) (b := 5) (by omega) (by decide)
  rw [ek, nI_toInt (by omega), e] at q2
  omega
set_option maxHeartbeats 4000000 in
set_option maxRecDepth 100000 in
theorem law_loop (l : Launch) (D : va_G) (adx adm : Nat → Nat) (n : Nat) (cI cS cQ cZ : ClassId) {p : Program} {e : Env} {s : State} {m : MethodId} {below : List Frame} {meth : Method} {c : Code} {b L : Nat} {xs : Nat → Int32} (h : LE D adx adm n cI cS cQ cZ p s m meth c b L xs) :
    ∀ (f k : Nat) (x3 : Int32) (V : VS) (M : MS) (H : Heap) (locs : List Loc) (ls : Array Slot), x3 = nI (1 + 5 * k) → k ≤ 512 → 512 - k < f → Rl n k V M → XP D adx n cI cS cQ V H → MP D adm cI cZ M H → va_S (fun q : Nat => s.heap.size ≤ q) s.heap H locs → lv_has ls 4 [(0, .ref b), (1, .ref (adx 0)), (2, .ref (adm 0)), (3, .int x3)] → W p l e room_1 s m #[Value.ref b] below meth c H locs 100 50000 (lw_Z below #[Value.ref b] s) (F0 m 28 ls []) := by
  have S := h.S
  obtain ⟨hX, hbl, hbA⟩ := h.X
  obtain ⟨⟨-, -, hr, -, -, -, -, -, hlocks, -⟩, hL, -⟩ := id h
  intro f
  induction f with
  | zero => intro k x3 V M H locs ls _ _ q; exact absurd q (Nat.not_lt_zero _)
  | succ f ih =>
    intro k x3 V M H locs ls ek hk hf hR hP hQ hS hl
    refine lv_iload_n S.1 S.2.1 d_law_28 rfl (lv_at hl 3 rfl) ?_
    refine lv_aload_n S.1 S.2.1 d_law_29 rfl (lv_at hl 0 rfl) ?_
    refine va_slen S.1 S.2.1 hX hbl hbA hS d_law_30 ?_
    refine lv_iconst (v := 5) S.1 S.2.1 d_law_31 (by decide) ?_
    refine lv_isub S.1 S.2.1 d_law_32 ?_
    refine lv_icmp_gt (tgt := 745) S.1 S.2.1 d_law_33 (by decide) (fun _ => ?_) (fun q => ?_)
    · refine lv_iconst (v := 1) S.1 S.2.1 d_law_745 (by decide) ?_
      refine va_forget (fun q hq => hS.2.2 q hq) ?_
      refine W.widen (k := 600000) (n := 7302250) (by decide) (by decide) ?_
      exact lw_ret S.1 S.2.1 hr hlocks d_law_746
    · have hc := lw_more hL ek hk q
      have hn : ∀ (V : VS) (M : MS) (H : Heap) (locs : List Loc) (ls : Array Slot), Rl n (k + 1) V M → XP D adx n cI cS cQ V H → MP D adm cI cZ M H → va_S (fun q : Nat => s.heap.size ≤ q) s.heap H locs → lv_has ls 4 [(0, .ref b), (1, .ref (adx 0)), (2, .ref (adm 0)), (3, .int x3)] → W p l e room_1 s m #[Value.ref b] below meth c H locs 100 50000 (lw_Z below #[Value.ref b] s) (F0 m 739 ls []) := by
        intro V M H locs ls hR hP hQ hS hl
        refine lv_iinc (v := x3 + 5) (lv' := [(3, .int (x3 + 5)), (0, .ref b), (1, .ref (adx 0)), (2, .ref (adm 0))]) S.1 S.2.1 d_law_739 hl (k := 3) rfl rfl (by decide) rfl (fun ls hl => ?_)
        refine lv_goto (tgt := 28) S.1 S.2.1 d_law_742 (by decide) ?_
        have e5 : (5 : Int32) = nI 5 := by decide
        exact ih (k + 1) (x3 + 5) V M H locs ls (by rw [ek, e5, nI_add]; congr 1) (by omega) (by omega) hR hP hQ hS (lv_sub hl [1, 2, 3, 0] rfl)
      refine lv_aload_n S.1 S.2.1 d_law_36 rfl (lv_at hl 0 rfl) ?_
      refine lv_iload_n S.1 S.2.1 d_law_37 rfl (lv_at hl 3 rfl) ?_
      have hin : vp_in x3 L := by
        rw [ek]
        exact vp_in_nI (by omega) (by omega)
      refine va_sld S.1 S.2.1 hX hbl hbA hS hin d_law_38 ?_
      refine lv_bipush (v := 31) S.1 S.2.1 d_law_39 (by decide) ?_
      refine lv_iand S.1 S.2.1 d_law_41 ?_
      obtain ⟨v, hv, ev⟩ := pk_andE (xs x3.toNatClampNeg) (m := 31) 5 (by decide)
      rw [ev]
      match v, hv with
      | 0, _ => exact lv_tableIn (off := 90) (tgt := 132) S.1 S.2.1 d_law_42 (by decide) (by decide) (by decide) (by decide) (lc_make l D adx adm n cI cS cQ cZ h k x3 V M H locs ls ek hc hR hP hQ hS hl hn)
      | 1, _ => exact lv_tableIn (off := 103) (tgt := 145) S.1 S.2.1 d_law_42 (by decide) (by decide) (by decide) (by decide) (lc_drop l D adx adm n cI cS cQ cZ h k x3 V M H locs ls ek hc hR hP hQ hS hl hn)
      | 2, _ => exact lv_tableIn (off := 126) (tgt := 168) S.1 S.2.1 d_law_42 (by decide) (by decide) (by decide) (by decide) (lc_fork l D adx adm n cI cS cQ cZ h k x3 V M H locs ls ek hc hR hP hQ hS hl hn)
      | 3, _ => exact lv_tableIn (off := 149) (tgt := 191) S.1 S.2.1 d_law_42 (by decide) (by decide) (by decide) (by decide) (lc_map l D adx adm n cI cS cQ cZ h k x3 V M H locs ls ek hc hR hP hQ hS hl hn)
      | 4, _ => exact lv_tableIn (off := 192) (tgt := 234) S.1 S.2.1 d_law_42 (by decide) (by decide) (by decide) (by decide) (lc_protect l D adx adm n cI cS cQ cZ h k x3 V M H locs ls ek hc hR hP hQ hS hl hn)
      | 5, _ => exact lv_tableIn (off := 235) (tgt := 277) S.1 S.2.1 d_law_42 (by decide) (by decide) (by decide) (by decide) (lc_grow l D adx adm n cI cS cQ cZ h k x3 V M H locs ls ek hc hR hP hQ hS hl hn)
      | 6, _ => exact lv_tableIn (off := 268) (tgt := 310) S.1 S.2.1 d_law_42 (by decide) (by decide) (by decide) (by decide) (lc_size l D adx adm n cI cS cQ cZ h k x3 V M H locs ls ek hc hR hP hQ hS hl hn)
      | 7, _ => exact lv_tableIn (off := 291) (tgt := 333) S.1 S.2.1 d_law_42 (by decide) (by decide) (by decide) (by decide) (lc_load l D adx adm n cI cS cQ cZ h k x3 V M H locs ls ek hc hR hP hQ hS hl hn)
      | 8, _ => exact lv_tableIn (off := 334) (tgt := 376) S.1 S.2.1 d_law_42 (by decide) (by decide) (by decide) (by decide) (lc_fetch l D adx adm n cI cS cQ cZ h k x3 V M H locs ls ek hc hR hP hQ hS hl hn)
      | 9, _ => exact lv_tableIn (off := 367) (tgt := 409) S.1 S.2.1 d_law_42 (by decide) (by decide) (by decide) (by decide) (lc_store l D adx adm n cI cS cQ cZ h k x3 V M H locs ls ek hc hR hP hQ hS hl hn)
      | 10, _ => exact lv_tableIn (off := 420) (tgt := 462) S.1 S.2.1 d_law_42 (by decide) (by decide) (by decide) (by decide) (lc_trap l D adx adm n cI cS cQ cZ h k x3 V M H locs ls ek hc hR hP hQ hS hl hn)
      | 11, _ => exact lv_tableIn (off := 433) (tgt := 475) S.1 S.2.1 d_law_42 (by decide) (by decide) (by decide) (by decide) (lc_out l D adx adm n cI cS cQ cZ h k x3 V M H locs ls ek hc hR hP hQ hS hl hn)
      | 12, _ => exact lv_tableIn (off := 476) (tgt := 518) S.1 S.2.1 d_law_42 (by decide) (by decide) (by decide) (by decide) (lc_in l D adx adm n cI cS cQ cZ h k x3 V M H locs ls ek hc hR hP hQ hS hl hn)
      | 13, _ => exact lv_tableIn (off := 519) (tgt := 561) S.1 S.2.1 d_law_42 (by decide) (by decide) (by decide) (by decide) (lc_text l D adx adm n cI cS cQ cZ h k x3 V M H locs ls ek hc hR hP hQ hS hl hn)
      | 14, _ => exact lv_tableIn (off := 562) (tgt := 604) S.1 S.2.1 d_law_42 (by decide) (by decide) (by decide) (by decide) (lc_put l D adx adm n cI cS cQ cZ h k x3 V M H locs ls ek hc hR hP hQ hS hl hn)
      | 15, _ => exact lv_tableIn (off := 595) (tgt := 637) S.1 S.2.1 d_law_42 (by decide) (by decide) (by decide) (by decide) (lc_at l D adx adm n cI cS cQ cZ h k x3 V M H locs ls ek hc hR hP hQ hS hl hn)
      | 16, _ => exact lv_tableIn (off := 618) (tgt := 660) S.1 S.2.1 d_law_42 (by decide) (by decide) (by decide) (by decide) (lc_free l D adx adm n cI cS cQ cZ h k x3 V M H locs ls ek hc hR hP hQ hS hl hn)
      | 17, _ => exact lv_tableIn (off := 631) (tgt := 673) S.1 S.2.1 d_law_42 (by decide) (by decide) (by decide) (by decide) (lc_flags l D adx adm n cI cS cQ cZ h k x3 V M H locs ls ek hc hR hP hQ hS hl hn)
      | 18, _ => exact lv_tableIn (off := 664) (tgt := 706) S.1 S.2.1 d_law_42 (by decide) (by decide) (by decide) (by decide) (lc_owners l D adx adm n cI cS cQ cZ h k x3 V M H locs ls ek hc hR hP hQ hS hl hn)
      | v + 19, hv => exact lv_tableOut (tgt := 739) S.1 S.2.1 d_law_42 (Or.inr (by rw [nI_toInt (by omega)]; omega)) (by decide) (hn V M H locs ls (rl_none hR (h.c512 hc)) hP hQ hS hl)
