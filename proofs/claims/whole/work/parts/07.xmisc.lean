/-! numbers of loops -/
theorem lp_nn {x : Int32} {i : Nat} (ek : x = nI i) (hi : i < 2 ^ 31) : ¬ x < 0 := by
  rw [ek]
  exact nI_pos (by omega)
theorem lp_lt {x b : Int32} {i B : Nat} (hb : b = nI B) (hB : B < 2 ^ 31) (ek : x = nI i) (hi : i < 2 ^ 31) (c : ¬ b ≤ x) : i < B := by
  subst ek hb
  rcases Nat.lt_or_ge i B with q | q
  · exact q
  · exact absurd (nI_le q (by omega)) c
theorem vin_d {x b : Int32} {B : Nat} (hb : b = nI B) (hB : B < 2 ^ 31) (h0 : ¬ x < 0) (h1 : x < b) : vp_in x B := vin_c hb hB h0 (Int32.not_le.mpr h1)
theorem nI_self {x : Int32} (h : ¬ x < 0) : x = nI x.toNatClampNeg := by
  obtain ⟨j, hj, rfl⟩ := nI_of h
  rw [nI_clamp hj]
theorem clamp_lt (x : Int32) : x.toNatClampNeg < 2 ^ 31 := by
  by_cases h : x < 0
  · have h1 : x.toInt < 0 := by simpa using Int32.lt_iff_toInt_lt.mp h
    show x.toInt.toNat < 2 ^ 31
    omega
  · obtain ⟨j, hj, rfl⟩ := nI_of h
    rw [nI_clamp hj]
    exact hj
theorem nn_of1 {x : Int32} (h : ¬ x < 1) : ¬ x < 0 := fun q => h (Int32.lt_iff_toInt_lt.mpr (by
  have h1 := Int32.lt_iff_toInt_lt.mp q
  have e0 : (0 : Int32).toInt = 0 := rfl
  have e1 : (1 : Int32).toInt = 1 := rfl
  rw [e0] at h1
  rw [e1]
  omega))
theorem vin_n {x a : Int32} (h3 : ¬ a < 0) (h5 : a ≤ 512) (h0 : ¬ x < 0) (c : ¬ a ≤ x) : vp_in x 512 := by
  obtain ⟨j, hj, rfl⟩ := nI_of h0
  obtain ⟨b, hb, rfl⟩ := nI_of h3
  have h6 : b ≤ 512 := (nI_leI hb (by decide)).mp h5
  have h7 : j < b := by
    rcases Nat.lt_or_ge j b with q | q
    · exact q
    · exact absurd (nI_le q hj) c
  exact vp_in_nI (by omega) (by decide)
theorem c512 {a : Int32} (h3 : ¬ a < 0) (h5 : a ≤ 512) : a.toNatClampNeg ≤ 512 := by
  obtain ⟨b, hb, rfl⟩ := nI_of h3
  rw [nI_clamp hb]
  exact (nI_leI hb (by decide)).mp h5
theorem rem_eq {a : Int32} {q : Nat} (hq : q < 2 ^ 30) (ha : a = nI q) : a - a / 1024 * 1024 = nI (q % 1024) := by
  subst ha
  exact pk_rem (d := 1024) (by omega) (by decide) (by decide)
theorem rem_ek {a : Int32} {q : Nat} (hq : q < 2 ^ 30) (ha : a = nI q) : a - a / 1024 * 1024 = nI (a - a / 1024 * 1024).toNatClampNeg := by
  rw [rem_eq hq ha, nI_clamp (by omega)]
theorem rem_hi {a : Int32} {q : Nat} (hq : q < 2 ^ 30) (ha : a = nI q) : (a - a / 1024 * 1024).toNatClampNeg < 2 ^ 31 := by
  rw [rem_eq hq ha, nI_clamp (by omega)]
  omega
theorem div_ek {a : Int32} {q : Nat} (hq : q < 2 ^ 30) (ha : a = nI q) : a / 1024 = nI (q / 1024) := by
  subst ha
  exact pk_div (d := 1024) (by omega) (by decide) (by decide)
theorem ju12_lt (x : Int32) : x.toBitVec.toNat / 4096 < 2 ^ 30 := by
  have := x.toBitVec.isLt
  omega
theorem ju12 (x : Int32) : ju x 12 = nI (x.toBitVec.toNat / 4096) := by
  have h := pk_ushr x 12 12 (by decide)
  apply Int32.toBitVec_inj.mp
  apply BitVec.eq_of_toNat_eq
  rw [pk_tn (by have := ju12_lt x; omega)]
  exact h
section XM
variable {p : Program} {l : Launch} {e : Env} {R : Room} {s : State} {m : MethodId} {args : Array Value} {below : List Frame} {meth : Method} {c : Code} {H : Heap} {locs : List Loc} {cells slots : Nat} {Q : State → Prop}
variable {cc : ByteArray} {nL pc index : Nat} {ls : Array Slot} {rest st0 : List Value} {own : String} {D : va_G} {ad : Nat → Nat} {n : Nat} {cI cS cQ : ClassId} {V V' : VS} {H0 : Heap}
theorem xc_cpy {f g : Nat} (hP : va_P D classes (iw ad (xN n) (va_up (xc ad n cI cS cQ V) (22 + g) (.inl (cI, 1024, .inl (va_cpy (v_words V f) (v_words V g) 0 0 1024))))) H) : XP D ad n cI cS cQ (s_row V g (v_words V f)) H := by
  refine iw_eq (cel := va_up (xc ad n cI cS cQ V) (22 + g) (.inl (cI, 1024, .inl (v_words V f)))) (iw_cong hP (fun i _ h => ?_)) xc_rows
  by_cases e : i = 22 + g
  · subst e
    rw [va_up_self] at h ⊢
    exact arr_cong h (fun j hj => by rw [pk_cpy_in (Nat.zero_le j) (by omega)]; simp)
  · rw [va_up_ne _ _ e] at h ⊢
    exact h
theorem x_copy (S : CallFix p m c cc nL s args TG own) (hsz : ls.size = nL) (hE : xE ad n) (hK : xK D cI cS cQ s) (hP : XP D ad n cI cS cQ V H) (hS : va_S (iA ad (xN n)) H0 H locs) {f g : Nat} (hf : f < n) (hg : g < n) (hlink : Cond.methodLink own index arraycopyName ∈ TG) (hnat : Cond.native arraycopyName ∈ TG) (hst : Cond.static arraycopyName ∈ TG) (hini : Cond.initialized "java/lang/System" ∈ TG)
    (hfr : 1 ≤ R.frames) (hlo : (rest.map fun v => v.category).sum + (nativeFrameWords "java/lang/System" "arraycopy" 5 + 11) ≤ R.locals) (hdg : decode cc pc = .ok (.invokestatic index, 3))
    (kk : ∀ (H1 : Heap) (locs1 : List Loc), XP D ad n cI cS cQ (s_row V g (v_words V f)) H1 → va_S (iA ad (xN n)) H0 H1 locs1 → W p l e R s m args below meth c H1 locs1 cells slots Q (F0 m (pc + 3) ls rest)) :
    W p l e R s m args below meth c H locs cells slots Q (F0 m pc ls (.int 1024 :: .int 0 :: .ref (ad (22 + g)) :: .int 0 :: .ref (ad (22 + f)) :: rest)) := by
  have hts := S.2.2.2.2
  refine va_copyi (ty := .int) (f := v_words V f) (g := v_words V g) (c0 := cI) (c1 := cI) (n0 := 1024) (n1 := 1024) S.1 S.2.1 (S.2.2.1.trans hsz.symm) S.2.2.2.1 (hts _ hlink) (hts _ hnat) (hts _ hst) (hts _ hini) hK.1 hP (iw_D hE.1) hS (22 + f) (22 + g) 0 0 (by rw [iw_get (by unfold xN; omega), xc_row]) (by rw [iw_get (by unfold xN; omega), xc_row]) rfl rfl rfl (by decide) (by decide) (by decide) (by decide) (by decide) (fun _ _ => rfl) hfr hlo hdg (fun H1 locs1 h1 _ h3 => kk H1 locs1 (xc_cpy ?_) h3)
  rw [← iw_set (by unfold xN; omega)]
  exact h1
end XM
section XF
variable (l : Launch) (D : va_G) (ad : Nat → Nat) (n : Nat) (cI cS cQ : ClassId)
set_option maxHeartbeats 4000000 in
set_option maxRecDepth 100000 in
theorem w_A_fill (hE : xE ad n) {p : Program} {e : Env} {s : State} {m : MethodId} {args : Array Value} {below : List Frame} {meth : Method} {c : Code} (S : CallFix p m c b_A_fill 4 s args TG "java/util/Arrays") (hr : meth.sig.returnType = none) (hlk : meth.locks = false) (hK : xK D cI cS cQ s) (V : VS) (f : Nat) (hf : f < n) (v : Int32) :
    ∀ (t i : Nat) (x2 : Int32) (H : Heap) (locs : List Loc) (ls : Array Slot), x2 = nI i → i ≤ 1024 → 1024 - i < t → XP D ad n cI cS cQ (s_row V f (fun j => if j < i then v else v_words V f j)) H → va_S (iA ad (xN n)) s.heap H locs → lv_has ls 4 [(0, .ref (ad (22 + f))), (1, .int v), (2, .int x2), (3, .int (nI 1024))] →
      W p l e ({ frames := 0, cells := 0, slots := 0, locals := 0 }) s m args below meth c H locs 0 0 (MQ below (gPost D ad (xN n) none (xc ad n cI cS cQ (s_row V f (fun _ => v)))) args s 0 0 (iA ad (xN n))) (F0 m 5 ls []) := by
  intro t
  induction t with
  | zero => intro i x2 H locs ls _ _ h; exact absurd h (Nat.not_lt_zero _)
  | succ t ih =>
    intro i x2 H locs ls ek hi hf2 hP hS hl
    refine lv_iload_n S.1 S.2.1 d_A_fill_5 rfl (lv_at hl 2 rfl) ?_
    refine lv_iload_n S.1 S.2.1 d_A_fill_6 rfl (lv_at hl 3 rfl) ?_
    refine lv_icmp_ge (tgt := 20) S.1 S.2.1 d_A_fill_7 (by decide) (fun c7 => ?_) (fun c7 => ?_)
    · have hi2 : i = 1024 := by
        rcases Nat.lt_or_ge i 1024 with q | q
        · exact absurd (ek ▸ c7) (nI_ge q (by decide))
        · omega
      subst hi2
      refine x_vret S hr hlk (iw_cong hP (fun a ha h => ?_)) hS d_A_fill_20
      by_cases e : a = 22 + f
      · subst e
        rw [xc_row] at h ⊢
        refine arr_cong h (fun j hj => ?_)
        show va_up (v_words V) f (fun j => if j < 1024 then v else v_words V f j) f j = va_up (v_words V) f (fun _ => v) f j
        rw [va_up_self, va_up_self, if_pos hj]
      · have e1 : xc ad n cI cS cQ (s_row V f (fun _ => v)) a = xc ad n cI cS cQ V a := by rw [← xc_rows, va_up_ne _ _ e]
        have e2 : xc ad n cI cS cQ (s_row V f (fun j => if j < 1024 then v else v_words V f j)) a = xc ad n cI cS cQ V a := by rw [← xc_rows, va_up_ne _ _ e]
        rw [e2] at h
        rw [e1]
        exact h
    · have hB : i < 1024 := by
        rcases Nat.lt_or_ge i 1024 with q | q
        · exact q
        · exact absurd (by rw [ek]; exact nI_le q (by omega)) c7
      have hin : vp_in x2 1024 := by rw [ek]; exact vp_in_nI hB (by decide)
      refine lv_aload_n S.1 S.2.1 d_A_fill_10 rfl (lv_at hl 0 rfl) ?_
      refine lv_iload_n S.1 S.2.1 d_A_fill_11 rfl (lv_at hl 2 rfl) ?_
      refine lv_iload_n S.1 S.2.1 d_A_fill_12 rfl (lv_at hl 1 rfl) ?_
      refine x_ast_row S hE hK hP hS hf hin d_A_fill_13 (fun H locs hP hS => ?_)
      refine lv_iinc (v := x2 + 1) (lv' := [(2, .int (x2 + 1)), (0, .ref (ad (22 + f))), (1, .int v), (3, .int (nI 1024))]) S.1 S.2.1 d_A_fill_14 hl (k := 2) rfl rfl (by decide) rfl (fun ls hl => ?_)
      refine lv_goto (tgt := 5) S.1 S.2.1 d_A_fill_17 (by decide) ?_
      refine ih (i + 1) (x2 + 1) H locs ls (by rw [ek]; exact nI_1 i) (by omega) (by omega) (iw_eq hP (congrArg _ ?_)) hS (lv_sub hl [1, 2, 0, 3] rfl)
      unfold s_word
      have e : x2.toNatClampNeg = i := by rw [ek]; exact nI_clamp (by omega)
      rw [e]
      unfold s_row
      congr 6
      funext a
      by_cases ea : a = f
      · subst ea
        show va_up _ a _ a = va_up _ a _ a
        rw [va_up_self, va_up_self]
        funext j
        show upd (va_up (v_words V) a (fun j => if j < i then v else v_words V a j) a) i v j = _
        rw [va_up_self]
        by_cases ej : j = i
        · subst ej
          rw [pk_us, if_pos (by omega)]
        · rw [pk_un ej]
          by_cases h : j < i
          · rw [if_pos h, if_pos (by omega)]
          · rw [if_neg h, if_neg (by omega)]
      · show va_up (va_up _ f _) f _ a = va_up _ f _ a
        rw [va_up_ne _ _ ea, va_up_ne _ _ ea, va_up_ne _ _ ea]
set_option maxHeartbeats 4000000 in
set_option maxRecDepth 100000 in
/-- Arrays.fill over a frame's words -/
theorem c_A_fill (hE : xE ad n) (V : VS) (f : Nat) (hf : f < n) (v : Int32) : XC l D ad n cI cS cQ y_A_fill b_A_fill 4 none ({ frames := 0, cells := 0, slots := 0, locals := 0 }) [.ref (ad (22 + f)), .int v] V none (s_row V f (fun _ => v)) := by
  refine FC_intro (by decide) (Nat.le_of_ble_eq_true rfl) ?_
  intro p e s m below meth c ls S hr hlk hK hP hS hl
  have S : CallFix p m c b_A_fill 4 s _ TG "java/util/Arrays" := S
  have hl : lv_has ls 4 [(0, .ref (ad (22 + f))), (1, .int v)] := hl
  refine lv_iconst (v := 0) S.1 S.2.1 d_A_fill_0 (by decide) ?_
  refine lv_istore_n (lv' := [(2, .int 0), (0, .ref (ad (22 + f))), (1, .int v)]) S.1 S.2.1 d_A_fill_1 rfl hl (by decide) rfl (fun ls hl => ?_)
  refine lv_aload_n S.1 S.2.1 d_A_fill_2 rfl (lv_at hl 1 rfl) ?_
  refine x_len_row S hK hP hf d_A_fill_3 ?_
  refine lv_istore_n (lv' := [(3, .int (nI 1024)), (2, .int 0), (0, .ref (ad (22 + f))), (1, .int v)]) S.1 S.2.1 d_A_fill_4 rfl hl (by decide) rfl (fun ls hl => ?_)
  refine w_A_fill l D ad n cI cS cQ hE S hr hlk hK V f hf v 1025 0 0 _ _ ls nI_0.symm (by decide) (by decide) (iw_eq hP (congrArg _ ?_)) hS (lv_sub hl [2, 3, 1, 0] rfl)
  unfold s_row
  show V = _
  have e : va_up V.2.2.2.2.2.2 f (fun j => if j < 0 then v else v_words V f j) = V.2.2.2.2.2.2 := by
    funext a
    by_cases ea : a = f
    · subst ea
      rw [va_up_self]
      rfl
    · rw [va_up_ne _ _ ea]
  rw [e]
end XF
