section LC
variable (l : Launch)
set_option maxHeartbeats 4000000 in
set_option maxRecDepth 100000 in
/-- cell(script, 0) -/
theorem c_L_cell (b L : Nat) (xs : Nat → Int32) (hL : L ≤ 2561) : Met l y_L_cell (.code y_L_cell b_L_cell 2 (some .int) :: TG) ({ frames := 0, cells := 0, slots := 0, locals := 0 })
    (va_Pc [.ref b, .int 0] (fun U => va_X b L xs U U.heap ∧ b < U.heap.size)) (fun _ st oc t => oc = .returned (some (.int (if L = 0 then 0 else xs 0))) ∧ t.heap = st.heap) 0 0 (fun _ => False) := by
  refine Met.ofW (cc := b_L_cell) (maxL := 2) (ret := (some .int)) (by decide) rfl ?_
  intro p e s m args below meth c s₁ B hml hv
  obtain ⟨rfl, hX, hbl⟩ := hv
  have hts := atoms_spec (ws := .code y_L_cell b_L_cell 2 (some .int) :: TG) B.pre
  have hx := B.exec
  have hb := B.bytes
  have hr := B.returns
  have hlk := B.notSynchronized
  have hl := lv_entry ([.ref b, .int 0]) (n := 2) (Nat.le_of_ble_eq_true rfl)
  rw [lg_entry_eq]
  generalize (lg_sl ([.ref b, .int 0]) ++ List.replicate (2 - (lg_sl ([.ref b, .int 0])).length) Slot.unset).toArray = ls at hl ⊢
  have hl : lv_has ls 2 [(0, .ref b), (1, .int 0)] := hl
  have hS : va_S (fun _ => False) s.heap s.heap [] := va_S.rf
  refine lv_iload_n hx hb d_L_cell_0 rfl (lv_at hl 1 rfl) ?_
  refine lv_aload_n hx hb d_L_cell_1 rfl (lv_at hl 0 rfl) ?_
  refine va_slen hx hb hX hbl (fun h => h) hS d_L_cell_2 ?_
  refine lv_icmp_ge (tgt := 12) hx hb d_L_cell_3 (by decide) (fun c1 => ?_) (fun c1 => ?_)
  · have h0 : L = 0 := by
      rcases Nat.eq_zero_or_pos L with h | h
      · exact h
      · exact absurd c1 (nI_nle h (by omega))
    refine lv_iconst (v := 0) hx hb d_L_cell_12 (by decide) ?_
    exact W.iret (v := 0) hx hb hr (fun t ht hW => ⟨by rw [if_pos h0], ht⟩) (fun q h => by cases h) d_L_cell_13
  · have h0 : ¬ L = 0 := fun h => c1 (by rw [h]; decide)
    have hin : vp_in 0 L := by
      have := vp_in_nI (n := 0) (N := L) (by omega) (by omega)
      rw [nI_0] at this
      exact this
    refine lv_aload_n hx hb d_L_cell_6 rfl (lv_at hl 0 rfl) ?_
    refine lv_iload_n hx hb d_L_cell_7 rfl (lv_at hl 1 rfl) ?_
    refine va_sld hx hb hX hbl (fun h => h) hS hin d_L_cell_8 ?_
    refine lv_goto (tgt := 13) hx hb d_L_cell_9 (by decide) ?_
    exact W.iret (v := xs 0) hx hb hr (fun t ht hW => ⟨by rw [if_neg h0], ht⟩) (fun q h => by cases h) d_L_cell_13
end LC
section LS
variable {p : Program} {l : Launch} {e : Env} {s : State} {m : MethodId} {below : List Frame} {meth : Method} {c : Code} {b L : Nat} {xs : Nat → Int32} {H : Heap} {locs : List Loc} {cells slots : Nat} {Q : State → Prop} {pc : Nat} {ls : Array Slot} {rest : List Value} {A : Nat → Prop}
theorem l_cell (S : CallFix p m c code 4 s #[Value.ref b] TG "PageVaultLaw") (hX : va_X b L xs s s.heap) (hbl : b < s.heap.size) (hL : L ≤ 2561) (hbA : ¬ A b) (hS : va_S A s.heap H locs) (hcs : cells ≤ room_1.cells ∧ slots ≤ room_1.slots) (hsz : ls.size = 4) (hW : (rest.map fun v => v.category).sum ≤ 8) (hdg : decode code pc = .ok (.invokestatic 9, 3))
    (kk : W p l e room_1 s m #[Value.ref b] below meth c H locs cells slots Q (F0 m (pc + 3) ls (.int (if L = 0 then 0 else xs 0) :: rest))) : W p l e room_1 s m #[Value.ref b] below meth c H locs cells slots Q (F0 m pc ls (.int 0 :: .ref b :: rest)) := by
  have hts := S.2.2.2.2
  have hX2 : va_X b L xs s H := hX.kept (hS.2.1 b hbl hbA)
  have hb2 : b < H.size := Nat.lt_of_lt_of_le hbl hS.1
  have hr := va_runS (e := e) (R := room_1) (below := below) (meth := meth) (H := H) (locs := locs) (cells := cells) (slots := slots) (As := [.ref b, .int 0]) (rest := rest) (g := F0 m pc ls (.int 0 :: .ref b :: rest)) S (c_L_cell l b L xs hL) (bytes := b_L_cell) (maxL := 2) (ret := some .int) (n := 2) ⟨⟨rfl, rfl, Nat.le_of_ble_eq_true rfl, Nat.le_of_ble_eq_true rfl, TG_pay hts tg_43, List.mem_cons_self, hts _ tg_43, hts _ tg_36, by decide +kernel, par_n (by decide +kernel), hts _ tg_41⟩, hts _ tg_42⟩
    ⟨fun a U g mk h => ⟨h.1, va_X.moved (u := U) (U := U.calling g mk a) (Vm.Alike.refl U.vm) h.2.1, h.2.2⟩, fun U hU hW => ⟨rfl, by rw [hU]; exact va_X.moved hW.alike hX2, by rw [hU]; exact hb2⟩⟩ rfl rfl hsz rfl (lv_room hW) hdg hcs
  intro T hT X
  obtain ⟨v, st₀, t, T', Lc, h0, X', hLc, e1, e2, ⟨hv, hh⟩, st⟩ := hr T hT X
  cases hv
  obtain ⟨t2, a1, b1⟩ := kk T' (by rw [e1, hh, h0]) (Stand.forget X' (fun q h => (hLc q h).elim))
  exact ⟨t2, st t2 a1, b1⟩
end LS
theorem oneE {D : va_G} {q : Nat} {ci : Nat} {fs : List Value} {H : Heap} (hP : va_P D classes [(q, .inr (ci, fs))] H) : va_at D classes (q, .inr (ci, fs)) H := hP 0 _ rfl
set_option maxHeartbeats 8000000 in
set_option maxRecDepth 100000 in
/-- THE LAW, from its entry -/
theorem whole_start {p : Program} {e : Env} {s : State} {m : MethodId} {below : List Frame} {meth : Method} {c : Code} (l : Launch) {b L : Nat} {xs : Nat → Int32} (hL : L ≤ 2561) (C0 : lw_At p s m meth c b L xs) : W p l e room_1 s m #[Value.ref b] below meth c s.heap [] 0 0 (lw_Z below #[Value.ref b] s) (entryFrame m ([Value.ref b] : List Value).toArray 4) := by
  obtain ⟨hx, hb, hr, hml, hown, hts0, hX, hbl, hlocks, hgv⟩ := id C0
  have hts : ∀ w ∈ TG, w.before #[Value.ref b] s = true := fun w hw => hts0 w (TG_in w hw)
  have S : CallFix p m c code 4 s #[Value.ref b] TG "PageVaultLaw" := ⟨hx, hb, hml, hown, hts⟩
  have hA : ∀ q : Nat, s.heap.size ≤ q → (fun q : Nat => s.heap.size ≤ q) q := fun _ h => h
  have hbA : ¬ (fun q : Nat => s.heap.size ≤ q) b := Nat.not_le.mpr hbl
  obtain ⟨c0, iS0, hKn0⟩ := u_known (C := "PageVault") (T := F_V) (N := 4) (n := 4) hts i_V (hts _ tg_7)
  obtain ⟨c1, iS1, hKn1⟩ := u_known (C := "PageVault$Frames") (T := F_F) (N := 3) (n := 3) hts i_F (hts _ tg_8)
  obtain ⟨c2, iS2, hKn2⟩ := u_known (C := "PageVault$Space") (T := F_S) (N := 3) (n := 3) hts i_S (hts _ tg_9)
  obtain ⟨c3, iS3, hKn3⟩ := u_known (C := "PageVaultModel") (T := F_M) (N := 19) (n := 19) hts i_M (hts _ tg_10)
  obtain ⟨D, hKc⟩ : ∃ D : va_G, ∀ (k : Nat) (q : vw_C), classes[k]? = some q → u_Kn s q.1 q.2.1 q.2.2 (D.1 k) (D.2 k) := by
    refine ⟨(fun k => match k with | 0 => c0 | 1 => c1 | 2 => c2 | _ => c3, fun k => match k with | 0 => iS0 | 1 => iS1 | 2 => iS2 | _ => iS3), ?_⟩
    intro k q hq
    match k, hq with
    | 0, hq => cases hq; exact hKn0
    | 1, hq => cases hq; exact hKn1
    | 2, hq => cases hq; exact hKn2
    | 3, hq => cases hq; exact hKn3
    | k + 4, hq => simp [classes] at hq
  have hAOA : (Cond.arrayOver (.array .int)).before #[] s = true := hts0 (.arrayOver (.array .int)) (by decide +kernel)
  have hAO : va_AO "PageVault$Space" s := va_AO.of (hts0 (.arrayOver (.object "PageVault$Space")) (by decide +kernel))
  obtain ⟨cI, kI, compI, hI1, hI2, hI3⟩ := Cond.arrayClass_spec (hts _ tg_1)
  obtain ⟨cZ, kZ, compZ, hZ1, hZ2, hZ3⟩ := Cond.arrayClass_spec (hts _ tg_2)
  obtain ⟨compS, cS, kS, hS1, hS2, hS3, hS4, hS5⟩ := Cond.arrayOver_spec (id hAO : (Cond.arrayOver (.object "PageVault$Space")).before #[] s = true)
  obtain ⟨compQ, cQ, kQ, hQ1, hQ2, hQ3, hQ4, hQ5⟩ := arrayOverA_spec hAOA
  have rI : ArrOfT s cI .int ∧ va_RA s cI .int := ⟨fun N z => ⟨(fun q hq => by cases hq), kI, hI2, compI, hI3⟩, hI1⟩
  have rZ : ArrOfT s cZ .boolean ∧ va_RA s cZ .boolean := ⟨fun N z => ⟨(fun q hq => by cases hq), kZ, hZ2, compZ, hZ3⟩, hZ1⟩
  have rS : ArrOfT s cS (.object "PageVault$Space") ∧ va_RA s cS (.object "PageVault$Space") := ⟨fun N z => ⟨(fun q hq => by cases hq), kS, hS3, compS, hS4⟩, kS, compS, hS3, hS4, hS1, hS5⟩
  have rQ : ArrOfT s cQ (.array .int) ∧ va_RA s cQ (.array .int) := ⟨fun N z => ⟨(fun q hq => by cases hq), kQ, hQ3, compQ, hQ4⟩, hQ5⟩
  have hKx : va_K D classes (xT cI cS cQ) s := ⟨hKc, fun k q hk => by
    match k, hk with
    | 0, hk => cases hk; exact rI
    | 1, hk => cases hk; exact rS
    | 2, hk => cases hk; exact rQ
    | k + 3, hk => simp [xT] at hk⟩
  have hKm : mK D cI cZ s := ⟨hKc, fun k q hk => by
    match k, hk with
    | 0, hk => cases hk; exact rI
    | 1, hk => cases hk; exact rZ
    | k + 2, hk => simp [mT] at hk⟩
  have hKcc : cK D cI cS cQ s := ⟨hKx, hAOA, hAO⟩
  have hKX : xK D cI cS cQ s := ⟨hKx, fun w hw => va_Nw.of (NL_t w hw) (hts0 w (NL_in w hw))⟩
  have hS : va_S (fun q : Nat => s.heap.size ≤ q) s.heap s.heap [] := va_S.rf
  have hP : va_P D classes [] s.heap := fun k q h => by simp at h
  have hD : va_D (fun q : Nat => s.heap.size ≤ q) [] := ⟨fun i j p q h => by simp at h, fun k q h => by simp at h⟩
  have hl := lv_entry ([.ref b]) (n := 4) (Nat.le_of_ble_eq_true rfl)
  rw [lg_entry_eq]
  generalize (lg_sl ([.ref b]) ++ List.replicate (4 - (lg_sl ([.ref b])).length) Slot.unset).toArray = ls at hl ⊢
  have hl : lv_has ls 4 [(0, .ref b)] := hl
  obtain ⟨a1, ha1⟩ : ∃ a1 : Int32, a1 = if L = 0 then 0 else xs 0 := ⟨_, rfl⟩
  refine va_new (ci := 0) (fs := [.null, .null, .null, .int 0]) (C := "PageVault") (T := F_V) (N := 4) S.1 S.2.1 hts i_V t_V tok_V hown (hts _ tg_5) (hts _ tg_7) (hts _ tg_37) hKx hP hD hS hA rfl (fun j hj => by rcases (show j = 0 ∨ j = 1 ∨ j = 2 ∨ j = 3 by omega) with rfl | rfl | rfl | rfl <;> rfl) (Nat.le_of_ble_eq_true rfl) (Nat.le_of_ble_eq_true rfl) d_law_0 (fun v0 H hP hD hS => ?_)
  have hat := oneE hP
  have hv0 : s.heap.size ≤ v0 := hD.2 0 _ rfl
  refine lv_dup S.1 S.2.1 d_law_3 rfl ?_
  refine lv_aload_n S.1 S.2.1 d_law_4 rfl (lv_at hl 0 rfl) ?_
  refine lv_iconst (v := 0) S.1 S.2.1 d_law_5 (by decide) ?_
  refine l_cell S hX hbl hL hbA hS ⟨Nat.le_of_ble_eq_true rfl, Nat.le_of_ble_eq_true rfl⟩ hl.1 (Nat.le_of_ble_eq_true rfl) d_law_6 ?_
  rw [← ha1]
  refine c_callI (nA := 1) (As := [.int a1]) (rest := [.ref v0]) (b := v0) S (c_V_init l D cI cS cQ v0 H.size a1) (fun a st v t h => by cases h.1; rfl) (fun a U g mk h => ⟨h.1, h.2.1, h.2.2.1, cK.moved (u := U) (U := U.calling g mk a) (Vm.Alike.refl U.vm) h.2.2.2⟩) (fun U hU hW => ⟨rfl, by rw [hU], by rw [hU]; exact hat, cK.moved hW.alike hKcc⟩) tg_27 tg_37 tg_19 tg_23 rfl (by decide +kernel) (by decide +kernel) ⟨rfl, rfl, Nat.le_of_ble_eq_true rfl, Nat.le_of_ble_eq_true rfl⟩ ⟨Nat.le_of_ble_eq_true rfl, Nat.le_of_ble_eq_true rfl⟩ rfl hl.1 rfl (Nat.le_of_ble_eq_true rfl) d_law_9 (fun st t H1 Lc hst ht hvm hQ hLc => ?_)
  obtain ⟨-, ⟨adx, x0, xJ, xB, hPX⟩, hz, hkeep⟩ := hQ
  rw [ht] at hPX
  rw [hst, ht] at hz hkeep
  have hS1 : va_S (fun q : Nat => s.heap.size ≤ q) s.heap H1 ([] ++ Lc) := by
    refine ⟨Nat.le_trans hS.1 hz, fun x g1 g2 => ?_, fun x hx => ?_⟩
    · rw [hkeep x (Nat.lt_of_lt_of_le g1 hS.1) (fun z => ?_)]
      · exact hS.2.1 x g1 g2
      · rcases z with z | z
        · exact g2 (by rw [z]; exact hv0)
        · exact g2 (Nat.le_trans hS.1 z)
    · rcases hLc x hx with z | z
      · show s.heap.size ≤ x.base
        rw [z]
        exact hv0
      · exact Nat.le_trans hS.1 z
  have xA : ∀ i, i < xN (nOf a1) → s.heap.size ≤ adx i := fun i hi => by
    by_cases h0 : i = 0
    · subst h0
      rw [x0]
      exact hv0
    · exact Nat.le_trans hS.1 (xB i hi h0)
  refine lv_astore_n (lv' := [(1, .ref v0), (0, .ref b)]) S.1 S.2.1 d_law_12 rfl hl (by decide) rfl (fun ls hl => ?_)
  have hP : va_P D classes [] H1 := fun k q h => by simp at h
  have hD : va_D (fun q : Nat => s.heap.size ≤ q) [] := ⟨fun i j p q h => by simp at h, fun k q h => by simp at h⟩
  refine va_new (ci := 3) (fs := [.int 0, .int 0, .null, .null, .null, .null, .null, .null, .int 0, .int 0, .null, .null, .int 0, .null, .null, .null, .null, .null, .int 0]) (C := "PageVaultModel") (T := F_M) (N := 19) (ws := iw adx (xN (nOf a1)) (xc adx (nOf a1) cI cS cQ (V0 (nOf a1)))) S.1 S.2.1 hts i_M t_M tok_M hown (hts _ tg_6) (hts _ tg_10) (hts _ tg_40) hKx hPX (iw_D2 xJ xA) hS1 hA rfl (fun j hj => by rcases (show j = 0 ∨ j = 1 ∨ j = 2 ∨ j = 3 ∨ j = 4 ∨ j = 5 ∨ j = 6 ∨ j = 7 ∨ j = 8 ∨ j = 9 ∨ j = 10 ∨ j = 11 ∨ j = 12 ∨ j = 13 ∨ j = 14 ∨ j = 15 ∨ j = 16 ∨ j = 17 ∨ j = 18 by omega) with rfl | rfl | rfl | rfl | rfl | rfl | rfl | rfl | rfl | rfl | rfl | rfl | rfl | rfl | rfl | rfl | rfl | rfl | rfl <;> rfl) (Nat.le_of_ble_eq_true rfl) (Nat.le_of_ble_eq_true rfl) d_law_13 (fun m0 H2 hP2 hD2 hS2 => ?_)
  have hatM : va_at D classes (m0, .inr (3, [.int 0, .int 0, .null, .null, .null, .null, .null, .null, .int 0, .int 0, .null, .null, .int 0, .null, .null, .null, .null, .null, .int 0])) H2 := by
    rw [iw_push] at hP2
    have h := hP2 (xN (nOf a1)) _ (iw_get (by omega))
    rw [va_up_self, va_up_self] at h
    exact h
  have hm0 : s.heap.size ≤ m0 := by
    rw [iw_push] at hD2
    have h := hD2.2 (xN (nOf a1)) _ (iw_get (by omega))
    rw [va_up_self] at h
    exact h
  have hmx : ∀ i, i < xN (nOf a1) → adx i ≠ m0 := fun i hi z => by
    rw [iw_push] at hD2
    have h := iJ_of hD2 i (xN (nOf a1)) (by omega) (by omega) (by rw [va_up_ne _ _ (by omega), va_up_self]; exact z)
    omega
  have hPX2 : XP D adx (nOf a1) cI cS cQ (V0 (nOf a1)) H2 := by
    rw [iw_push] at hP2
    intro k q hq
    obtain ⟨hk, rfl⟩ := iw_at hq
    have h := hP2 k _ (iw_get (by omega))
    rw [va_up_ne _ _ (by omega), va_up_ne _ _ (by omega)] at h
    exact h
  refine lv_dup S.1 S.2.1 d_law_16 rfl ?_
  refine lv_aload_n S.1 S.2.1 d_law_17 rfl (lv_at hl 1 rfl) ?_
  refine lv_iconst (v := 0) S.1 S.2.1 d_law_18 (by decide) ?_
  refine l_cell S hX hbl hL hbA hS2 ⟨Nat.le_of_ble_eq_true rfl, Nat.le_of_ble_eq_true rfl⟩ hl.1 (Nat.le_of_ble_eq_true rfl) d_law_19 ?_
  rw [← ha1]
  refine c_callI (nA := 1) (As := [.int a1]) (rest := [.ref m0]) (b := m0) S (c_M_init l D cI cZ m0 H2.size a1) (fun a st v t h => by cases h.1; rfl) (fun a U g mk h => ⟨h.1, h.2.1, h.2.2.1, va_K.moved (u := U) (U := U.calling g mk a) (Vm.Alike.refl U.vm) h.2.2.2⟩) (fun U hU hW => ⟨rfl, by rw [hU], by rw [hU]; exact hatM, va_K.moved hW.alike hKm⟩) tg_28 tg_40 tg_20 tg_24 rfl (by decide +kernel) (by decide +kernel) ⟨rfl, rfl, Nat.le_of_ble_eq_true rfl, Nat.le_of_ble_eq_true rfl⟩ ⟨Nat.le_of_ble_eq_true rfl, Nat.le_of_ble_eq_true rfl⟩ rfl hl.1 rfl (Nat.le_of_ble_eq_true rfl) d_law_22 (fun st t H3 Lm hst ht hvm hQ hLm => ?_)
  obtain ⟨-, ⟨adm, y0, yJ, yB, hPM⟩, hz2, hkeep2⟩ := hQ
  rw [ht] at hPM
  rw [hst, ht] at hz2 hkeep2
  have yA : ∀ j, j < mN → s.heap.size ≤ adm j := fun j hj => by
    by_cases h0 : j = 0
    · subst h0
      rw [y0]
      exact hm0
    · exact Nat.le_trans hS2.1 (yB j hj h0)
  have hdj : ∀ i j, i < xN (nOf a1) → j < mN → adx i ≠ adm j := fun i j hi hj z => by
    by_cases h0 : j = 0
    · subst h0
      exact hmx i hi (z.trans y0)
    · have h1 := yB j hj h0
      have h2 := iw_lt hPX2 hi
      omega
  have hPX3 : XP D adx (nOf a1) cI cS cQ (V0 (nOf a1)) H3 := iw_kept hPX2 (fun q hq => by
    obtain ⟨i, hi, rfl⟩ := hq
    refine hkeep2 _ (iw_lt hPX2 hi) (fun z => ?_)
    rcases z with z | z
    · exact hmx i hi z
    · have := iw_lt hPX2 hi
      omega)
  have hS3 : va_S (fun q : Nat => s.heap.size ≤ q) s.heap H3 (([] ++ Lc) ++ Lm) := by
    refine ⟨Nat.le_trans hS2.1 hz2, fun x g1 g2 => ?_, fun x hx => ?_⟩
    · rw [hkeep2 x (Nat.lt_of_lt_of_le g1 hS2.1) (fun z => ?_)]
      · exact hS2.2.1 x g1 g2
      · rcases z with z | z
        · exact g2 (by rw [z]; exact hm0)
        · exact g2 (Nat.le_trans hS2.1 z)
    · rcases List.mem_append.mp hx with h | h
      · exact hS2.2.2 x h
      · rcases hLm x h with z | z
        · show s.heap.size ≤ x.base
          rw [z]
          exact hm0
        · exact Nat.le_trans hS2.1 z
  refine lv_astore_n (lv' := [(2, .ref m0), (1, .ref v0), (0, .ref b)]) S.1 S.2.1 d_law_25 rfl hl (by decide) rfl (fun ls hl => ?_)
  refine lv_iconst (v := 1) S.1 S.2.1 d_law_26 (by decide) ?_
  refine lv_istore_n (lv' := [(3, .int 1), (2, .ref m0), (1, .ref v0), (0, .ref b)]) S.1 S.2.1 d_law_27 rfl hl (by decide) rfl (fun ls hl => ?_)
  refine W.widen (k := 100) (n := 50000) (by decide) (by decide) ?_
  have hLE : LE D adx adm (nOf a1) cI cS cQ cZ p s m meth c b L xs := ⟨C0, hL, hKX, hKm, ⟨xJ, (nOf_in a1).2.1⟩, yJ, hdj, xA, yA⟩
  rw [← x0, ← y0] at hl
  exact law_loop l D adx adm (nOf a1) cI cS cQ cZ hLE 513 0 1 (V0 (nOf a1)) (M0 (nOf a1)) _ _ _ (by decide) (by decide) (by decide) (rl_init (nOf_in a1).1 (nOf_in a1).2.1) hPX3 hPM hS3 (lv_sub hl [3, 2, 1, 0] rfl)
