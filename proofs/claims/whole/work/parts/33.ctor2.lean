/-- the cells that a maker may write: its object and what it makes -/
def kF (h0 sz : Nat) : Nat → Prop := fun q => q = h0 ∨ sz ≤ q
/-- Frames: cells 0 the object, 1 words, 2 + f the rows, n + 2 holders -/
def fF (cI cQ : ClassId) (n : Nat) (ad : Nat → Nat) (i : Nat) : va_E :=
  if i = 0 then .inr (1, [.ref (ad 1), .ref (ad (n + 2)), .int (nI n)]) else if i = 1 then .inl (cQ, n, .inr (.inr (.inr (.inr (fun j => some (ad (2 + j))))))) else if i < n + 2 then .inl (cI, 1024, .inl (fun _ => 0)) else .inl (cI, n, .inl (fun _ => 0))
theorem arrq_cong {D : va_G} {cl : List vw_C} {a : Nat} {cA : ClassId} {n : Nat} {f g : Nat → Option Nat} {H : Heap} (h : va_at D cl (a, .inl (cA, n, .inr (.inr (.inr (.inr f))))) H) (hfg : ∀ j, j < n → f j = g j) : va_at D cl (a, .inl (cA, n, .inr (.inr (.inr (.inr g))))) H := by
  have e : vp_cell cA (n, .inr (.inr (.inr (.inr f)))) = vp_cell cA (n, .inr (.inr (.inr (.inr g)))) := by
    rw [vp_cell_q, vp_cell_q]
    unfold arrV
    congr 1
    congr 1
    funext j
    show va_rf (f j.val) = va_rf (g j.val)
    rw [hfg j.val j.isLt]
  show H[a]? = some (vp_cell cA (n, .inr (.inr (.inr (.inr g)))))
  rw [← e]
  exact h
theorem iw_set2 {ad : Nat → Nat} {N : Nat} {cel : Nat → va_E} {i a : Nat} {e : va_E} (h : i < N) (ha : ad i = a) : (iw ad N cel).set i (a, e) = iw ad N (va_up cel i e) := by
  subst ha
  exact iw_set h
theorem oneW {D : va_G} {h0 : Nat} {e0 : va_E} {H : Heap} (h : va_at D classes (h0, e0) H) : va_P D classes (iw (fun _ => h0) 1 (fun _ => e0)) H := fun k q hq => by
  obtain ⟨hk, rfl⟩ := iw_at hq
  exact h
theorem oneD {h0 sz : Nat} {e0 : va_E} : va_D (kF h0 sz) (iw (fun _ => h0) 1 (fun _ => e0)) := iw_D2 (fun i j hi hj _ => by omega) (fun i hi => Or.inl rfl)
section CF
variable (l : Launch) (D : va_G) (cI cS cQ : ClassId)
set_option maxHeartbeats 4000000 in
set_option maxRecDepth 100000 in
theorem c_S_init (h0 fr sz : Nat) : Met l y_S_init (.code y_S_init b_S_init 2 none :: TG) ({ frames := 1, cells := 0, slots := 0, locals := 12 })
    (va_Pc [.ref h0, .ref fr] (fun U => U.heap.size = sz ∧ va_at D classes (h0, .inr (2, [.null, .int 0, .int 0])) U.heap ∧ cK D cI cS cQ U))
    (fun _ st oc t => oc = .returned none ∧ va_at D classes (h0, .inr (2, [.ref fr, .int (-1), .int 0])) t.heap ∧ va_F (kF h0 sz) st t) 0 0 (kF h0 sz) := by
  refine Met.ofW (cc := b_S_init) (maxL := 2) (ret := none) (by decide) rfl ?_
  intro p e s m args below meth c s₁ B hml hv
  obtain ⟨rfl, hsz, hP0, hK⟩ := hv
  have hts := atoms_spec (ws := .code y_S_init b_S_init 2 none :: TG) B.pre
  have S : CallFix p m c b_S_init 2 s #[Value.ref h0, Value.ref fr] TG "PageVault$Space" := ⟨B.exec, B.bytes, hml, findClass_of_methodNamed B.named, fun w h => hts w (List.mem_cons_of_mem _ h)⟩
  have hr := B.returns
  have hlk := B.notSynchronized
  have hin : meth.name = "<init>" := (name_of_methodNamed B.named B.method).1
  subst hsz
  have hl := lv_entry ([.ref h0, .ref fr]) (n := 2) (Nat.le_of_ble_eq_true rfl)
  rw [lg_entry_eq]
  generalize (lg_sl ([.ref h0, .ref fr]) ++ List.replicate (2 - (lg_sl ([.ref h0, .ref fr])).length) Slot.unset).toArray = ls at hl ⊢
  have hl : lv_has ls 2 [(0, .ref h0), (1, .ref fr)] := hl
  have hP := oneW hP0
  have hD := oneD (h0 := h0) (sz := s.heap.size) (e0 := .inr (2, [.null, .int 0, .int 0]))
  have hS : va_S (kF h0 s.heap.size) s.heap s.heap [] := va_S.rf
  refine lv_aload_n S.1 S.2.1 d_S_init_0 rfl (lv_at hl 0 rfl) ?_
  refine W.objInit S.1 S.2.1 S.2.2.2.1 (S.2.2.2.2 _ tg_13) (S.2.2.2.2 _ tg_15) (S.2.2.2.2 _ tg_16) rfl (by rw [hml]; exact hl.1) rfl d_S_init_1 (Nat.le_of_ble_eq_true rfl) (Nat.le_of_ble_eq_true rfl) ?_
  refine W.eq (g2 := F0 m 4 ls []) rfl ?_
  refine lv_aload_n S.1 S.2.1 d_S_init_4 rfl (lv_at hl 0 rfl) ?_
  refine lv_aload_n S.1 S.2.1 d_S_init_5 rfl (lv_at hl 1 rfl) ?_
  refine va_putF (D := D) (ci := 2) (v := .ref fr) (ty := .object "PageVault$Frames") (C := "PageVault$Space") (T := F_S) (N := 3) S.1 S.2.1 S.2.2.2.2 i_S t_S tok_S n_S S.2.2.2.1 hK.1 hP hD hS 0 (fs := [.null, .int 0, .int 0]) rfl rfl 0 (by decide) (S.2.2.2.2 _ tg_47) (fun _ h9 => h9) rfl hin rfl (by decide +kernel) rfl rfl (Nat.le_of_ble_eq_true rfl) d_S_init_6 (fun H locs hP hD hS => ?_)
  rw [iw_set (ad := fun _ => h0) (by decide)] at hP hD
  refine lv_aload_n S.1 S.2.1 d_S_init_9 rfl (lv_at hl 0 rfl) ?_
  refine lv_iconst (v := -1) S.1 S.2.1 d_S_init_10 (by decide) ?_
  refine va_put (D := D) (ci := 2) (v := .int (-1)) (ty := .int) (C := "PageVault$Space") (T := F_S) (N := 3) S.1 S.2.1 S.2.2.2.2 i_S t_S tok_S n_S S.2.2.2.1 hK.1 hP hD hS 0 (fs := [.ref fr, .int 0, .int 0]) rfl rfl 1 (by decide) (S.2.2.2.2 _ tg_48) (fun _ h9 => h9) rfl (by decide +kernel) rfl rfl (Nat.le_of_ble_eq_true rfl) d_S_init_11 (fun H locs hP hD hS => ?_)
  rw [iw_set (ad := fun _ => h0) (by decide)] at hP hD
  exact W.vret S.1 S.2.1 hr (fun t ht hW => ⟨rfl, by rw [ht]; exact hP 0 _ (iw_get (by decide)), hS.F ht⟩) hS.2.2 d_S_init_14
set_option maxHeartbeats 4000000 in
set_option maxRecDepth 100000 in
theorem c_F_init (h0 sz n : Nat) (hn : n ≤ 32) : Met l y_F_init (.code y_F_init b_F_init 2 none :: TG) ({ frames := 1, cells := 40, slots := 33000, locals := 12 })
    (va_Pc [.ref h0, .int (nI n)] (fun U => U.heap.size = sz ∧ va_at D classes (h0, .inr (1, [.null, .null, .int 0])) U.heap ∧ cK D cI cS cQ U))
    (fun _ st oc t => oc = .returned none ∧ (∃ ad : Nat → Nat, ad 0 = h0 ∧ iJ ad (n + 3) ∧ (∀ i, i < n + 3 → i ≠ 0 → sz ≤ ad i) ∧ va_P D classes (iw ad (n + 3) (fF cI cQ n ad)) t.heap) ∧ va_F (kF h0 sz) st t) 40 33000 (kF h0 sz) := by
  refine Met.ofW (cc := b_F_init) (maxL := 2) (ret := none) (by decide) rfl ?_
  intro p e s m args below meth c s₁ B hml hv
  obtain ⟨rfl, hsz, hP0, hK⟩ := hv
  have hts := atoms_spec (ws := .code y_F_init b_F_init 2 none :: TG) B.pre
  have S : CallFix p m c b_F_init 2 s #[Value.ref h0, Value.int (nI n)] TG "PageVault$Frames" := ⟨B.exec, B.bytes, hml, findClass_of_methodNamed B.named, fun w h => hts w (List.mem_cons_of_mem _ h)⟩
  have hr := B.returns
  have hlk := B.notSynchronized
  have hin : meth.name = "<init>" := (name_of_methodNamed B.named B.method).1
  subst hsz
  have hl := lv_entry ([.ref h0, .int (nI n)]) (n := 2) (Nat.le_of_ble_eq_true rfl)
  rw [lg_entry_eq]
  generalize (lg_sl ([.ref h0, .int (nI n)]) ++ List.replicate (2 - (lg_sl ([.ref h0, .int (nI n)])).length) Slot.unset).toArray = ls at hl ⊢
  have hl : lv_has ls 2 [(0, .ref h0), (1, .int (nI n))] := hl
  have hP := oneW hP0
  have hD := oneD (h0 := h0) (sz := s.heap.size) (e0 := .inr (1, [.null, .null, .int 0]))
  have hS : va_S (kF h0 s.heap.size) s.heap s.heap [] := va_S.rf
  have hA : ∀ q, s.heap.size ≤ q → kF h0 s.heap.size q := fun q h => Or.inr h
  refine lv_aload_n S.1 S.2.1 d_F_init_0 rfl (lv_at hl 0 rfl) ?_
  refine W.objInit S.1 S.2.1 S.2.2.2.1 (S.2.2.2.2 _ tg_12) (S.2.2.2.2 _ tg_15) (S.2.2.2.2 _ tg_16) rfl (by rw [hml]; exact hl.1) rfl d_F_init_1 (Nat.le_of_ble_eq_true rfl) (Nat.le_of_ble_eq_true rfl) ?_
  refine W.eq (g2 := F0 m 4 ls []) rfl ?_
  refine lv_aload_n S.1 S.2.1 d_F_init_4 rfl (lv_at hl 0 rfl) ?_
  refine lv_iload_n S.1 S.2.1 d_F_init_5 rfl (lv_at hl 1 rfl) ?_
  refine lv_sipush (v := 1024) S.1 S.2.1 d_F_init_6 (by decide) ?_
  refine c_mna (n' := n) (k' := 1024) S hK hP hD hS hA tg_0 tg_1 rfl (by decide) (by omega) (by decide) (by show 0 + (1 + n) ≤ 40; omega) (by show 0 + (n + n * 1024) ≤ 33000; omega) d_F_init_9 (fun ad H h1 hP hD hS => ?_)
  have e0 : ad 0 = h0 := h1 0 (by decide)
  refine va_putF (D := D) (ci := 1) (v := .ref (ad 1)) (ty := .array (.array .int)) (C := "PageVault$Frames") (T := F_F) (N := 3) S.1 S.2.1 S.2.2.2.2 i_F t_F tok_F n_F S.2.2.2.1 hK.1 hP hD hS 0 (fs := [.null, .null, .int 0]) (by rw [iw_get (by omega), e0]; rfl) rfl 0 (by decide) (S.2.2.2.2 _ tg_44) (fun _ h9 => h9) rfl hin rfl (by decide +kernel) rfl rfl (Nat.le_of_ble_eq_true rfl) d_F_init_13 (fun H locs hP hD hS => ?_)
  rw [iw_set2 (by omega) e0] at hP hD
  refine lv_aload_n S.1 S.2.1 d_F_init_16 rfl (lv_at hl 0 rfl) ?_
  refine lv_iload_n S.1 S.2.1 d_F_init_17 rfl (lv_at hl 1 rfl) ?_
  refine va_newa (atype := .int) (ty := .int) (N' := n) (a0 := (n, .inl (fun _ => 0))) S.1 S.2.1 (S.2.2.2.2 _ tg_1) rfl hK.1 hP hD hS hA (fun _ => rfl) (nI_pos (by omega)) (nI_clamp (by omega)) (by show n * 4 ≤ _; omega) (by show 0 + 1 + n + 1 ≤ 40; omega) (by show 0 + n + n * 1024 + n ≤ 33000; omega) d_F_init_18 (fun q cA H hK2 hP hD hS => ?_)
  have eA : cA = cI := by
    have h2 : s.vm.findClass ("[" ++ (FieldType.int).toString) = some cI := (hK.1.2 0 (cI, .int) rfl).2
    have h3 : s.vm.findClass ("[" ++ (FieldType.int).toString) = some cA := (hK2.2 3 (cA, .int) rfl).2
    exact Option.some.inj (h3.symm.trans h2)
  subst eA
  rw [iw_push] at hP hD
  have e1 : va_up ad (1 + 1 + n) q 0 = h0 := by rw [va_up_ne _ _ (by omega)]; exact e0
  refine va_putF (D := D) (ci := 1) (v := .ref q) (ty := .array .int) (C := "PageVault$Frames") (T := F_F) (N := 3) S.1 S.2.1 S.2.2.2.2 i_F t_F tok_F n_F S.2.2.2.1 hK.1 hP hD hS 0 (fs := [.ref (ad 1), .null, .int 0]) (by rw [iw_get (by omega), e1, va_up_ne _ _ (by omega), va_up_self]; rfl) rfl 1 (by decide) (S.2.2.2.2 _ tg_45) (fun _ h9 => h9) rfl hin rfl (by decide +kernel) rfl rfl (Nat.le_of_ble_eq_true rfl) d_F_init_20 (fun H locs hP hD hS => ?_)
  rw [iw_set2 (by omega) e1] at hP hD
  refine lv_aload_n S.1 S.2.1 d_F_init_23 rfl (lv_at hl 0 rfl) ?_
  refine lv_iload_n S.1 S.2.1 d_F_init_24 rfl (lv_at hl 1 rfl) ?_
  refine va_put (D := D) (ci := 1) (v := .int (nI n)) (ty := .int) (C := "PageVault$Frames") (T := F_F) (N := 3) S.1 S.2.1 S.2.2.2.2 i_F t_F tok_F n_F S.2.2.2.1 hK.1 hP hD hS 0 (fs := [.ref (ad 1), .ref q, .int 0]) (by rw [iw_get (by omega), e1, va_up_self]; rfl) rfl 2 (by decide) (S.2.2.2.2 _ tg_46) (fun _ h9 => h9) rfl (by decide +kernel) rfl rfl (Nat.le_of_ble_eq_true rfl) d_F_init_25 (fun H locs hP hD hS => ?_)
  rw [iw_set2 (by omega) e1] at hP hD
  refine W.widen (k := 40) (n := 33000) (by omega) (by omega) ?_
  obtain ⟨ad2, had⟩ : ∃ ad2, ad2 = va_up ad (1 + 1 + n) q := ⟨_, rfl⟩
  rw [← had] at hP hD e1
  have eN : 1 + 1 + n + 1 = n + 3 := by omega
  rw [eN] at hP hD
  have q2 : ad2 (n + 2) = q := by rw [had, show n + 2 = 1 + 1 + n by omega, va_up_self]
  have q3 : ∀ i, i ≠ n + 2 → ad2 i = ad i := fun i hi => by rw [had, va_up_ne _ _ (by omega)]
  have hJ := iJ_of hD
  refine W.vret S.1 S.2.1 hr (fun t ht hW => ⟨rfl, ⟨ad2, e1, hJ, fun i hi h0i => ?_, ?_⟩, hS.F ht⟩) hS.2.2 d_F_init_28
  · rcases hD.2 i _ (iw_get hi) with h | h
    · exact absurd (hJ i 0 hi (by omega) (h.trans e1.symm)) h0i
    · exact h
  · rw [ht]
    refine iw_cong hP (fun i hi h => ?_)
    unfold fF
    by_cases a0 : i = 0
    · subst a0
      rw [va_up_self] at h
      rw [if_pos rfl, q2, q3 1 (by omega)]
      exact h
    · rw [va_up_ne _ _ a0, va_up_ne _ _ a0] at h
      rw [if_neg a0]
      by_cases a1 : i = 1
      · subst a1
        rw [va_up_ne _ _ (by omega), va_up_ne _ _ (by decide)] at h
        rw [if_pos rfl]
        refine arrq_cong (f := fun j => some (ad (1 + 1 + j))) h (fun j hj => ?_)
        rw [q3 (2 + j) (by omega)]
      · rw [if_neg a1]
        by_cases a2 : i < n + 2
        · rw [va_up_ne _ _ (by omega), va_up_ne _ _ a0, if_neg (by omega), if_neg a1] at h
          rw [if_pos a2]
          exact h
        · rw [show i = 1 + 1 + n by omega, va_up_self] at h
          rw [if_neg a2, show i = 1 + 1 + n by omega]
          exact h
end CF
