/-! The makers. Worlds that grow are indexed worlds too. -/
theorem iw_push {ad : Nat → Nat} {N : Nat} {cel : Nat → va_E} {q : Nat} {e : va_E} : iw ad N cel ++ [(q, e)] = iw (va_up ad N q) (N + 1) (va_up cel N e) := by
  unfold iw
  rw [List.range_succ, List.map_append]
  congr 1
  · apply List.map_congr_left
    intro i hi
    have := List.mem_range.mp hi
    rw [va_up_ne _ _ (by omega), va_up_ne _ _ (by omega)]
  · simp [va_up_self]
theorem iw_ext {ad ad' : Nat → Nat} {N : Nat} {cel cel' : Nat → va_E} (h : ∀ i, i < N → ad i = ad' i ∧ cel i = cel' i) : iw ad N cel = iw ad' N cel' := by
  unfold iw
  apply List.map_congr_left
  intro i hi
  obtain ⟨h1, h2⟩ := h i (List.mem_range.mp hi)
  rw [h1, h2]
theorem iJ_of {A : Nat → Prop} {ad : Nat → Nat} {N : Nat} {cel : Nat → va_E} (h : va_D A (iw ad N cel)) : iJ ad N := fun i j hi hj e => h.1 i j _ _ (iw_get hi) (iw_get hj) e
theorem iw_D2 {A : Nat → Prop} {ad : Nat → Nat} {N : Nat} {cel : Nat → va_E} (hJ : iJ ad N) (hA : ∀ i, i < N → A (ad i)) : va_D A (iw ad N cel) := by
  refine ⟨fun i j p q hp hq e => ?_, fun k q hk => ?_⟩
  · obtain ⟨hi, rfl⟩ := iw_at hp
    obtain ⟨hj, rfl⟩ := iw_at hq
    exact hJ i j hi hj e
  · obtain ⟨h1, rfl⟩ := iw_at hk
    exact hA k h1
/-- what the makers know of the tables -/
def cK (D : va_G) (cI cS cQ : ClassId) (U : State) : Prop := va_K D classes (xT cI cS cQ) U ∧ (Cond.arrayOver (.array .int)).before #[] U = true ∧ va_AO "PageVault$Space" U
theorem cK.moved {D : va_G} {cI cS cQ : ClassId} {u U : State} (hvm : u.vm.Alike U.vm) (h : cK D cI cS cQ u) : cK D cI cS cQ U := ⟨va_K.moved hvm h.1, over_moved hvm h.2.1, va_AO.moved hvm h.2.2⟩
section CM
variable {p : Program} {l : Launch} {e : Env} {R : Room} {s : State} {m : MethodId} {args : Array Value} {below : List Frame} {meth : Method} {c : Code} {H : Heap} {locs : List Loc} {cells slots : Nat} {Q : State → Prop}
variable {cc : ByteArray} {nL pc index : Nat} {ls : Array Slot} {rest : List Value} {own : String} {D : va_G} {ad : Nat → Nat} {N : Nat} {cI cS cQ : ClassId} {cel : Nat → va_E} {A : Nat → Prop} {H0 : Heap}
/-- new int[n][k] -/
theorem c_mna (S : CallFix p m c cc nL s args TG own) (hK : cK D cI cS cQ s) (hP : va_P D classes (iw ad N cel) H) (hD : va_D A (iw ad N cel)) (hS : va_S A H0 H locs) (hA : ∀ q, H0.size ≤ q → A q) (hcl : Cond.classLink own index "[[I" ∈ TG) (hac : Cond.arrayClass .int ∈ TG)
    {n k : Int32} {n' k' : Nat} (hn : n = nI n') (hk : k = nI k') (hn2 : n' < 2 ^ 20) (hk2 : k' < 2 ^ 20) (hcells : cells + (1 + n') ≤ R.cells) (hslots : slots + (n' + n' * k') ≤ R.slots) (hdg : decode cc pc = .ok (.multianewarray index 2, 4))
    (kk : ∀ (ad' : Nat → Nat) (H1 : Heap), (∀ i, i < N → ad' i = ad i) → va_P D classes (iw ad' (N + 1 + n') (fun i => if i < N then cel i else if i = N then .inl (cQ, n', .inr (.inr (.inr (.inr (fun j => some (ad' (N + 1 + j))))))) else .inl (cI, k', .inl (fun _ => 0)))) H1 → va_D A (iw ad' (N + 1 + n') (fun i => if i < N then cel i else if i = N then .inl (cQ, n', .inr (.inr (.inr (.inr (fun j => some (ad' (N + 1 + j))))))) else .inl (cI, k', .inl (fun _ => 0)))) → va_S A H0 H1 locs →
      W p l e R s m args below meth c H1 locs (cells + 1 + n') (slots + n' + n' * k') Q (F0 m (pc + 4) ls (.ref (ad' N) :: rest))) : W p l e R s m args below meth c H locs cells slots Q (F0 m pc ls (.int k :: .int n :: rest)) := by
  subst hn hk
  have en : (nI n').toNatClampNeg = n' := nI_clamp (by omega)
  have ek : (nI k').toNatClampNeg = k' := nI_clamp (by omega)
  intro T hT X0
  obtain ⟨vm₁, cA, comp, -, fA, fC, hO, -, X', step⟩ := X0.multianewarray2F S.1 (own := own) (index := index) (ty := .int) S.2.2.2.1 (S.2.2.2.2 _ hcl) hK.2.1 (S.2.2.2.2 _ hac) (g := F0 m pc ls (.int (nI k') :: .int (nI n') :: rest)) rfl (by rw [S.2.1]; exact hdg) rfl (nI_pos (by omega)) (nI_pos (by omega)) (by rw [en]; omega) (by rw [ek]; show k' * 4 ≤ _; omega) (by rw [ek]; omega) rfl rfl (by rw [en]; exact hcells) (by rw [en, ek]; exact hslots)
  have eA : cA = cQ := by
    have h2 : s.vm.findClass ("[" ++ (FieldType.array .int).toString) = some cQ := (hK.1.2 2 (cQ, .array .int) rfl).2
    exact Option.some.inj (fA.symm.trans h2)
  have eC : comp = cI := by
    have h2 : s.vm.findClass ("[" ++ (FieldType.int).toString) = some cI := (hK.1.2 0 (cI, .int) rfl).2
    exact Option.some.inj (fC.symm.trans h2)
  subst eA eC
  rw [en, ek] at X' step
  generalize hF : Jvm.Free.Multi.fill (T.setVm vm₁) cA comp n' k' (defaultValue .int) n' = F at X' step
  have hTh : (T.setVm vm₁).heap = H := hT
  obtain ⟨f1, f2, -, -⟩ := Jvm.Free.Multi.fill_facts (T.setVm vm₁) cA comp n' k' (defaultValue .int) n'
  rw [hF, hTh] at f1 f2
  have hold : ∀ x : Nat, x < H.size → F.heap[x]? = H[x]? := fun x hx => by
    have := Jvm.Free.Multi.fill_old (T.setVm vm₁) cA comp n' k' (defaultValue .int) (a := x) (by rw [hTh]; exact hx) n'
    rw [hF, hTh] at this
    exact this
  have hrow : ∀ j : Nat, j < n' → F.heap[H.size + 1 + j]? = some (vp_cell comp (k', .inl (fun _ => 0))) := fun j hj => by
    have := Jvm.Free.Multi.fill_inner (T.setVm vm₁) cA comp n' k' (defaultValue .int) n' j hj
    rw [hF, hTh] at this
    rw [this, vp_cell_i]
    show some ({ cls := comp, slots := Array.replicate k' (.int 0), vm := .none } : Cell) = _
    rw [arrV_new]
  have hout : ∀ i, i ≤ n' → Jvm.Free.Multi.outerC cA n' H.size i = arrV cA n' (fun j => va_rf (if j < i then some (H.size + 1 + j) else none)) := by
    intro i
    induction i with
    | zero =>
      intro _
      show ({ cls := cA, slots := Array.replicate n' .null, vm := .none } : Cell) = _
      rw [arrV_new]
      refine congrArg (arrV cA n') (funext fun j => ?_)
      simp [va_rf]
    | succ i ih =>
      intro hi
      show (Jvm.Free.Multi.outerC cA n' H.size i).setSlot i (.ref (H.size + 1 + i)) = _
      rw [ih (by omega), arrV_store]
      refine congrArg (arrV cA n') (funext fun j => ?_)
      by_cases e : j = i
      · subst e
        simp [updV, va_rf]
      · by_cases h : j < i
        · simp [updV, e, h, Nat.lt_succ_of_lt h]
        · simp [updV, e, h, show ¬ j < i + 1 by omega]
  obtain ⟨ad', had⟩ : ∃ ad' : Nat → Nat, ad' = fun i => if i < N then ad i else H.size + (i - N) := ⟨_, rfl⟩
  have h1 : ∀ i, i < N → ad' i = ad i := fun i hi => by rw [had]; exact if_pos hi
  have h2 : ∀ j, ad' (N + j) = H.size + j := fun j => by
    rw [had]
    show (if N + j < N then _ else _) = _
    rw [if_neg (by omega)]
    omega
  have hlt : ∀ i, i < N → ad i < H.size := fun i hi => iw_lt hP hi
  have hP2 : va_P D classes (iw ad' (N + 1 + n') (fun i => if i < N then cel i else if i = N then .inl (cA, n', .inr (.inr (.inr (.inr (fun j => some (ad' (N + 1 + j))))))) else .inl (comp, k', .inl (fun _ => 0)))) F.heap := by
    intro k q hq
    obtain ⟨hk, rfl⟩ := iw_at hq
    by_cases a1 : k < N
    · show va_at D classes (ad' k, if k < N then cel k else _) F.heap
      rw [if_pos a1, h1 k a1]
      exact (hP k _ (iw_get a1)).kept (hold _ (hlt k a1))
    · show va_at D classes (ad' k, if k < N then cel k else if k = N then _ else _) F.heap
      rw [if_neg a1]
      by_cases a2 : k = N
      · subst a2
        rw [if_pos rfl]
        show F.heap[ad' k]? = some (vp_cell cA (n', .inr (.inr (.inr (.inr (fun j => some (ad' (k + 1 + j))))))))
        have e0 : ad' k = H.size := h2 0
        rw [e0, f2, hout n' (Nat.le_refl _), vp_cell_q]
        unfold arrV
        congr 2
        apply congrArg
        funext j
        show va_rf (if j.val < n' then _ else _) = va_rf (some (ad' (k + 1 + j.val)))
        rw [if_pos j.isLt, Nat.add_assoc k 1, h2]
        congr 2
        omega
      · rw [if_neg a2]
        show F.heap[ad' k]? = some (vp_cell comp (k', .inl (fun _ => 0)))
        have e0 : ad' k = H.size + 1 + (k - N - 1) := by
          have := h2 (k - N)
          rw [show N + (k - N) = k by omega] at this
          omega
        rw [e0]
        exact hrow _ (by omega)
  have hJ : iJ ad' (N + 1 + n') := by
    intro i j hi hj e
    by_cases a1 : i < N <;> by_cases a2 : j < N
    · rw [h1 i a1, h1 j a2] at e
      exact iJ_of hD i j a1 a2 e
    · have := hlt i a1
      have e2 := h2 (j - N)
      rw [show N + (j - N) = j by omega] at e2
      rw [h1 i a1, e2] at e
      omega
    · have := hlt j a2
      have e2 := h2 (i - N)
      rw [show N + (i - N) = i by omega] at e2
      rw [h1 j a2, e2] at e
      omega
    · have e2 := h2 (i - N)
      have e3 := h2 (j - N)
      rw [show N + (i - N) = i by omega] at e2
      rw [show N + (j - N) = j by omega] at e3
      omega
  have hD2 : va_D A (iw ad' (N + 1 + n') (fun i => if i < N then cel i else if i = N then .inl (cA, n', .inr (.inr (.inr (.inr (fun j => some (ad' (N + 1 + j))))))) else .inl (comp, k', .inl (fun _ => 0)))) := iw_D2 hJ (fun i hi => by
    by_cases a1 : i < N
    · rw [h1 i a1]
      exact hD.2 i _ (iw_get a1)
    · have e2 := h2 (i - N)
      rw [show N + (i - N) = i by omega] at e2
      rw [e2]
      exact hA _ (by have := hS.1; omega))
  obtain ⟨t, a1, b1⟩ := kk ad' F.heap h1 hP2 hD2 ⟨by rw [f1]; have := hS.1; omega, fun x g1 g2 => (hold x (Nat.lt_of_lt_of_le g1 hS.1)).trans (hS.2.1 x g1 g2), hS.2.2⟩ F rfl X'
  refine ⟨t, step t ?_, b1⟩
  have e0 : ad' N = T.heap.size := by rw [hT]; exact h2 0
  rw [← e0]
  exact a1
end CM
