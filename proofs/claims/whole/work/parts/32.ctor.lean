/-! The makers. Worlds that grow are indexed worlds too. -/
theorem iw_push {ad : Nat → Nat} {N : Nat} {cel : Nat → va_E} {q : Nat} {e : va_E} : iw ad N cel ++ [(q, e)] = iw (va_up ad N q) (N + 1) (va_up cel N e) := by
  unfold iw
  rw [List.range_succ, List.map_append]
  congr 1
  · apply List.map_congr_left
    intro i hi
    have := List.mem_range.mp hi
    rw [va_up_ne _ _ (by omega), va_up_ne _ _ (by omega)]
  · simp [va_up_self]
theorem iw_ext {ad ad' : Nat → Nat} {N : Nat} {cel cel' : Nat → va_E} (h : ∀ i, i < N → ad i = ad' i ∧ cel i = cel' i) : iw ad N cel = iw ad' N cel' := by
  unfold iw
  apply List.map_congr_left
  intro i hi
  obtain ⟨h1, h2⟩ := h i (List.mem_range.mp hi)
  rw [h1, h2]
theorem iJ_of {A : Nat → Prop} {ad : Nat → Nat} {N : Nat} {cel : Nat → va_E} (h : va_D A (iw ad N cel)) : iJ ad N := fun i j hi hj e => h.1 i j _ _ (iw_get hi) (iw_get hj) e
theorem iw_D2 {A : Nat → Prop} {ad : Nat → Nat} {N : Nat} {cel : Nat → va_E} (hJ : iJ ad N) (hA : ∀ i, i < N → A (ad i)) : va_D A (iw ad N cel) := by
  refine ⟨fun i j p q hp hq e => ?_, fun k q hk => ?_⟩
  · obtain ⟨hi, rfl⟩ := iw_at hp
    obtain ⟨hj, rfl⟩ := iw_at hq
    exact hJ i j hi hj e
  · obtain ⟨h1, rfl⟩ := iw_at hk
    exact hA k h1
/-- what the makers know of the tables -/
def cK (D : va_G) (cI cS cQ : ClassId) (U : State) : Prop := va_K D classes (xT cI cS cQ) U ∧ (Cond.arrayOver (.array .int)).before #[] U = true ∧ va_AO "PageVault$Space" U
theorem cK.moved {D : va_G} {cI cS cQ : ClassId} {u U : State} (hvm : u.vm.Alike U.vm) (h : cK D cI cS cQ u) : cK D cI cS cQ U := ⟨va_K.moved hvm h.1, over_moved hvm h.2.1, va_AO.moved hvm h.2.2⟩
/-! 'new int[n][k]' walked from the model itself: the outer array, then row by row. -/
/-- the outer array, hp the heap's size before it, when i rows lie behind it -/
def na_out (cQ : ClassId) (n hp i : Nat) : Cell := arrV cQ n (fun j => va_rf (if j < i then some (hp + 1 + j) else none))
def na_row (cI : ClassId) (k : Nat) : Cell := arrV cI k (fun _ => .int 0)
def na_st (U : State) (cQ cI : ClassId) (n k : Nat) : Nat → State
  | 0 => U.pushCell (na_out cQ n U.heap.size 0)
  | i + 1 => ((na_st U cQ cI n k i).pushCell (na_row cI k)).setCell U.heap.size (na_out cQ n U.heap.size (i + 1))
theorem na_out_set (cQ : ClassId) (n hp i : Nat) : (na_out cQ n hp i).setSlot i (.ref (hp + 1 + i)) = na_out cQ n hp (i + 1) := by
  unfold na_out
  rw [arrV_store]
  refine congrArg (arrV cQ n) (funext fun j => ?_)
  by_cases e : j = i
  · subst e
    simp [updV, va_rf]
  · by_cases h : j < i
    · simp [updV, e, h, Nat.lt_succ_of_lt h]
    · simp [updV, e, h, show ¬ j < i + 1 by omega]
theorem na_top (U : State) (f : JFrame) (cQ cI : ClassId) (n k : Nat) : ∀ i, na_st (U.setTop f) cQ cI n k i = (na_st U cQ cI n k i).setTop f := by
  intro i
  induction i with
  | zero => rfl
  | succ i ih =>
    unfold na_st
    rw [ih]
    rfl
/-- what lies in the heap behind i rows -/
theorem na_lies (U : State) (cQ cI : ClassId) (n k : Nat) : ∀ i, (na_st U cQ cI n k i).vm = U.vm ∧ (na_st U cQ cI n k i).heap.size = U.heap.size + 1 + i ∧ (na_st U cQ cI n k i).slotsUsed = U.slotsUsed + n + i * k ∧
    (na_st U cQ cI n k i).heap[U.heap.size]? = some (na_out cQ n U.heap.size i) ∧ (∀ a : Nat, a < U.heap.size → (na_st U cQ cI n k i).heap[a]? = U.heap[a]?) ∧ ∀ j, j < i → (na_st U cQ cI n k i).heap[U.heap.size + 1 + j]? = some (na_row cI k) := by
  intro i
  induction i with
  | zero =>
    refine ⟨rfl, ?_, ?_, ?_, fun a ha => ?_, fun j hj => absurd hj (Nat.not_lt_zero j)⟩
    · show (U.heap.push _).size = _
      rw [Array.size_push]
    · show U.slotsUsed + (na_out cQ n U.heap.size 0).slots.size = _
      rw [show (na_out cQ n U.heap.size 0).slots.size = n from arrV_size _ _ _]
      omega
    · show (U.heap.push _)[U.heap.size]? = _
      exact Array.getElem?_push_size
    · show (U.heap.push _)[a]? = _
      rw [Array.getElem?_push, if_neg (by omega)]
  | succ i ih =>
    obtain ⟨h1, h2, h3, h4, h5, h6⟩ := ih
    obtain ⟨V, hV⟩ : ∃ V, V = na_st U cQ cI n k i := ⟨_, rfl⟩
    rw [← hV] at h1 h2 h3 h4 h5 h6
    have eV : na_st U cQ cI n k (i + 1) = (V.pushCell (na_row cI k)).setCell U.heap.size (na_out cQ n U.heap.size (i + 1)) := by rw [hV]; rfl
    rw [eV]
    have get : ∀ a : Nat, ((V.pushCell (na_row cI k)).setCell U.heap.size (na_out cQ n U.heap.size (i + 1))).heap[a]? = if U.heap.size = a then some (na_out cQ n U.heap.size (i + 1)) else if a = V.heap.size then some (na_row cI k) else V.heap[a]? := by
      intro a
      show ((V.heap.push (na_row cI k)).setIfInBounds U.heap.size (na_out cQ n U.heap.size (i + 1)))[a]? = _
      rw [Array.getElem?_setIfInBounds, Array.getElem?_push]
      by_cases e : U.heap.size = a
      · rw [if_pos e, if_pos e, if_pos (by rw [Array.size_push]; omega)]
      · rw [if_neg e, if_neg e]
    refine ⟨h1, ?_, ?_, ?_, fun a ha => ?_, fun j hj => ?_⟩
    · show ((V.heap.push _).setIfInBounds _ _).size = _
      rw [Array.size_setIfInBounds, Array.size_push, h2]
      omega
    · show V.slotsUsed + (na_row cI k).slots.size = _
      rw [show (na_row cI k).slots.size = k from arrV_size _ _ _, h3, Nat.succ_mul]
      omega
    · rw [get, if_pos rfl]
    · rw [get, if_neg (by omega), if_neg (by omega)]
      exact h5 a ha
    · rw [get, if_neg (by omega)]
      by_cases e : j = i
      · rw [if_pos (by omega)]
      · rw [if_neg (by omega)]
        exact h6 j (by omega)
section NAW
variable {E : CtlPost} {e : Env} {d : Bool} {acts : List Action} {s : State}
/-- a 'for' over i, i + 1, .. that takes the states in their order -/
theorem na_loop {f : Nat → PUnit → Sem (ForInStep PUnit)} {St : Nat → State} {n : Nat} (hf : ∀ i, i < n → ∀ (d : Bool) (acts : List Action) (Q' : ForInStep PUnit → Pre), (∀ d' acts', Q' (ForInStep.yield PUnit.unit) d' acts' (St (i + 1))) → wp (f i PUnit.unit) Q' E e d acts (St i)) {Q : PUnit → Pre} (hq : ∀ d acts, Q PUnit.unit d acts (St n)) :
    ∀ (r i : Nat) (d : Bool) (acts : List Action), i + r = n → wp (forIn (List.range' i r) PUnit.unit f) Q E e d acts (St i) := by
  intro r
  induction r with
  | zero =>
    intro i d acts h
    have e0 : i = n := by omega
    subst e0
    simp only [List.range'_zero, List.forIn_nil, wp_pure']
    exact hq d acts
  | succ r ih =>
    intro i d acts h
    simp only [List.range'_succ, List.forIn_cons, wp_bind']
    exact hf i (by omega) d acts _ (fun d' acts' => ih (i + 1) d' acts' (by omega))
/-- the class rows of int[] and int[][] -/
theorem na_cls {D : va_G} {cI cS cQ : ClassId} (hK : cK D cI cS cQ s) : ∃ (kQ kI : Class) (cc : ClassId), s.vm.classes[cQ]? = some kQ ∧ kQ.kind = .array cI (.array .int) ∧ s.vm.classes[cI]? = some kI ∧ kI.kind = .array cc .int := by
  have hI : s.vm.findClass (FieldType.array .int).toString = some cI := (hK.1.2 0 (cI, .int) rfl).2
  have hQ : s.vm.findClass ("[" ++ (FieldType.array .int).toString) = some cQ := (hK.1.2 2 (cQ, .array .int) rfl).2
  obtain ⟨-, kI, hkI, cc, hkindI⟩ := (hK.1.2 0 (cI, .int) rfl).1 0 (fun _ => .null)
  obtain ⟨-, kQ, hkQ, co, hkindQ⟩ := (hK.1.2 2 (cQ, .array .int) rfl).1 0 (fun _ => .null)
  have hkQ2 : s.vm.classes[cQ]? = some kQ := hkQ
  refine ⟨kQ, kI, cc, hkQ2, ?_, hkI, hkindI⟩
  have h := hK.2.1
  simp only [Cond.before, Cond.holds, Cond.value, beq_iff_eq, hI, Option.bind_some] at h
  obtain ⟨q, hq, hv⟩ := Option.bind_eq_some_iff.mp h
  obtain ⟨kq, hkq, hv⟩ := Option.map_eq_some_iff.mp hv
  have hp := (Array.findIdx?_eq_some_iff_getElem.mp hq).2.1
  rw [(Array.getElem?_eq_some_iff.mp hkq).2] at hp
  cases hkind : kq.kind with
  | array co2 ty =>
    rw [hkind] at hv hp
    have hv2 := of_decide_eq_true (Bool.and_eq_true_iff.mp hv).2
    have eq : cQ = q := Option.some.inj (hQ.symm.trans hv2)
    subst eq
    have ek : kQ = kq := Option.some.inj (hkQ2.symm.trans hkq)
    subst ek
    have e1 : co2 = cI := beq_iff_eq.mp hp
    rw [hkindQ] at hkind
    rw [hkindQ, ← e1]
    cases hkind
    rfl
  | _ => rw [hkind] at hv; cases hv
/-- one row -/
theorem na_make1 {cI cc : ClassId} {kI : Class} {k' : Nat} (hkI : s.vm.classes[cI]? = some kI) (hkindI : kI.kind = .array cc .int) (hk : k' < 2 ^ 20) (hl : ¬ k' > e.platform.arrayLengthLimit) (hh : ¬ k' * componentBytes .int > e.platform.maxHeapBytes)
    (hc : s.heap.size < e.platform.maxCells) (hs : s.slotsUsed + k' ≤ e.platform.maxSlots) {Q : Addr → Pre} (hq : ∀ acts', Q s.heap.size d acts' (s.pushCell (na_row cI k'))) : wp (multianewarray.make cI [nI k']) Q E e d acts s := by
  have h0 : ¬ nI k' < 0 := nI_pos (by omega)
  rw [multianewarray.make]
  simp only [wp_bind', Jvm.W.ite, h0, if_false, wp_pure', Jvm.W.theClass, hkI, hkindI, Option.some.injEq, exists_eq_left', nI_clamp (show k' < 2 ^ 31 by omega)]
  refine Jvm.W.newArray_of hkI hkindI hl hh hc hs rfl (fun acts' => ?_)
  have := hq acts'
  unfold na_row at this
  rw [← arrV_new] at this
  exact this
/-- all of it -/
theorem na_make2 {cQ cI cc : ClassId} {kQ kI : Class} {n' k' : Nat} (hkQ : s.vm.classes[cQ]? = some kQ) (hkindQ : kQ.kind = .array cI (.array .int)) (hkI : s.vm.classes[cI]? = some kI) (hkindI : kI.kind = .array cc .int) (hn : n' < 2 ^ 20) (hk : k' < 2 ^ 20)
    (hl : ∀ x, x < 2 ^ 20 → ¬ x > e.platform.arrayLengthLimit) (hh : ∀ x, x < 2 ^ 20 → ¬ x * 4 > e.platform.maxHeapBytes)
    (hc : s.heap.size + (1 + n') ≤ e.platform.maxCells) (hs : s.slotsUsed + (n' + n' * k') ≤ e.platform.maxSlots) {Q : Addr → Pre} (hq : ∀ d' acts', Q s.heap.size d' acts' (na_st s cQ cI n' k' n')) : wp (multianewarray.make cQ [nI n', nI k']) Q E e d acts s := by
  have h0 : ¬ nI n' < 0 := nI_pos (by omega)
  have h1 : ¬ nI k' < 0 := nI_pos (by omega)
  have hfind : [nI k'].find? (· < 0) = none := by simp [h1]
  rw [multianewarray.make]
  simp only [wp_bind', Jvm.W.ite, h0, if_false, wp_pure', Jvm.W.theClass, hkQ, hkindQ, Option.some.injEq, exists_eq_left', nI_clamp (show n' < 2 ^ 31 by omega)]
  refine Jvm.W.newArray_of hkQ hkindQ (hl n' hn) (hh n' hn) (by omega) (by have := Nat.zero_le (n' * k'); omega) rfl (fun acts' => ?_)
  have e0 : s.pushCell { cls := cQ, slots := Array.replicate n' .null } = na_st s cQ cI n' k' 0 := by
    show s.pushCell ({ cls := cQ, slots := Array.replicate n' .null, vm := .none } : Cell) = s.pushCell (na_out cQ n' s.heap.size 0)
    rw [arrV_new]
    rfl
  rw [e0]
  simp only [hfind]
  rw [ite_self, wp_bind', Std.Legacy.Range.forIn_eq_forIn_range', show ([:n'] : Std.Legacy.Range).size = n' by simp [Std.Legacy.Range.size]]
  refine na_loop (St := na_st s cQ cI n' k') (n := n') (fun i hi d2 acts2 Q' hQ' => ?_) (fun d2 acts2 => ?_) n' 0 d acts' (by omega)
  · obtain ⟨g1, g2, g3, g4, -, -⟩ := na_lies s cQ cI n' k' i
    have hmul : i * k' + k' ≤ n' * k' := by
      have := Nat.mul_le_mul_right k' (show i + 1 ≤ n' from hi)
      rw [Nat.succ_mul] at this
      exact this
    simp only [wp_bind']
    refine na_make1 (by rw [g1]; exact hkI) hkindI hk (hl k' hk) (hh k' hk) (by rw [g2]; omega) (by rw [g3]; omega) (fun acts3 => ?_)
    simp only [wp_bind', Jvm.W.writeLoc, wp_pure']
    refine ⟨na_out cQ n' s.heap.size i, ?_, by simp [na_out, arrV], by rw [show (na_out cQ n' s.heap.size i).slots.size = n' from arrV_size _ _ _]; exact hi, ?_, ?_⟩
    · show ((na_st s cQ cI n' k' i).heap.push _)[s.heap.size]? = _
      rw [Array.getElem?_push, if_neg (by omega)]
      exact g4
    · simp [na_out, arrV, State.fitsSlot, State.slotType?, g1, hkQ, hkindQ, fits]
    · rw [g2, na_out_set]
      exact hQ' _ _
  · simp only [wp_pure']
    exact hq _ _
end NAW
section CM
variable {p : Program} {l : Launch} {e : Env} {R : Room} {s : State} {m : MethodId} {args : Array Value} {below : List Frame} {meth : Method} {c : Code} {H : Heap} {locs : List Loc} {cells slots : Nat} {Q : State → Prop}
variable {cc : ByteArray} {nL pc index : Nat} {ls : Array Slot} {rest : List Value} {own : String} {D : va_G} {ad : Nat → Nat} {N : Nat} {cI cS cQ : ClassId} {cel : Nat → va_E} {A : Nat → Prop} {H0 : Heap}
/-- Behind i rows the walk stands; the places written lie in the new array, and fall away. -/
theorem na_stands {T : State} (X : Stand p l e R s m args below meth c T locs cells slots) (cQ cI : ClassId) (n k : Nat) : ∀ i, Stand p l e R s m args below meth c (na_st T cQ cI n k i) locs (cells + 1 + i) (slots + n + i * k) := by
  intro i
  induction i with
  | zero =>
    have h := X.pushed (na_out cQ n T.heap.size 0)
    rw [show (na_out cQ n T.heap.size 0).slots.size = n from arrV_size _ _ _] at h
    rw [Nat.zero_mul, Nat.add_zero, Nat.add_zero]
    exact h
  | succ i ih =>
    obtain ⟨-, g2, -, g4, -, -⟩ := na_lies T cQ cI n k i
    have hcell : ((na_st T cQ cI n k i).pushCell (na_row cI k)).heap[T.heap.size]? = some (na_out cQ n T.heap.size i) := by
      show ((na_st T cQ cI n k i).heap.push _)[T.heap.size]? = _
      rw [Array.getElem?_push, if_neg (by omega)]
      exact g4
    have h := ((ih.pushed (na_row cI k)).stored hcell i (.ref (T.heap.size + 1 + i))).dropFresh (fun x hx => by
      rw [List.mem_singleton.mp hx]
      exact X.heapGrown)
    rw [na_out_set, show (na_row cI k).slots.size = k from arrV_size _ _ _] at h
    rw [show slots + n + (i + 1) * k = slots + n + i * k + k by rw [Nat.succ_mul]; omega]
    exact h
/-- 'multianewarray' of int[][], two lengths -/
theorem na_step {T : State} (X : Stand p l e R s m args below meth c T locs cells slots) (hexec : p.tables.exec = Jvm.exec) (hK : cK D cI cS cQ s) (hown : s.vm.findClass own = some m.cls) (hcl : (Cond.classLink own index "[[I").before args s = true)
    {g : JFrame} (hg : g.method = m) (hdg : decode c.code g.pc = .ok (.multianewarray index 2, 4)) {n' k' : Nat} (hst : g.stack = .int (nI k') :: .int (nI n') :: rest) (hn : n' < 2 ^ 20) (hk : k' < 2 ^ 20) (hcells : cells + (1 + n') ≤ R.cells) (hslots : slots + (n' + n' * k') ≤ R.slots) :
    ∃ vm₁ : Vm, Stand p l e R s m args below meth c (na_st (T.setVm vm₁) cQ cI n' k' n') locs (cells + 1 + n') (slots + n' + n' * k') ∧
      ∀ target, Steps p.tables e below ((na_st (T.setVm vm₁) cQ cI n' k' n').setTop { g with pc := g.pc + 4, stack := .ref T.heap.size :: rest }) target → Steps p.tables e below (T.setTop g) target := by
  subst hg
  obtain ⟨kQ, kI, cc, hkQ, hkindQ, hkI, hkindI⟩ := na_cls hK
  have hQ : s.vm.findClass "[[I" = some cQ := (hK.1.2 2 (cQ, .array .int) rfl).2
  obtain ⟨c0, hc0, hlink⟩ := Cond.classLink_spec hown hcl e.platform (by rw [X.admits.platform])
  have e0 : c0 = cQ := Option.some.inj (hc0.symm.trans hQ)
  subst e0
  obtain ⟨hgv, hwarm, -⟩ := State.classEntry (e := e) X.warmed hlink
  generalize T.vm.noted g.method.cls index (.cls c0) = vm₁ at hgv hwarm
  obtain ⟨kQ1, hkQ1, eQ1⟩ := hwarm.alike.2.2 _ _ hkQ
  obtain ⟨kI1, hkI1, eI1⟩ := hwarm.alike.2.2 _ _ hkI
  have XN := na_stands (X.noted hwarm) c0 cI n' k' n'
  refine ⟨vm₁, XN, fun target hgo => ?_⟩
  obtain ⟨r1, r2⟩ := X.roomAbove hcells hslots
  jvm_step X.here [hexec, hdg]
  simp only [multianewarray.sem, wp_bind', Jvm.W.resolveClassAt_links (State.method?_setTop g X.here.top) hgv]
  refine (popN_top (s := T.setVm vm₁) (f := g) (args := [.int (nI n'), .int (nI k')]) (rest := rest) X.here.top hst).mpr ?_
  simp only [List.mapM_cons, List.mapM_nil, wp_bind', wp_pure']
  refine na_make2 (s := (T.setVm vm₁).setTop { g with stack := rest }) (kQ := kQ1) (kI := kI1) (cc := cc) hkQ1 (by rw [eQ1]; exact hkindQ) hkI1 (by rw [eI1]; exact hkindI) hn hk (fun x hx => by rw [Launch.admits_arrayLengthLimit X.admits]; omega) (fun x hx => by rw [Launch.admits_maxHeapBytes X.admits]; omega) r1 r2 (fun d' acts' => ?_)
  rw [na_top]
  simp only [wp_bind', Jvm.W.mark, Jvm.W.pushRef, State.topJava?_setTop' _ XN.here.top, Option.some.injEq, exists_eq_left', State.setTop_setTop, State.heap_setTop]
  intro acts2
  simp [jvm, XN.here.top]
  exact hgo
/-- new int[n][k] -/
theorem c_mna (S : CallFix p m c cc nL s args TG own) (hK : cK D cI cS cQ s) (hP : va_P D classes (iw ad N cel) H) (hD : va_D A (iw ad N cel)) (hS : va_S A H0 H locs) (hA : ∀ q, H0.size ≤ q → A q) (hcl : Cond.classLink own index "[[I" ∈ TG) (hac : Cond.arrayClass .int ∈ TG)
    {n k : Int32} {n' k' : Nat} (hn : n = nI n') (hk : k = nI k') (hn2 : n' < 2 ^ 20) (hk2 : k' < 2 ^ 20) (hcells : cells + (1 + n') ≤ R.cells) (hslots : slots + (n' + n' * k') ≤ R.slots) (hdg : decode cc pc = .ok (.multianewarray index 2, 4))
    (kk : ∀ (ad' : Nat → Nat) (H1 : Heap), (∀ i, i < N → ad' i = ad i) → va_P D classes (iw ad' (N + 1 + n') (fun i => if i < N then cel i else if i = N then .inl (cQ, n', .inr (.inr (.inr (.inr (fun j => some (ad' (N + 1 + j))))))) else .inl (cI, k', .inl (fun _ => 0)))) H1 → va_D A (iw ad' (N + 1 + n') (fun i => if i < N then cel i else if i = N then .inl (cQ, n', .inr (.inr (.inr (.inr (fun j => some (ad' (N + 1 + j))))))) else .inl (cI, k', .inl (fun _ => 0)))) → va_S A H0 H1 locs →
      W p l e R s m args below meth c H1 locs (cells + 1 + n') (slots + n' + n' * k') Q (F0 m (pc + 4) ls (.ref (ad' N) :: rest))) : W p l e R s m args below meth c H locs cells slots Q (F0 m pc ls (.int k :: .int n :: rest)) := by
  subst hn hk
  intro T hT X0
  obtain ⟨vm₁, X', step⟩ := na_step X0 S.1 hK (own := own) (index := index) S.2.2.2.1 (S.2.2.2.2 _ hcl) (g := F0 m pc ls (.int (nI k') :: .int (nI n') :: rest)) rfl (by rw [S.2.1]; exact hdg) rfl hn2 hk2 hcells hslots
  generalize hF : na_st (T.setVm vm₁) cQ cI n' k' n' = F at X' step
  have hTh : (T.setVm vm₁).heap = H := hT
  obtain ⟨-, f1, -, f2, hold, hrow⟩ := na_lies (T.setVm vm₁) cQ cI n' k' n'
  rw [hF, hTh] at f1 f2 hold hrow
  obtain ⟨ad', had⟩ : ∃ ad' : Nat → Nat, ad' = fun i => if i < N then ad i else H.size + (i - N) := ⟨_, rfl⟩
  have h1 : ∀ i, i < N → ad' i = ad i := fun i hi => by rw [had]; exact if_pos hi
  have h2 : ∀ j, ad' (N + j) = H.size + j := fun j => by
    rw [had]
    show (if N + j < N then _ else _) = _
    rw [if_neg (by omega)]
    omega
  have hlt : ∀ i, i < N → ad i < H.size := fun i hi => iw_lt hP hi
  have hP2 : va_P D classes (iw ad' (N + 1 + n') (fun i => if i < N then cel i else if i = N then .inl (cQ, n', .inr (.inr (.inr (.inr (fun j => some (ad' (N + 1 + j))))))) else .inl (cI, k', .inl (fun _ => 0)))) F.heap := by
    intro k q hq
    obtain ⟨hk, rfl⟩ := iw_at hq
    by_cases a1 : k < N
    · show va_at D classes (ad' k, if k < N then cel k else _) F.heap
      rw [if_pos a1, h1 k a1]
      exact (hP k _ (iw_get a1)).kept (hold _ (hlt k a1))
    · show va_at D classes (ad' k, if k < N then cel k else if k = N then _ else _) F.heap
      rw [if_neg a1]
      by_cases a2 : k = N
      · subst a2
        rw [if_pos rfl]
        show F.heap[ad' k]? = some (vp_cell cQ (n', .inr (.inr (.inr (.inr (fun j => some (ad' (k + 1 + j))))))))
        have e0 : ad' k = H.size := h2 0
        rw [e0, f2, vp_cell_q]
        unfold na_out arrV
        congr 2
        apply congrArg
        funext j
        show va_rf (if j.val < n' then _ else _) = va_rf (some (ad' (k + 1 + j.val)))
        rw [if_pos j.isLt, Nat.add_assoc k 1, h2]
        congr 2
        omega
      · rw [if_neg a2]
        show F.heap[ad' k]? = some (vp_cell cI (k', .inl (fun _ => 0)))
        have e0 : ad' k = H.size + 1 + (k - N - 1) := by
          have := h2 (k - N)
          rw [show N + (k - N) = k by omega] at this
          omega
        rw [e0]
        exact hrow _ (by omega)
  have hJ : iJ ad' (N + 1 + n') := by
    intro i j hi hj e
    by_cases a1 : i < N <;> by_cases a2 : j < N
    · rw [h1 i a1, h1 j a2] at e
      exact iJ_of hD i j a1 a2 e
    · have := hlt i a1
      have e2 := h2 (j - N)
      rw [show N + (j - N) = j by omega] at e2
      rw [h1 i a1, e2] at e
      omega
    · have := hlt j a2
      have e2 := h2 (i - N)
      rw [show N + (i - N) = i by omega] at e2
      rw [h1 j a2, e2] at e
      omega
    · have e2 := h2 (i - N)
      have e3 := h2 (j - N)
      rw [show N + (i - N) = i by omega] at e2
      rw [show N + (j - N) = j by omega] at e3
      omega
  have hD2 : va_D A (iw ad' (N + 1 + n') (fun i => if i < N then cel i else if i = N then .inl (cQ, n', .inr (.inr (.inr (.inr (fun j => some (ad' (N + 1 + j))))))) else .inl (cI, k', .inl (fun _ => 0)))) := iw_D2 hJ (fun i hi => by
    by_cases a1 : i < N
    · rw [h1 i a1]
      exact hD.2 i _ (iw_get a1)
    · have e2 := h2 (i - N)
      rw [show N + (i - N) = i by omega] at e2
      rw [e2]
      exact hA _ (by have := hS.1; omega))
  obtain ⟨t, a1, b1⟩ := kk ad' F.heap h1 hP2 hD2 ⟨by rw [f1]; have := hS.1; omega, fun x g1 g2 => (hold x (Nat.lt_of_lt_of_le g1 hS.1)).trans (hS.2.1 x g1 g2), hS.2.2⟩ F rfl X'
  refine ⟨t, step t ?_, b1⟩
  have e0 : ad' N = T.heap.size := by rw [hT]; exact h2 0
  rw [← e0]
  exact a1
end CM
