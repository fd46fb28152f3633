/-! Worlds by an index: cell i lies at the address ad i and holds cel i; contracts over them. Needs: classes, TG, TG_good. -/
def iw (ad : Nat → Nat) (N : Nat) (cel : Nat → va_E) : va_W := (List.range N).map fun i => (ad i, cel i)
def iA (ad : Nat → Nat) (N : Nat) : Nat → Prop := fun q => ∃ i, i < N ∧ q = ad i
def iJ (ad : Nat → Nat) (N : Nat) : Prop := ∀ i j, i < N → j < N → ad i = ad j → i = j
theorem iw_at {ad : Nat → Nat} {N : Nat} {cel : Nat → va_E} {k : Nat} {q : Nat × va_E} (h : (iw ad N cel)[k]? = some q) : k < N ∧ q = (ad k, cel k) := by
  unfold iw at h
  rw [List.getElem?_map] at h
  by_cases hk : k < N
  · rw [List.getElem?_range hk] at h
    exact ⟨hk, (Option.some.inj h).symm⟩
  · rw [List.getElem?_eq_none (by rw [List.length_range]; omega)] at h
    cases h
theorem iw_get {ad : Nat → Nat} {N : Nat} {cel : Nat → va_E} {i : Nat} (h : i < N) : (iw ad N cel)[i]? = some (ad i, cel i) := by
  unfold iw
  rw [List.getElem?_map, List.getElem?_range h]
  rfl
theorem iw_set {ad : Nat → Nat} {N : Nat} {cel : Nat → va_E} {i : Nat} {e : va_E} (h : i < N) : (iw ad N cel).set i (ad i, e) = iw ad N (va_up cel i e) := by
  apply List.ext_getElem?
  intro j
  rw [List.getElem?_set]
  by_cases hj : i = j
  · subst hj
    rw [if_pos rfl, iw_get h, va_up_self, if_pos (by unfold iw; rw [List.length_map, List.length_range]; exact h)]
  · rw [if_neg hj]
    by_cases hN : j < N
    · rw [iw_get hN, iw_get hN, va_up_ne _ _ (fun q => hj q.symm)]
    · unfold iw
      rw [List.getElem?_eq_none (by rw [List.length_map, List.length_range]; omega), List.getElem?_eq_none (by rw [List.length_map, List.length_range]; omega)]
theorem iw_D {ad : Nat → Nat} {N : Nat} {cel : Nat → va_E} (h : iJ ad N) : va_D (iA ad N) (iw ad N cel) := by
  refine ⟨fun i j p q hp hq e => ?_, fun k q hk => ?_⟩
  · obtain ⟨hi, rfl⟩ := iw_at hp
    obtain ⟨hj, rfl⟩ := iw_at hq
    exact h i j hi hj e
  · obtain ⟨h1, rfl⟩ := iw_at hk
    exact ⟨k, h1, rfl⟩
theorem iw_cong {D : va_G} {cl : List vw_C} {ad : Nat → Nat} {N : Nat} {cel cel' : Nat → va_E} {H : Heap} (h : va_P D cl (iw ad N cel) H) (hc : ∀ i, i < N → va_at D cl (ad i, cel i) H → va_at D cl (ad i, cel' i) H) : va_P D cl (iw ad N cel') H := by
  intro k q hk
  obtain ⟨h1, rfl⟩ := iw_at hk
  exact hc k h1 (h k _ (iw_get h1))
theorem iw_eq {D : va_G} {cl : List vw_C} {ad : Nat → Nat} {N : Nat} {cel cel' : Nat → va_E} {H : Heap} (h : va_P D cl (iw ad N cel) H) (hc : cel = cel') : va_P D cl (iw ad N cel') H := hc ▸ h
theorem iw_kept {D : va_G} {cl : List vw_C} {ad : Nat → Nat} {N : Nat} {cel : Nat → va_E} {H H1 : Heap} (h : va_P D cl (iw ad N cel) H) (hq : ∀ q, iA ad N q → H1[q]? = H[q]?) : va_P D cl (iw ad N cel) H1 := h.kept (fun k q hk => by
  obtain ⟨h1, rfl⟩ := iw_at hk
  exact hq _ ⟨k, h1, rfl⟩)
theorem iw_lt {D : va_G} {cl : List vw_C} {ad : Nat → Nat} {N : Nat} {cel : Nat → va_E} {H : Heap} (h : va_P D cl (iw ad N cel) H) {i : Nat} (hi : i < N) : ad i < H.size := (h i _ (iw_get hi)).lt
/-- the same ints below the length: the same array -/
theorem arr_cong {D : va_G} {cl : List vw_C} {a : Nat} {cA : ClassId} {n : Nat} {f g : Nat → Int32} {H : Heap} (h : va_at D cl (a, .inl (cA, n, .inl f)) H) (hfg : ∀ j, j < n → f j = g j) : va_at D cl (a, .inl (cA, n, .inl g)) H := by
  have e : vp_cell cA (n, .inl f) = vp_cell cA (n, .inl g) := by
    rw [vp_cell_i, vp_cell_i]
    unfold arrV
    congr 1
    congr 1
    funext j
    show Value.int (f j.val) = Value.int (g j.val)
    rw [hfg j.val j.isLt]
  show H[a]? = some (vp_cell cA (n, .inl g))
  rw [← e]
  exact h
/-! Contracts over an indexed world -/
def KnOk (Kn : State → Prop) : Prop := (∀ (U : State) (g : JFrame) (mk : MethodId) (a : Array Value), Kn U → Kn (U.calling g mk a)) ∧ ∀ (s U : State), s.WarmedH U.vm → Kn s → Kn U
def gPre (D : va_G) (ad : Nat → Nat) (N : Nat) (Kn : State → Prop) (av : List Value) (cel : Nat → va_E) : Array Value → State → Prop :=
  va_Pc av (fun U => va_P D classes (iw ad N cel) U.heap ∧ Kn U)
def gPost (D : va_G) (ad : Nat → Nat) (N : Nat) (out : Option Value) (cel : Nat → va_E) : Array Value → State → Outcome → State → Prop :=
  fun _ st oc t => oc = .returned out ∧ va_P D classes (iw ad N cel) t.heap ∧ va_F (iA ad N) st t
def FC (l : Launch) (D : va_G) (ad : Nat → Nat) (N : Nat) (Kn : State → Prop) (y : MethodName) (bytes : ByteArray) (maxL : Nat) (ret : Option FieldType) (rm : Room) (av : List Value) (cel : Nat → va_E) (out : Option Value) (cel' : Nat → va_E) : Prop :=
  Met l y (.code y bytes maxL ret :: TG) rm (gPre D ad N Kn av cel) (gPost D ad N out cel') 0 0 (iA ad N)
set_option maxHeartbeats 4000000 in
theorem FC_intro {l : Launch} {D : va_G} {ad : Nat → Nat} {N : Nat} {Kn : State → Prop} {y : MethodName} {bytes : ByteArray} {maxL : Nat} {ret : Option FieldType} {rm : Room} {av : List Value} {cel : Nat → va_E} {out : Option Value} {cel' : Nat → va_E}
    (hy : plainName y.cls = true) (hlen : (lg_sl av).length ≤ maxL)
    (body : ∀ (p : Program) (e : Env) (s : State) (m : MethodId) (below : List Frame) (meth : Method) (c : Code) (ls : Array Slot),
      CallFix p m c bytes maxL s av.toArray TG y.cls → meth.sig.returnType = ret → meth.locks = false → Kn s →
      va_P D classes (iw ad N cel) s.heap → va_S (iA ad N) s.heap s.heap [] → lv_has ls maxL (lv_args 0 av) →
      W p l e rm s m av.toArray below meth c s.heap [] 0 0 (MQ below (gPost D ad N out cel') av.toArray s 0 0 (iA ad N)) (F0 m 0 ls [])) :
    FC l D ad N Kn y bytes maxL ret rm av cel out cel' := by
  refine Met.ofW (cc := bytes) (maxL := maxL) (ret := ret) hy rfl ?_
  intro p e s m args below meth c s₁ B hml hv
  obtain ⟨rfl, hP, hK⟩ := hv
  have hts := atoms_spec (ws := .code y bytes maxL ret :: TG) B.pre
  have hl := lv_entry av hlen
  rw [lg_entry_eq]
  exact body p e s m below meth c _ ⟨B.exec, B.bytes, hml, findClass_of_methodNamed B.named, fun w h => hts w (List.mem_cons_of_mem _ h)⟩ B.returns B.notSynchronized hK hP va_S.rf hl
/-- what a call of an object's method needs of the tables -/
def CIv (own : String) (index : Nat) (y : MethodName) (bytes : ByteArray) (maxL : Nat) (ret : Option FieldType) (n : Nat) : Prop :=
  Cond.code y bytes maxL ret ∈ TG ∧ Cond.initialized y.cls ∈ TG ∧ Cond.methodLink own index y ∈ TG ∧ Cond.instanceMethod y ∈ TG ∧ Cond.selects y.cls y y ∈ TG ∧ (y.cls ≠ "java/lang/invoke/MethodHandle" ∧ y.cls ≠ "java/lang/invoke/VarHandle") ∧ (parseMethodDescriptor y.desc).map (fun d => d.parameters.length) = some n
/-- .. of a static one -/
def CIs (own : String) (index : Nat) (y : MethodName) (bytes : ByteArray) (maxL : Nat) (ret : Option FieldType) (n : Nat) : Prop :=
  Cond.code y bytes maxL ret ∈ TG ∧ Cond.initialized y.cls ∈ TG ∧ Cond.methodLink own index y ∈ TG ∧ Cond.static y ∈ TG ∧ (y.cls ≠ "java/lang/invoke/MethodHandle" ∧ y.cls ≠ "java/lang/invoke/VarHandle") ∧ (parseMethodDescriptor y.desc).map (fun d => d.parameters.length) = some n
/-- .. of a hidden static one of a nest mate (the link itself is carried) -/
def CIn (y : MethodName) (bytes : ByteArray) (maxL : Nat) (ret : Option FieldType) (n : Nat) : Prop :=
  Cond.code y bytes maxL ret ∈ TG ∧ Cond.initialized y.cls ∈ TG ∧ Cond.static y ∈ TG ∧ (y.cls ≠ "java/lang/invoke/MethodHandle" ∧ y.cls ≠ "java/lang/invoke/VarHandle") ∧ (parseMethodDescriptor y.desc).map (fun d => d.parameters.length) = some n
def RmOk (rm R : Room) (maxL : Nat) : Prop := rm.cells = 0 ∧ rm.slots = 0 ∧ rm.frames + 1 ≤ R.frames ∧ 8 + (maxL + 11) + rm.locals ≤ R.locals
section GC
variable {p : Program} {l : Launch} {e : Env} {R : Room} {s : State} {m : MethodId} {args : Array Value} {below : List Frame} {meth : Method} {c : Code} {H : Heap} {locs : List Loc} {cells slots : Nat} {Q : State → Prop}
variable {cc : ByteArray} {nL pc : Nat} {ls : Array Slot} {rest st0 : List Value} {own : String} {D : va_G} {ad : Nat → Nat} {N : Nat} {Kn : State → Prop} {cel cel' : Nat → va_E} {out : Option Value} {A0 : Nat → Prop} {H0 : Heap}
variable {y : MethodName} {bytes : ByteArray} {maxL index n : Nat} {ret : Option FieldType} {rm : Room} {b : Nat} {As : List Value}
theorem TG_pay (hts : ∀ w ∈ TG, w.before args s = true) (hc : Cond.code y bytes maxL ret ∈ TG) : ∀ w ∈ (Cond.code y bytes maxL ret :: TG), ∀ (a' : Array Value) (U : State), s.WarmedH U.vm → w.before a' U = true := by
  intro w hw a' U hW
  rcases List.mem_cons.mp hw with rfl | h
  · exact word_at hW (TG_good _ hc) (hts _ hc)
  · exact word_at hW (TG_good _ h) (hts _ h)
theorem gPre_blind {av : List Value} (hKo : KnOk Kn) : FrameBlind (gPre D ad N Kn av cel) := fun a U g mk q => ⟨q.1, q.2.1, hKo.1 U g mk a q.2.2⟩
theorem par_n {desc : String} (h : (parseMethodDescriptor desc).map (fun d => d.parameters.length) = some n) : ∀ sig, parseMethodDescriptor desc = some sig → n = sig.parameters.length := fun sig hs => by
  rw [hs] at h
  exact (Option.some.inj h).symm
/-- behind a call -/
theorem g_back (hr : va_Run p l e R s m args below meth c H locs cells slots 0 0 (F0 m pc ls st0) rest (gPost D ad N out cel' As.toArray) (iA ad N)) (hS : va_S A0 H0 H locs) (hA : ∀ q, iA ad N q → A0 q)
    (kk : ∀ (H1 : Heap) (locs1 : List Loc), va_P D classes (iw ad N cel') H1 → va_S A0 H0 H1 locs1 → (∀ q : Nat, q < H.size → ¬ iA ad N q → H1[q]? = H[q]?) → W p l e R s m args below meth c H1 locs1 cells slots Q (F0 m (pc + 3) ls (out.toList ++ rest))) : W p l e R s m args below meth c H locs cells slots Q (F0 m pc ls st0) := by
  intro T hT X
  obtain ⟨v, st₀, t, T', L, h0, X', hL, e1, e2, ⟨hv, hPt, hz, hk⟩, st⟩ := hr T hT X
  cases hv
  rw [h0] at hz hk
  obtain ⟨t2, a1, b1⟩ := kk T'.heap (locs ++ L) (by rw [e1]; exact hPt)
    ⟨Nat.le_trans hS.1 (by rw [e1]; exact hz), fun q h1 h2 => by rw [e1, hk q (Nat.lt_of_lt_of_le h1 hS.1) (fun z => h2 (hA q z))]; exact hS.2.1 q h1 h2, fun q hq => by
      rcases List.mem_append.mp hq with h | h
      · exact hS.2.2 q h
      · exact hA _ (hL q h)⟩ (fun q h1 h2 => by rw [e1]; exact hk q h1 h2) T' rfl X'
  exact ⟨t2, st t2 a1, b1⟩
theorem g_callV (S : CallFix p m c cc nL s args TG own) (hKo : KnOk Kn) (hK : Kn s) (I : CIv own index y bytes maxL ret n) (hM : FC l D ad N Kn y bytes maxL ret rm (.ref b :: As) cel out cel')
    (hrec : ∃ cellB : Cell, H[b]? = some cellB ∧ cellB.vm.isStatics = false ∧ s.vm.findClass y.cls = some cellB.cls) (hP : va_P D classes (iw ad N cel) H) (hS : va_S A0 H0 H locs) (hA : ∀ q, iA ad N q → A0 q)
    (hR : RmOk rm R maxL) (hcs : cells ≤ R.cells ∧ slots ≤ R.slots) (hn : As.length = n) (hsz : ls.size = nL) (hst : st0 = As.reverse ++ .ref b :: rest) (hW : (rest.map fun v => v.category).sum ≤ 8) (hdg : decode cc pc = .ok (.invokevirtual index, 3))
    (kk : ∀ (H1 : Heap) (locs1 : List Loc), va_P D classes (iw ad N cel') H1 → va_S A0 H0 H1 locs1 → (∀ q : Nat, q < H.size → ¬ iA ad N q → H1[q]? = H[q]?) → W p l e R s m args below meth c H1 locs1 cells slots Q (F0 m (pc + 3) ls (out.toList ++ rest))) : W p l e R s m args below meth c H locs cells slots Q (F0 m pc ls st0) := by
  obtain ⟨i1, i2, i3, i4, i5, i6, i7⟩ := I
  have hts := S.2.2.2.2
  exact g_back (va_runV (As := As) (rest := rest) S hM ⟨⟨hR.1, hR.2.1, hR.2.2.1, hR.2.2.2, TG_pay hts i1, List.mem_cons_self, hts _ i1, hts _ i2, i6, par_n i7, hts _ i3⟩, hts _ i4, hts _ i5⟩
    ⟨gPre_blind hKo, hrec, fun U hU hW9 => ⟨rfl, by rw [hU]; exact hP, hKo.2 _ _ hW9 hK⟩⟩ rfl hn hsz hst (lv_room hW) hdg hcs) hS hA kk
theorem g_callS (S : CallFix p m c cc nL s args TG own) (hKo : KnOk Kn) (hK : Kn s) (I : CIs own index y bytes maxL ret n) (hM : FC l D ad N Kn y bytes maxL ret rm As cel out cel')
    (hP : va_P D classes (iw ad N cel) H) (hS : va_S A0 H0 H locs) (hA : ∀ q, iA ad N q → A0 q)
    (hR : RmOk rm R maxL) (hcs : cells ≤ R.cells ∧ slots ≤ R.slots) (hn : As.length = n) (hsz : ls.size = nL) (hst : st0 = As.reverse ++ rest) (hW : (rest.map fun v => v.category).sum ≤ 8) (hdg : decode cc pc = .ok (.invokestatic index, 3))
    (kk : ∀ (H1 : Heap) (locs1 : List Loc), va_P D classes (iw ad N cel') H1 → va_S A0 H0 H1 locs1 → (∀ q : Nat, q < H.size → ¬ iA ad N q → H1[q]? = H[q]?) → W p l e R s m args below meth c H1 locs1 cells slots Q (F0 m (pc + 3) ls (out.toList ++ rest))) : W p l e R s m args below meth c H locs cells slots Q (F0 m pc ls st0) := by
  obtain ⟨i1, i2, i3, i4, i6, i7⟩ := I
  have hts := S.2.2.2.2
  exact g_back (va_runS (As := As) (rest := rest) S hM ⟨⟨hR.1, hR.2.1, hR.2.2.1, hR.2.2.2, TG_pay hts i1, List.mem_cons_self, hts _ i1, hts _ i2, i6, par_n i7, hts _ i3⟩, hts _ i4⟩
    ⟨gPre_blind hKo, fun U hU hW9 => ⟨rfl, by rw [hU]; exact hP, hKo.2 _ _ hW9 hK⟩⟩ rfl hn hsz hst (lv_room hW) hdg hcs) hS hA kk
theorem g_callN {host : String} (S : CallFix p m c cc nL s args TG own) (hKo : KnOk Kn) (hK : Kn s) (I : CIn y bytes maxL ret n) (hL : va_Nw (.methodLinkNest own index y host) s) (hM : FC l D ad N Kn y bytes maxL ret rm As cel out cel')
    (hP : va_P D classes (iw ad N cel) H) (hS : va_S A0 H0 H locs) (hA : ∀ q, iA ad N q → A0 q)
    (hR : RmOk rm R maxL) (hcs : cells ≤ R.cells ∧ slots ≤ R.slots) (hn : As.length = n) (hsz : ls.size = nL) (hst : st0 = As.reverse ++ rest) (hW : (rest.map fun v => v.category).sum ≤ 8) (hdg : decode cc pc = .ok (.invokestatic index, 3))
    (kk : ∀ (H1 : Heap) (locs1 : List Loc), va_P D classes (iw ad N cel') H1 → va_S A0 H0 H1 locs1 → (∀ q : Nat, q < H.size → ¬ iA ad N q → H1[q]? = H[q]?) → W p l e R s m args below meth c H1 locs1 cells slots Q (F0 m (pc + 3) ls (out.toList ++ rest))) : W p l e R s m args below meth c H locs cells slots Q (F0 m pc ls st0) := by
  obtain ⟨i1, i2, i4, i6, i7⟩ := I
  have hts := S.2.2.2.2
  exact g_back (va_runSN (As := As) (rest := rest) S hM ⟨⟨⟨hR.1, hR.2.1, hR.2.2.1, hR.2.2.2, TG_pay hts i1, List.mem_cons_self⟩, hts _ i1, hts _ i2, i6, par_n i7, va_Nw.use rfl hL⟩, hts _ i4, trivial⟩
    ⟨gPre_blind hKo, fun U hU hW9 => ⟨rfl, by rw [hU]; exact hP, hKo.2 _ _ hW9 hK⟩⟩ rfl hn hsz hst (lv_room hW) hdg hcs) hS hA kk
/-- the receiver of a call: an object of the world -/
theorem g_rec {tys : List (ClassId × FieldType)} {ci i : Nat} {fs : List Value} {q : vw_C} {nm : String} (hK : va_K D classes tys s) (hP : va_P D classes (iw ad N cel) H) (hi : i < N) (he : cel i = .inr (ci, fs)) (hc : classes[ci]? = some q) (hnm : nm = q.1) : ∃ cellB : Cell, H[ad i]? = some cellB ∧ cellB.vm.isStatics = false ∧ s.vm.findClass nm = some cellB.cls := by
  subst hnm
  exact va_recv hK hP (q0 := i) hc (by rw [iw_get hi, he])
/-! one instruction, over an indexed world -/
variable {tys : List (ClassId × FieldType)}
theorem g_get {C ref : String} {T : u_T} {NN ci i k : Nat} {fs : List Value} {v : Value} (S : CallFix p m c cc nL s args TG own) (hK : va_K D classes tys s) (hP : va_P D classes (iw ad N cel) H) (hin : ∀ w ∈ u_ws C T NN, w ∈ TG) (hc : classes[ci]? = some (C, T, NN)) (hk : k < NN) (href : ref = (T k).1) (hi : i < N) (he : cel i = .inr (ci, fs)) (hv : fs[k]? = some v)
    (hlink : Cond.fieldLink own index ref (T k).2.1 (T k).2.2.1 ∈ TG) (hdg : decode cc pc = .ok (.getfield index, 3))
    (kk : W p l e R s m args below meth c H locs cells slots Q (F0 m (pc + 3) ls (v :: rest))) : W p l e R s m args below meth c H locs cells slots Q (F0 m pc ls (.ref (ad i) :: rest)) := by
  subst href
  exact va_get S.1 S.2.1 S.2.2.2.2 hin S.2.2.2.1 hK hP i (by rw [iw_get hi, he]) hc k hk (S.2.2.2.2 _ hlink) (fun _ h9 => h9) hv hdg kk
theorem g_put {C ref : String} {T : u_T} {NN ci i k : Nat} {fs : List Value} {v : Value} {ty : FieldType} {ty0 : Nat → FieldType} (S : CallFix p m c cc nL s args TG own) (hJ : iJ ad N) (hK : va_K D classes tys s) (hP : va_P D classes (iw ad N cel) H) (hS : va_S (iA ad N) H0 H locs) (hin : ∀ w ∈ u_ws C T NN, w ∈ TG) (hty : ∀ k, k < NN → parseFieldDescriptor (T k).2.2.1 = some (ty0 k)) (hnm : ∀ a, a < NN → ∀ b, b < NN → a ≠ b → (T a).2.1 ≠ (T b).2.1) (hc : classes[ci]? = some (C, T, NN)) (hk : k < NN) (href : ref = (T k).1) (hfin : (T k).2.2.2 = false) (hd : parseFieldDescriptor (T k).2.2.1 = some ty) (hi : i < N) (he : cel i = .inr (ci, fs)) (hl : k < fs.length) (hnw : narrow ty v = v) (hfit : fits ty v = true)
    (hlink : Cond.fieldLink own index ref (T k).2.1 (T k).2.2.1 ∈ TG) (hdg : decode cc pc = .ok (.putfield index, 3))
    (kk : ∀ (H1 : Heap) (locs1 : List Loc), va_P D classes (iw ad N (va_up cel i (.inr (ci, fs.set k v)))) H1 → va_S (iA ad N) H0 H1 locs1 → W p l e R s m args below meth c H1 locs1 cells slots Q (F0 m (pc + 3) ls rest)) : W p l e R s m args below meth c H locs cells slots Q (F0 m pc ls (v :: .ref (ad i) :: rest)) := by
  subst href
  exact va_put S.1 S.2.1 S.2.2.2.2 hin ty0 hty hnm S.2.2.2.1 hK hP (iw_D hJ) hS i (by rw [iw_get hi, he]) hc k hk (S.2.2.2.2 _ hlink) (fun _ h9 => h9) hfin hd hnw hfit hl hdg (fun H1 locs1 h1 _ h3 => kk H1 locs1 (by rw [← iw_set hi]; exact h1) h3)
theorem g_iald {i t0 : Nat} {cA : ClassId} {len : Nat} {f : Nat → Int32} {x : Int32} (S : CallFix p m c cc nL s args TG own) (hK : va_K D classes tys s) (hP : va_P D classes (iw ad N cel) H) (hi : i < N) (he : cel i = .inl (cA, len, .inl f)) (ht : tys[t0]? = some (cA, .int)) (hin : vp_in x len) (hdg : decode cc pc = .ok (.iaload, 1))
    (kk : W p l e R s m args below meth c H locs cells slots Q (F0 m (pc + 1) ls (.int (f x.toNatClampNeg) :: rest))) : W p l e R s m args below meth c H locs cells slots Q (F0 m pc ls (.int x :: .ref (ad i) :: rest)) :=
  va_iald S.1 S.2.1 hK hP i t0 (by rw [iw_get hi, he]) ht hin hdg kk
theorem g_iast {i t0 : Nat} {cA : ClassId} {len : Nat} {f : Nat → Int32} {x v : Int32} (S : CallFix p m c cc nL s args TG own) (hJ : iJ ad N) (hK : va_K D classes tys s) (hP : va_P D classes (iw ad N cel) H) (hS : va_S (iA ad N) H0 H locs) (hi : i < N) (he : cel i = .inl (cA, len, .inl f)) (ht : tys[t0]? = some (cA, .int)) (hin : vp_in x len) (hdg : decode cc pc = .ok (.iastore, 1))
    (kk : ∀ (H1 : Heap) (locs1 : List Loc), va_P D classes (iw ad N (va_up cel i (.inl (cA, len, .inl (upd f x.toNatClampNeg v))))) H1 → va_S (iA ad N) H0 H1 locs1 → W p l e R s m args below meth c H1 locs1 cells slots Q (F0 m (pc + 1) ls rest)) : W p l e R s m args below meth c H locs cells slots Q (F0 m pc ls (.int v :: .int x :: .ref (ad i) :: rest)) :=
  va_iast S.1 S.2.1 hK hP (iw_D hJ) hS i t0 (by rw [iw_get hi, he]) ht hin hdg (fun H1 locs1 h1 _ h3 => kk H1 locs1 (by rw [← iw_set hi]; exact h1) h3)
theorem g_alen {i t0 : Nat} {cA : ClassId} {x : vp_A} {ty : FieldType} (S : CallFix p m c cc nL s args TG own) (hK : va_K D classes tys s) (hP : va_P D classes (iw ad N cel) H) (hi : i < N) (he : cel i = .inl (cA, x)) (ht : tys[t0]? = some (cA, ty)) (hdg : decode cc pc = .ok (.arraylength, 1))
    (kk : W p l e R s m args below meth c H locs cells slots Q (F0 m (pc + 1) ls (.int (nI x.1) :: rest))) : W p l e R s m args below meth c H locs cells slots Q (F0 m pc ls (.ref (ad i) :: rest)) :=
  va_alen S.1 S.2.1 hK hP i t0 (by rw [iw_get hi, he]) ht (v := nI x.1) rfl hdg kk
/-! ends -/
theorem g_iret {v : Int32} (S : CallFix p m c cc nL s args TG own) (hr : meth.sig.returnType = some .int) (hlocks : meth.locks = false) (hP : va_P D classes (iw ad N cel) H) (hS : va_S (iA ad N) s.heap H locs) (hdg : decode cc pc = .ok (.ireturn, 1)) (ho : out = some (.int v)) (hc : cel' = cel) :
    W p l e R s m args below meth c H locs 0 0 (MQ below (gPost D ad N out cel') args s 0 0 (iA ad N)) (F0 m pc ls [.int v]) := by
  subst ho hc
  exact W.iret S.1 S.2.1 hr (fun t ht hW => ⟨rfl, by rw [ht]; exact hP, hS.F ht⟩) hS.2.2 hdg hlocks
theorem g_zret {v : Int32} {ty : FieldType} (S : CallFix p m c cc nL s args TG own) (hr : meth.sig.returnType = some ty) (hlocks : meth.locks = false) (hn : narrow ty (.int v) = .int v) (hP : va_P D classes (iw ad N cel) H) (hS : va_S (iA ad N) s.heap H locs) (hdg : decode cc pc = .ok (.ireturn, 1)) (ho : out = some (.int v)) (hc : cel' = cel) :
    W p l e R s m args below meth c H locs 0 0 (MQ below (gPost D ad N out cel') args s 0 0 (iA ad N)) (F0 m pc ls [.int v]) := by
  subst ho hc
  exact W.zret S.1 S.2.1 hr hn (fun t ht hW => ⟨rfl, by rw [ht]; exact hP, hS.F ht⟩) hS.2.2 hdg hlocks
theorem g_vret (S : CallFix p m c cc nL s args TG own) (hr : meth.sig.returnType = none) (hlocks : meth.locks = false) (hP : va_P D classes (iw ad N cel) H) (hS : va_S (iA ad N) s.heap H locs) (hdg : decode cc pc = .ok (.return_, 1)) (ho : out = none) (hc : cel' = cel) :
    W p l e R s m args below meth c H locs 0 0 (MQ below (gPost D ad N out cel') args s 0 0 (iA ad N)) (F0 m pc ls []) := by
  subst ho hc
  exact W.vret S.1 S.2.1 hr (fun t ht hW => ⟨rfl, by rw [ht]; exact hP, hS.F ht⟩) hS.2.2 hdg hlocks
theorem g_aret {v : Value} {rt : FieldType} (S : CallFix p m c cc nL s args TG own) (hr : meth.sig.returnType = some rt) (hlocks : meth.locks = false) (hrt : (∃ n, rt = .object n) ∨ ∃ t, rt = .array t) (hv : v = .null ∨ ∃ a, v = .ref a) (hP : va_P D classes (iw ad N cel) H) (hS : va_S (iA ad N) s.heap H locs) (hdg : decode cc pc = .ok (.areturn, 1)) (ho : out = some v) (hc : cel' = cel) :
    W p l e R s m args below meth c H locs 0 0 (MQ below (gPost D ad N out cel') args s 0 0 (iA ad N)) (F0 m pc ls [v]) := by
  subst ho hc
  exact W.aret S.1 S.2.1 hr hrt hv (fun t ht hW => ⟨rfl, by rw [ht]; exact hP, hS.F ht⟩) hS.2.2 hdg hlocks
end GC
