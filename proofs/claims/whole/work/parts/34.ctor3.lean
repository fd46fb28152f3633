section CI
variable {p : Program} {l : Launch} {e : Env} {R : Room} {s : State} {m : MethodId} {args : Array Value} {below : List Frame} {meth : Method} {c : Code} {H : Heap} {locs : List Loc} {cells slots : Nat} {Q : State → Prop}
variable {cc : ByteArray} {nL pc index : Nat} {ls : Array Slot} {rest st0 As : List Value} {own : String} {y : MethodName} {bytes : ByteArray} {maxL nA mc ms : Nat} {rm : Room} {b : Nat} {Pc : Array Value → State → Prop} {Qc : Array Value → State → Outcome → State → Prop} {free : Addr → Prop}
/-- a maker is called -/
theorem c_callI (S : CallFix p m c cc nL s args TG own) (hM : Met l y (.code y bytes maxL none :: TG) rm Pc Qc mc ms free) (hret : ∀ a st v t, Qc a st (.returned v) t → v = none) (hbl : FrameBlind Pc) (hPc : ∀ U : State, U.heap = H → s.WarmedH U.vm → Pc (Value.ref b :: As).toArray U)
    (i1 : Cond.code y bytes maxL none ∈ TG) (i2 : Cond.initialized y.cls ∈ TG) (i3 : Cond.methodLink own index y ∈ TG) (i4 : Cond.instanceMethod y ∈ TG) (i5 : y.name = "<init>") (i6 : y.cls ≠ "java/lang/invoke/MethodHandle" ∧ y.cls ≠ "java/lang/invoke/VarHandle") (i7 : (parseMethodDescriptor y.desc).map (fun d => d.parameters.length) = some nA)
    (hR : rm.cells = mc ∧ rm.slots = ms ∧ rm.frames + 1 ≤ R.frames ∧ 8 + (maxL + 11) + rm.locals ≤ R.locals) (hcs : cells + mc ≤ R.cells ∧ slots + ms ≤ R.slots) (hn : As.length = nA) (hsz : ls.size = nL) (hst : st0 = As.reverse ++ .ref b :: rest) (hW : (rest.map fun v => v.category).sum ≤ 8) (hdg : decode cc pc = .ok (.invokespecial index, 3))
    (kk : ∀ (st t : State) (H1 : Heap) (L : List Loc), st.heap = H → t.heap = H1 → s.vm.Alike t.vm → Qc (Value.ref b :: As).toArray st (.returned none) t → (∀ q ∈ L, free q.base) → W p l e R s m args below meth c H1 (locs ++ L) (cells + mc) (slots + ms) Q (F0 m (pc + 3) ls rest)) : W p l e R s m args below meth c H locs cells slots Q (F0 m pc ls st0) := by
  have hts := S.2.2.2.2
  have hr := va_runI (e := e) (R := R) (below := below) (meth := meth) (H := H) (locs := locs) (cells := cells) (slots := slots) (As := As) (rest := rest) (b := b) (g := F0 m pc ls st0) S hM ⟨⟨hR.1, hR.2.1, hR.2.2.1, hR.2.2.2, TG_pay hts i1, List.mem_cons_self, hts _ i1, hts _ i2, i6, par_n i7, hts _ i3⟩, i5, hts _ i4⟩ ⟨hbl, hPc⟩ rfl hn hsz hst (lv_room hW) hdg hcs
  intro T hT X
  obtain ⟨v, st₀, t, T', L, h0, X', hL, e1, e2, hq, st⟩ := hr T hT X
  have hv := hret _ _ _ _ hq
  subst hv
  obtain ⟨t2, a1, b1⟩ := kk st₀ t T'.heap L h0 e1.symm (by rw [← e2]; exact X'.warmed.alike) hq hL T' rfl X'
  exact ⟨t2, st t2 a1, b1⟩
end CI
/-- how many frames -/
def nOf (a : Int32) : Nat := (if 8 < (if a < 32 then a else 32) then (if a < 32 then a else 32) else 8).toNatClampNeg
theorem nOf_in (a : Int32) : 8 ≤ nOf a ∧ nOf a ≤ 32 ∧ (if 8 < (if a < 32 then a else 32) then (if a < 32 then a else 32) else 8) = nI (nOf a) := by
  unfold nOf
  by_cases h1 : a < 32
  · rw [if_pos h1]
    by_cases h2 : 8 < a
    · rw [if_pos h2]
      have h0 : ¬ a < 0 := fun q => by
        have := Int32.lt_iff_toInt_lt.mp q
        have := Int32.lt_iff_toInt_lt.mp h2
        have e8 : (8 : Int32).toInt = 8 := rfl
        have e0 : (0 : Int32).toInt = 0 := rfl
        omega
      obtain ⟨j, hj, rfl⟩ := nI_of h0
      rw [nI_clamp hj]
      have e8 : (8 : Int32) = nI 8 := by decide
      have e32 : (32 : Int32) = nI 32 := by decide
      rw [e8] at h2
      rw [e32] at h1
      have := (nI_ltI (by decide) hj).mp h2
      have := (nI_ltI hj (by decide)).mp h1
      exact ⟨by omega, by omega, rfl⟩
    · rw [if_neg h2]
      decide
  · rw [if_neg h1]
    decide
def V0 (n : Nat) : VS := (0, nI n, fun _ => 0, fun _ => 0, fun _ => -1, fun _ => 0, fun _ _ => 0)
/-- while the vault is made: 0 the vault, 1 Frames, 2 words, 3 + f rows, n + 3 holders, n + 4 spaces, n + 5 + j the Spaces that are there -/
def fV (cI cS cQ : ClassId) (n : Nat) (ad : Nat → Nat) (k i : Nat) : va_E :=
  if i = 0 then .inr (0, [.ref (ad 1), .ref (ad (n + 4)), .null, .int 0]) else if i = 1 then .inr (1, [.ref (ad 2), .ref (ad (n + 3)), .int (nI n)]) else if i = 2 then .inl (cQ, n, .inr (.inr (.inr (.inr (fun j => if j < n then some (ad (3 + j)) else none))))) else if i < n + 3 then .inl (cI, 1024, .inl (fun _ => 0)) else if i = n + 3 then .inl (cI, n, .inl (fun _ => 0)) else if i = n + 4 then .inl (cS, 16, .inr (.inr (.inr (.inr (fun j => if j < k then some (ad (n + 5 + j)) else none))))) else .inr (2, [.ref (ad 1), .int (-1), .int 0])
theorem fV_congr {cI cS cQ : ClassId} {n k : Nat} {ad ad' : Nat → Nat} (h : ∀ i, i < n + 5 + k → ad i = ad' i) (i : Nat) : fV cI cS cQ n ad k i = fV cI cS cQ n ad' k i := by
  unfold fV
  have e2 : (fun j => if j < n then some (ad (3 + j)) else none) = (fun j => if j < n then some (ad' (3 + j)) else none) := by
    funext j
    by_cases hj : j < n
    · rw [if_pos hj, if_pos hj, h (3 + j) (by omega)]
    · rw [if_neg hj, if_neg hj]
  have e3 : (fun j => if j < k then some (ad (n + 5 + j)) else none) = (fun j => if j < k then some (ad' (n + 5 + j)) else none) := by
    funext j
    by_cases hj : j < k
    · rw [if_pos hj, if_pos hj, h (n + 5 + j) (by omega)]
    · rw [if_neg hj, if_neg hj]
  rw [h 1 (by omega), h 2 (by omega), h (n + 3) (by omega), h (n + 4) (by omega), e2, e3]
section CV
variable (l : Launch) (D : va_G) (cI cS cQ : ClassId)
set_option maxHeartbeats 4000000 in
set_option maxRecDepth 100000 in
theorem w_V_init (v0 n : Nat) (hn : n ≤ 32) (a1 : Int32) {p : Program} {e : Env} {s : State} {m : MethodId} {args : Array Value} {below : List Frame} {meth : Method} {c : Code} {Q : State → Prop} (S : CallFix p m c b_V_init 3 s args TG "PageVault") (hK : cK D cI cS cQ s)
    (kx : ∀ (ad : Nat → Nat) (H : Heap) (locs : List Loc) (ls : Array Slot), ad 0 = v0 → va_P D classes (iw ad (n + 21) (fV cI cS cQ n ad 16)) H → va_D (kF v0 s.heap.size) (iw ad (n + 21) (fV cI cS cQ n ad 16)) → va_S (kF v0 s.heap.size) s.heap H locs → lv_has ls 3 [(0, .ref v0), (1, .int a1)] → W p l e ({ frames := 2, cells := 60, slots := 34000, locals := 40 }) s m args below meth c H locs 58 33067 Q (F0 m 66 ls [])) :
    ∀ (f k : Nat) (x2 : Int32) (ad : Nat → Nat) (H : Heap) (locs : List Loc) (ls : Array Slot), x2 = nI k → k ≤ 16 → 16 - k < f → ad 0 = v0 → va_P D classes (iw ad (n + 5 + k) (fV cI cS cQ n ad k)) H → va_D (kF v0 s.heap.size) (iw ad (n + 5 + k) (fV cI cS cQ n ad k)) → va_S (kF v0 s.heap.size) s.heap H locs → lv_has ls 3 [(0, .ref v0), (1, .int a1), (2, .int x2)] →
      W p l e ({ frames := 2, cells := 60, slots := 34000, locals := 40 }) s m args below meth c H locs (42 + k) (33019 + 3 * k) Q (F0 m 37 ls []) := by
  have hA : ∀ q, s.heap.size ≤ q → kF v0 s.heap.size q := fun q h => Or.inr h
  intro f
  induction f with
  | zero => intro k x2 ad H locs ls _ _ h; exact absurd h (Nat.not_lt_zero _)
  | succ f ih =>
    intro k x2 ad H locs ls ek hk hf e0 hP hD hS hl
    refine lv_iload_n S.1 S.2.1 d_V_init_37 rfl (lv_at hl 2 rfl) ?_
    refine lv_bipush (v := 16) S.1 S.2.1 d_V_init_38 (by decide) ?_
    refine lv_icmp_ge (tgt := 66) S.1 S.2.1 d_V_init_40 (by decide) (fun c1 => ?_) (fun c1 => ?_)
    · have hk2 : k = 16 := by
        rcases Nat.lt_or_ge k 16 with q | q
        · have e16 : (16 : Int32) = nI 16 := by decide
          rw [ek, e16] at c1
          exact absurd c1 (nI_ge q (by decide))
        · omega
      subst hk2
      exact kx ad H locs ls e0 hP hD hS (lv_sub hl [0, 1] rfl)
    · have hB := lp_lt (B := 16) (by decide) (by decide) ek (by omega) c1
      have hi16 : vp_in x2 16 := by rw [ek]; exact vp_in_nI hB (by decide)
      refine lv_aload_n S.1 S.2.1 d_V_init_43 rfl (lv_at hl 0 rfl) ?_
      refine va_get (D := D) (ci := 0) (v := .ref (ad (n + 4))) (C := "PageVault") (T := F_V) (N := 4) S.1 S.2.1 S.2.2.2.2 i_V S.2.2.2.1 hK.1 hP 0 (fs := [.ref (ad 1), .ref (ad (n + 4)), .null, .int 0]) (by rw [iw_get (by omega), e0]; rfl) rfl 1 (by decide) (S.2.2.2.2 _ tg_50) (fun _ h9 => h9) rfl d_V_init_44 ?_
      refine lv_iload_n S.1 S.2.1 d_V_init_47 rfl (lv_at hl 2 rfl) ?_
      refine va_new (ci := 2) (fs := [.null, .int 0, .int 0]) (C := "PageVault$Space") (T := F_S) (N := 3) S.1 S.2.1 S.2.2.2.2 i_S t_S tok_S S.2.2.2.1 (S.2.2.2.2 _ tg_4) (S.2.2.2.2 _ tg_9) (S.2.2.2.2 _ tg_39) hK.1 hP hD hS hA rfl (fun j hj => by rcases (show j = 0 ∨ j = 1 ∨ j = 2 by omega) with rfl | rfl | rfl <;> rfl) (by show 42 + k + 1 ≤ 60; omega) (by show 33019 + 3 * k + 3 ≤ 34000; omega) d_V_init_48 (fun q H hP hD hS => ?_)
      rw [iw_push] at hP hD
      obtain ⟨ad2, had⟩ : ∃ ad2, ad2 = va_up ad (n + 5 + k) q := ⟨_, rfl⟩
      rw [← had] at hP hD
      have hq : ad2 (n + 5 + k) = q := by rw [had, va_up_self]
      have hag : ∀ i, i < n + 5 + k → ad i = ad2 i := fun i hi => by rw [had, va_up_ne _ _ (by omega)]
      have e2 : ad2 0 = v0 := by rw [← hag 0 (by omega)]; exact e0
      have hcel : va_up (fV cI cS cQ n ad k) (n + 5 + k) (.inr (2, [.null, .int 0, .int 0])) = va_up (fV cI cS cQ n ad2 k) (n + 5 + k) (.inr (2, [.null, .int 0, .int 0])) := by
        funext i
        by_cases a : i = n + 5 + k
        · subst a
          rw [va_up_self, va_up_self]
        · rw [va_up_ne _ _ a, va_up_ne _ _ a, fV_congr hag]
      rw [hcel] at hP hD
      rw [hag (n + 4) (by omega)]
      refine lv_dup S.1 S.2.1 d_V_init_51 rfl ?_
      refine lv_aload_n S.1 S.2.1 d_V_init_52 rfl (lv_at hl 0 rfl) ?_
      refine va_get (D := D) (ci := 0) (v := .ref (ad2 1)) (C := "PageVault") (T := F_V) (N := 4) S.1 S.2.1 S.2.2.2.2 i_V S.2.2.2.1 hK.1 hP 0 (fs := [.ref (ad2 1), .ref (ad2 (n + 4)), .null, .int 0]) (by rw [iw_get (by omega), e2, va_up_ne _ _ (by omega)]; rfl) rfl 0 (by decide) (S.2.2.2.2 _ tg_49) (fun _ h9 => h9) rfl d_V_init_53 ?_
      have hat : va_at D classes (q, .inr (2, [.null, .int 0, .int 0])) H := by
        have h := hP (n + 5 + k) _ (iw_get (by omega))
        rw [hq, va_up_self] at h
        exact h
      have hJ := iJ_of hD
      have hqs : kF v0 s.heap.size q := by
        have h := hD.2 (n + 5 + k) _ (iw_get (by omega))
        rw [hq] at h
        exact h
      refine c_callI (nA := 1) (As := [.ref (ad2 1)]) (rest := [.ref q, .int x2, .ref (ad2 (n + 4)), ]) (b := q) S (c_S_init l D cI cS cQ q (ad2 1) H.size) (fun a st v t h => by cases h.1; rfl) (fun a U g mk h => ⟨h.1, h.2.1, h.2.2.1, cK.moved (u := U) (U := U.calling g mk a) (Vm.Alike.refl U.vm) h.2.2.2⟩) (fun U hU hW => ⟨rfl, by rw [hU], by rw [hU]; exact hat, cK.moved hW.alike hK⟩) tg_26 tg_39 tg_18 tg_22 rfl (by decide +kernel) (by decide +kernel) ⟨rfl, rfl, Nat.le_of_ble_eq_true rfl, Nat.le_of_ble_eq_true rfl⟩ ⟨by show 42 + k + 1 + 0 ≤ 60; omega, by show 33019 + 3 * k + 3 + 0 ≤ 34000; omega⟩ rfl hl.1 rfl (Nat.le_of_ble_eq_true rfl) d_V_init_56 (fun st t H1 L hst ht hvm hQ hL => ?_)
      obtain ⟨-, hat1, hz, hkeep⟩ := hQ
      rw [ht] at hat1
      rw [hst, ht] at hz hkeep
      have hP : va_P D classes (iw ad2 (n + 5 + k + 1) (va_up (fV cI cS cQ n ad2 k) (n + 5 + k) (.inr (2, [.ref (ad2 1), .int (-1), .int 0])))) H1 := by
        intro i x hx
        obtain ⟨hi, rfl⟩ := iw_at hx
        by_cases a : i = n + 5 + k
        · subst a
          rw [va_up_self, hq]
          exact hat1
        · rw [va_up_ne _ _ a]
          have h := hP i _ (iw_get hi)
          rw [va_up_ne _ _ a] at h
          refine h.kept (hkeep _ (h.lt) (fun z => ?_))
          rcases z with z | z
          · exact a (hJ i (n + 5 + k) hi (by omega) (z.trans hq.symm))
          · have := h.lt
            omega
      have hD : va_D (kF v0 s.heap.size) (iw ad2 (n + 5 + k + 1) (va_up (fV cI cS cQ n ad2 k) (n + 5 + k) (.inr (2, [.ref (ad2 1), .int (-1), .int 0])))) := iw_D2 hJ (fun i hi => hD.2 i _ (iw_get hi))
      have hS : va_S (kF v0 s.heap.size) s.heap H1 (locs ++ L) := by
        refine ⟨Nat.le_trans hS.1 hz, fun x g1 g2 => ?_, fun x hx => ?_⟩
        · rw [hkeep x (Nat.lt_of_lt_of_le g1 hS.1) (fun z => ?_)]
          · exact hS.2.1 x g1 g2
          · rcases z with z | z
            · subst z
              exact g2 hqs
            · have := hS.1
              omega
        · rcases List.mem_append.mp hx with h | h
          · exact hS.2.2 x h
          · rcases hL x h with z | z
            · rw [z]
              exact hqs
            · exact hA _ (Nat.le_trans hS.1 z)
      refine va_astq (r := ("PageVault$Space", F_S, 3)) (f := fun j => if j < k then some (ad2 (n + 5 + j)) else none) S.1 S.2.1 hK.1 hP hD hS (n + 4) 1 (n + 5 + k) 2 (by rw [iw_get (by omega), va_up_ne _ _ (by omega)]; unfold fV; rw [if_neg (by omega), if_neg (by omega), if_neg (by omega), if_neg (by omega), if_neg (by omega), if_pos rfl]) rfl (vs := [.ref (ad2 1), .int (-1), .int 0]) (by rw [iw_get (by omega), va_up_self, hq]) rfl hi16 d_V_init_59 (fun H locs hP hD hS => ?_)
      rw [iw_set (by omega)] at hP hD
      refine lv_iinc (v := x2 + 1) (lv' := [(2, .int (x2 + 1)), (0, .ref v0), (1, .int a1)]) S.1 S.2.1 d_V_init_60 hl (k := 2) rfl rfl (by decide) rfl (fun ls hl => ?_)
      refine lv_goto (tgt := 37) S.1 S.2.1 d_V_init_63 (by decide) ?_
      have hc2 : ∀ i, i < n + 5 + (k + 1) → va_up (va_up (fV cI cS cQ n ad2 k) (n + 5 + k) (.inr (2, [.ref (ad2 1), .int (-1), .int 0]))) (n + 4) (.inl (cS, 16, .inr (.inr (.inr (.inr (va_up (fun j => if j < k then some (ad2 (n + 5 + j)) else none) x2.toNatClampNeg (some q))))))) i = fV cI cS cQ n ad2 (k + 1) i := by
        intro i hi
        have hx : x2.toNatClampNeg = k := by rw [ek]; exact nI_clamp (by omega)
        rw [hx]
        by_cases a : i = n + 4
        · subst a
          rw [va_up_self]
          unfold fV
          rw [if_neg (by omega), if_neg (by omega), if_neg (by omega), if_neg (by omega), if_neg (by omega), if_pos rfl]
          congr 7
          funext j
          by_cases b : j = k
          · subst b
            rw [va_up_self, if_pos (by omega), hq]
          · rw [va_up_ne _ _ b]
            by_cases d : j < k
            · rw [if_pos d, if_pos (by omega)]
            · rw [if_neg d, if_neg (by omega)]
        · rw [va_up_ne _ _ a]
          by_cases b : i = n + 5 + k
          · subst b
            rw [va_up_self]
            unfold fV
            rw [if_neg (by omega), if_neg (by omega), if_neg (by omega), if_neg (by omega), if_neg (by omega), if_neg (by omega)]
          · rw [va_up_ne _ _ b]
            unfold fV
            rw [if_neg a, if_neg a]
      have hw := iw_ext (ad := ad2) (ad' := ad2) (N := n + 5 + (k + 1)) (fun i hi => ⟨rfl, hc2 i hi⟩)
      have hP : va_P D classes (iw ad2 (n + 5 + (k + 1)) (fV cI cS cQ n ad2 (k + 1))) H := by rw [← hw]; exact hP
      have hD : va_D (kF v0 s.heap.size) (iw ad2 (n + 5 + (k + 1)) (fV cI cS cQ n ad2 (k + 1))) := by rw [← hw]; exact hD
      have hz := ih (k + 1) (x2 + 1) ad2 H locs ls (by rw [ek]; exact nI_1 k) (by omega) (by omega) e2 hP hD hS (lv_sub hl [1, 2, 0] rfl)
      exact hz
set_option maxHeartbeats 4000000 in
set_option maxRecDepth 100000 in
theorem c_V_init (v0 sz : Nat) (a1 : Int32) : Met l y_V_init (.code y_V_init b_V_init 3 none :: TG) ({ frames := 2, cells := 60, slots := 34000, locals := 40 })
    (va_Pc [.ref v0, .int a1] (fun U => U.heap.size = sz ∧ va_at D classes (v0, .inr (0, [.null, .null, .null, .int 0])) U.heap ∧ cK D cI cS cQ U))
    (fun _ st oc t => oc = .returned none ∧ (∃ ad : Nat → Nat, ad 0 = v0 ∧ iJ ad (xN (nOf a1)) ∧ (∀ i, i < xN (nOf a1) → i ≠ 0 → sz ≤ ad i) ∧ XP D ad (nOf a1) cI cS cQ (V0 (nOf a1)) t.heap) ∧ va_F (kF v0 sz) st t) 60 34000 (kF v0 sz) := by
  refine Met.ofW (cc := b_V_init) (maxL := 3) (ret := none) (by decide) rfl ?_
  intro p e s m args below meth c s₁ B hml hv
  obtain ⟨rfl, hsz, hP0, hK⟩ := hv
  have hts := atoms_spec (ws := .code y_V_init b_V_init 3 none :: TG) B.pre
  have S : CallFix p m c b_V_init 3 s #[Value.ref v0, Value.int a1] TG "PageVault" := ⟨B.exec, B.bytes, hml, findClass_of_methodNamed B.named, fun w h => hts w (List.mem_cons_of_mem _ h)⟩
  have hr := B.returns
  have hlk := B.notSynchronized
  have hin : meth.name = "<init>" := (name_of_methodNamed B.named B.method).1
  subst hsz
  have hl := lv_entry ([.ref v0, .int a1]) (n := 3) (Nat.le_of_ble_eq_true rfl)
  rw [lg_entry_eq]
  generalize (lg_sl ([.ref v0, .int a1]) ++ List.replicate (3 - (lg_sl ([.ref v0, .int a1])).length) Slot.unset).toArray = ls at hl ⊢
  have hl : lv_has ls 3 [(0, .ref v0), (1, .int a1)] := hl
  obtain ⟨n, hnd⟩ : ∃ n, n = nOf a1 := ⟨_, rfl⟩
  obtain ⟨hn8, hn32, hne⟩ := nOf_in a1
  rw [← hnd] at hn8 hn32 hne ⊢
  have hv0 : v0 < s.heap.size := hP0.lt
  have hP := oneW hP0
  have hD := oneD (h0 := v0) (sz := s.heap.size) (e0 := .inr (0, [.null, .null, .null, .int 0]))
  have hS : va_S (kF v0 s.heap.size) s.heap s.heap [] := va_S.rf
  have hA : ∀ q, s.heap.size ≤ q → kF v0 s.heap.size q := fun q h => Or.inr h
  refine lv_aload_n S.1 S.2.1 d_V_init_0 rfl (lv_at hl 0 rfl) ?_
  refine W.objInit S.1 S.2.1 S.2.2.2.1 (S.2.2.2.2 _ tg_11) (S.2.2.2.2 _ tg_15) (S.2.2.2.2 _ tg_16) rfl (by rw [hml]; exact hl.1) rfl d_V_init_1 (Nat.le_of_ble_eq_true rfl) (Nat.le_of_ble_eq_true rfl) ?_
  refine W.eq (g2 := F0 m 4 ls []) rfl ?_
  refine lv_aload_n S.1 S.2.1 d_V_init_4 rfl (lv_at hl 0 rfl) ?_
  refine va_new (ci := 1) (fs := [.null, .null, .int 0]) (C := "PageVault$Frames") (T := F_F) (N := 3) S.1 S.2.1 S.2.2.2.2 i_F t_F tok_F S.2.2.2.1 (S.2.2.2.2 _ tg_3) (S.2.2.2.2 _ tg_8) (S.2.2.2.2 _ tg_38) hK.1 hP hD hS hA rfl (fun j hj => by rcases (show j = 0 ∨ j = 1 ∨ j = 2 by omega) with rfl | rfl | rfl <;> rfl) (Nat.le_of_ble_eq_true rfl) (Nat.le_of_ble_eq_true rfl) d_V_init_5 (fun q H hP hD hS => ?_)
  rw [iw_push] at hP hD
  refine lv_dup S.1 S.2.1 d_V_init_8 rfl ?_
  refine lv_bipush (v := 8) S.1 S.2.1 d_V_init_9 (by decide) ?_
  refine lv_bipush (v := 32) S.1 S.2.1 d_V_init_11 (by decide) ?_
  refine lv_iload_n S.1 S.2.1 d_V_init_13 rfl (lv_at hl 1 rfl) ?_
  refine va_mmin S.1 S.2.1 (S.2.2.1.trans hl.1.symm) S.2.2.2.1 (S.2.2.2.2 _ tg_29) (S.2.2.2.2 _ tg_31) (S.2.2.2.2 _ tg_35) (S.2.2.2.2 _ tg_33) (Nat.le_of_ble_eq_true rfl) (Nat.le_of_ble_eq_true rfl) (Nat.le_of_ble_eq_true rfl) (Nat.le_of_ble_eq_true rfl) d_V_init_14 ?_
  refine va_mmax S.1 S.2.1 (S.2.2.1.trans hl.1.symm) S.2.2.2.1 (S.2.2.2.2 _ tg_30) (S.2.2.2.2 _ tg_32) (S.2.2.2.2 _ tg_35) (S.2.2.2.2 _ tg_34) (Nat.le_of_ble_eq_true rfl) (Nat.le_of_ble_eq_true rfl) (Nat.le_of_ble_eq_true rfl) (Nat.le_of_ble_eq_true rfl) d_V_init_17 ?_
  rw [hne]
  have hat : va_at D classes (q, .inr (1, [.null, .null, .int 0])) H := by
    have h := hP 1 _ (iw_get (by decide))
    rw [va_up_self, va_up_self] at h
    exact h
  have hat0 : va_at D classes (v0, .inr (0, [.null, .null, .null, .int 0])) H := by
    have h := hP 0 _ (iw_get (by decide))
    rw [va_up_ne _ _ (by decide), va_up_ne _ _ (by decide)] at h
    exact h
  have hqv : q ≠ v0 := fun z => by
    have h := (iJ_of hD) 1 0 (by decide) (by decide) (by rw [va_up_self, va_up_ne _ _ (by decide)]; exact z)
    omega
  have hqs : s.heap.size ≤ q := by
    have h := hD.2 1 _ (iw_get (by decide))
    rw [va_up_self] at h
    rcases h with h | h
    · exact absurd h hqv
    · exact h
  refine c_callI (nA := 1) (As := [.int (nI n)]) (rest := [.ref q, .ref v0]) (b := q) S (c_F_init l D cI cS cQ q H.size n hn32) (fun a st v t h => by cases h.1; rfl) (fun a U g mk h => ⟨h.1, h.2.1, h.2.2.1, cK.moved (u := U) (U := U.calling g mk a) (Vm.Alike.refl U.vm) h.2.2.2⟩) (fun U hU hW => ⟨rfl, by rw [hU], by rw [hU]; exact hat, cK.moved hW.alike hK⟩) tg_25 tg_38 tg_17 tg_21 rfl (by decide +kernel) (by decide +kernel) ⟨rfl, rfl, Nat.le_of_ble_eq_true rfl, Nat.le_of_ble_eq_true rfl⟩ ⟨Nat.le_of_ble_eq_true rfl, Nat.le_of_ble_eq_true rfl⟩ rfl hl.1 rfl (Nat.le_of_ble_eq_true rfl) d_V_init_20 (fun st t H1 L hst ht hvm hQ hL => ?_)
  obtain ⟨-, ⟨adF, f0, fJ, fB, hPF⟩, hz, hkeep⟩ := hQ
  rw [ht] at hPF
  rw [hst, ht] at hz hkeep
  obtain ⟨ad, had⟩ : ∃ ad : Nat → Nat, ad = fun i => if i = 0 then v0 else adF (i - 1) := ⟨_, rfl⟩
  have a0 : ad 0 = v0 := by rw [had]; rfl
  have aS : ∀ i, ad (i + 1) = adF i := fun i => by rw [had]; rfl
  have hv1 : v0 < H.size := hat0.lt
  have hJ : iJ ad (n + 4) := by
    have key : ∀ i, i < n + 3 → adF i ≠ v0 := fun i hi z => by
      by_cases b : i = 0
      · subst b
        exact hqv (f0.symm.trans z)
      · have := fB i hi b
        omega
    intro i j hi hj ee
    rcases i with _ | i <;> rcases j with _ | j
    · rfl
    · rw [a0, aS] at ee
      exact absurd ee.symm (key j (by omega))
    · rw [a0, aS] at ee
      exact absurd ee (key i (by omega))
    · rw [aS, aS] at ee
      rw [fJ i j (by omega) (by omega) ee]
  have hP : va_P D classes (iw ad (n + 4) (fun i => if i = 0 then .inr (0, [.null, .null, .null, .int 0]) else fV cI cS cQ n ad 0 i)) H1 := by
    intro i x hx
    obtain ⟨hi, rfl⟩ := iw_at hx
    rcases i with _ | i
    · rw [a0]
      exact hat0.kept (hkeep v0 hv1 (fun z => by
        rcases z with z | z
        · exact hqv z.symm
        · omega))
    · have h := hPF i _ (iw_get (by omega))
      rw [← aS] at h
      show va_at D classes (ad (i + 1), fV cI cS cQ n ad 0 (i + 1)) H1
      unfold fV
      unfold fF at h
      rw [if_neg (by omega)]
      by_cases b0 : i = 0
      · subst b0
        rw [if_pos rfl] at h
        rw [if_pos rfl, aS 1, aS (n + 2)]
        exact h
      · rw [if_neg b0] at h
        rw [if_neg (by omega)]
        by_cases b1 : i = 1
        · subst b1
          rw [if_pos rfl] at h
          rw [if_pos rfl]
          refine arrq_cong h (fun j hj => ?_)
          rw [if_pos hj, show 3 + j = (2 + j) + 1 by omega, aS]
        · rw [if_neg b1] at h
          rw [if_neg (by omega)]
          by_cases b2 : i < n + 2
          · rw [if_pos b2] at h
            rw [if_pos (by omega)]
            exact h
          · rw [if_neg b2] at h
            rw [if_neg (by omega), if_pos (by omega)]
            exact h
  have hD : va_D (kF v0 s.heap.size) (iw ad (n + 4) (fun i => if i = 0 then .inr (0, [.null, .null, .null, .int 0]) else fV cI cS cQ n ad 0 i)) := iw_D2 hJ (fun i hi => by
    rcases i with _ | i
    · exact Or.inl a0
    · refine Or.inr ?_
      rw [aS]
      by_cases b : i = 0
      · subst b
        rw [f0]
        exact hqs
      · exact Nat.le_trans hS.1 (fB i (by omega) b))
  have hS : va_S (kF v0 s.heap.size) s.heap H1 ([] ++ L) := by
    refine ⟨Nat.le_trans hS.1 hz, fun x g1 g2 => ?_, fun x hx => ?_⟩
    · rw [hkeep x (Nat.lt_of_lt_of_le g1 hS.1) (fun z => ?_)]
      · exact hS.2.1 x g1 g2
      · rcases z with z | z
        · omega
        · have := hS.1
          omega
    · rcases hL x hx with z | z
      · exact Or.inr (by rw [z]; exact hqs)
      · exact Or.inr (Nat.le_trans hS.1 z)
  have e1 : q = ad 1 := by rw [aS 0]; exact f0.symm
  rw [e1]
  refine va_putF (D := D) (ci := 0) (v := .ref (ad 1)) (ty := .object "PageVault$Frames") (C := "PageVault") (T := F_V) (N := 4) S.1 S.2.1 S.2.2.2.2 i_V t_V tok_V n_V S.2.2.2.1 hK.1 hP hD hS 0 (fs := [.null, .null, .null, .int 0]) (by rw [iw_get (by omega), a0]; rfl) rfl 0 (by decide) (S.2.2.2.2 _ tg_49) (fun _ h9 => h9) rfl hin rfl (by decide +kernel) rfl rfl (Nat.le_of_ble_eq_true rfl) d_V_init_23 (fun H locs hP hD hS => ?_)
  rw [iw_set2 (by omega) a0] at hP hD
  refine lv_aload_n S.1 S.2.1 d_V_init_26 rfl (lv_at hl 0 rfl) ?_
  refine lv_bipush (v := 16) S.1 S.2.1 d_V_init_27 (by decide) ?_
  refine va_newq (C := "PageVault$Space") (N' := 16) S.1 S.2.1 S.2.2.2.1 (S.2.2.2.2 _ tg_4) hK.2.2 hK.1 hP hD hS hA (by decide) (by decide) (by decide) (Nat.le_of_ble_eq_true rfl) (Nat.le_of_ble_eq_true rfl) d_V_init_29 (fun q2 cA H hK2 hP hD hS => ?_)
  have eA : cA = cS := by
    obtain ⟨_, _, -, -, -, h2⟩ := (hK.1.2 1 (cS, .object "PageVault$Space") rfl).2
    obtain ⟨_, _, -, -, -, h3⟩ := (hK2.2 3 (cA, .object "PageVault$Space") rfl).2
    exact Option.some.inj (h3.symm.trans h2)
  subst eA
  rw [iw_push] at hP hD
  obtain ⟨ad2, had2⟩ : ∃ ad2, ad2 = va_up ad (n + 4) q2 := ⟨_, rfl⟩
  rw [← had2] at hP hD
  have b4 : ad2 (n + 4) = q2 := by rw [had2, va_up_self]
  have bag : ∀ i, i < n + 4 → ad i = ad2 i := fun i hi => by rw [had2, va_up_ne _ _ (by omega)]
  have b0 : ad2 0 = v0 := by rw [← bag 0 (by omega)]; exact a0
  refine va_putF (D := D) (ci := 0) (v := .ref q2) (ty := .array (.object "PageVault$Space")) (C := "PageVault") (T := F_V) (N := 4) S.1 S.2.1 S.2.2.2.2 i_V t_V tok_V n_V S.2.2.2.1 hK.1 hP hD hS 0 (fs := [.ref (ad 1), .null, .null, .int 0]) (by rw [iw_get (by omega), b0, va_up_ne _ _ (by omega), va_up_self]; rfl) rfl 1 (by decide) (S.2.2.2.2 _ tg_50) (fun _ h9 => h9) rfl hin rfl (by decide +kernel) rfl rfl (Nat.le_of_ble_eq_true rfl) d_V_init_32 (fun H locs hP hD hS => ?_)
  rw [iw_set2 (by omega) b0] at hP hD
  have hJ2 := iJ_of hD
  have hP : va_P D classes (iw ad2 (n + 5 + 0) (fV cI cA cQ n ad2 0)) H := by
    refine iw_cong hP (fun i hi h => ?_)
    by_cases c0 : i = 0
    · subst c0
      rw [va_up_self] at h
      unfold fV
      rw [if_pos rfl, b4, ← bag 1 (by omega)]
      exact h
    · rw [va_up_ne _ _ c0] at h
      by_cases c4 : i = n + 4
      · subst c4
        rw [va_up_self] at h
        unfold fV
        rw [if_neg (by omega), if_neg (by omega), if_neg (by omega), if_neg (by omega), if_neg (by omega), if_pos rfl]
        exact arrq_cong h (fun j hj => by rw [if_neg (by omega)])
      · rw [va_up_ne _ _ c4, va_up_ne _ _ c0, if_neg c0] at h
        have hi2 : i < n + 4 := by omega
        unfold fV at h ⊢
        rw [if_neg c0] at h ⊢
        by_cases c1 : i = 1
        · rw [if_pos c1] at h ⊢
          rw [← bag 2 (by omega), ← bag (n + 3) (by omega)]
          exact h
        · rw [if_neg c1] at h ⊢
          by_cases c2 : i = 2
          · rw [if_pos c2] at h ⊢
            exact arrq_cong h (fun j hj => by rw [if_pos hj, if_pos hj, bag (3 + j) (by omega)])
          · rw [if_neg c2] at h ⊢
            by_cases c3 : i < n + 3
            · rw [if_pos c3] at h ⊢
              exact h
            · rw [if_neg c3, if_pos (by omega)] at h ⊢
              exact h
  have hD : va_D (kF v0 s.heap.size) (iw ad2 (n + 5 + 0) (fV cI cA cQ n ad2 0)) := iw_D2 hJ2 (fun i hi => hD.2 i _ (iw_get hi))
  refine lv_iconst (v := 0) S.1 S.2.1 d_V_init_35 (by decide) ?_
  refine lv_istore_n (lv' := [(2, .int 0), (0, .ref v0), (1, .int a1)]) S.1 S.2.1 d_V_init_36 rfl hl (by decide) rfl (fun ls hl => ?_)
  refine w_V_init l D cI cA cQ v0 n hn32 a1 S hK (fun ad H locs ls e0 hP hD hS hl => ?_) 17 0 0 ad2 _ _ _ nI_0.symm (by decide) (by decide) b0 hP hD hS (lv_sub hl [1, 2, 0] rfl)
  refine lv_aload_n S.1 S.2.1 d_V_init_66 rfl (lv_at hl 0 rfl) ?_
  refine lv_sipush (v := 512) S.1 S.2.1 d_V_init_67 (by decide) ?_
  refine va_newa (atype := .int) (ty := .int) (N' := 512) (a0 := (512, .inl (fun _ => 0))) S.1 S.2.1 (S.2.2.2.2 _ tg_1) rfl hK.1 hP hD hS hA (fun _ => rfl) (by decide) (by decide) (by decide) (Nat.le_of_ble_eq_true rfl) (Nat.le_of_ble_eq_true rfl) d_V_init_70 (fun q3 cB H hK2 hP hD hS => ?_)
  have eB : cB = cI := by
    have h2 : s.vm.findClass ("[" ++ (FieldType.int).toString) = some cI := (hK.1.2 0 (cI, .int) rfl).2
    have h3 : s.vm.findClass ("[" ++ (FieldType.int).toString) = some cB := (hK2.2 3 (cB, .int) rfl).2
    exact Option.some.inj (h3.symm.trans h2)
  subst eB
  rw [iw_push] at hP hD
  have g0 : va_up ad (n + 21) q3 0 = v0 := by rw [va_up_ne _ _ (by omega)]; exact e0
  refine va_putF (D := D) (ci := 0) (v := .ref q3) (ty := .array .int) (C := "PageVault") (T := F_V) (N := 4) S.1 S.2.1 S.2.2.2.2 i_V t_V tok_V n_V S.2.2.2.1 hK.1 hP hD hS 0 (fs := [.ref (ad 1), .ref (ad (n + 4)), .null, .int 0]) (by rw [iw_get (by omega), g0, va_up_ne _ _ (by omega)]; rfl) rfl 2 (by decide) (S.2.2.2.2 _ tg_51) (fun _ h9 => h9) rfl hin rfl (by decide +kernel) rfl rfl (Nat.le_of_ble_eq_true rfl) d_V_init_72 (fun H locs hP hD hS => ?_)
  rw [iw_set2 (by omega) g0] at hP hD
  refine W.widen (k := 60) (n := 34000) (by decide) (by decide) ?_
  have hJ3 := iJ_of hD
  obtain ⟨ad3, had3⟩ : ∃ ad3, ad3 = va_up ad (n + 21) q3 := ⟨_, rfl⟩
  rw [← had3] at hP hD hJ3 g0
  have m21 : ad3 (n + 21) = q3 := by rw [had3, va_up_self]
  have mag : ∀ i, i < n + 21 → ad3 i = ad i := fun i hi => by rw [had3, va_up_ne _ _ (by omega)]
  obtain ⟨pi, hpi⟩ : ∃ pi : Nat → Nat, pi = fun i => if i = 0 then 0 else if i = 1 then 1 else if i = 2 then n + 4 else if i = 3 then n + 21 else if i = 4 then 2 else if i = 5 then n + 3 else if i < 22 then n + 5 + (i - 6) else 3 + (i - 22) := ⟨_, rfl⟩
  have p0 : pi 0 = 0 := by rw [hpi]; rfl
  have p1 : pi 1 = 1 := by rw [hpi]; rfl
  have p2 : pi 2 = n + 4 := by rw [hpi]; rfl
  have p3 : pi 3 = n + 21 := by rw [hpi]; rfl
  have p4 : pi 4 = 2 := by rw [hpi]; rfl
  have p5 : pi 5 = n + 3 := by rw [hpi]; rfl
  have p6 : ∀ k, k < 16 → pi (6 + k) = n + 5 + k := fun k hk => by
    rw [hpi]
    show (if 6 + k = 0 then _ else _) = _
    rw [if_neg (by omega), if_neg (by omega), if_neg (by omega), if_neg (by omega), if_neg (by omega), if_neg (by omega), if_pos (by omega)]
    omega
  have p7 : ∀ f, pi (22 + f) = 3 + f := fun f => by
    rw [hpi]
    show (if 22 + f = 0 then _ else _) = _
    rw [if_neg (by omega), if_neg (by omega), if_neg (by omega), if_neg (by omega), if_neg (by omega), if_neg (by omega), if_neg (by omega)]
    omega
  have plt : ∀ i, i < xN n → pi i < n + 21 + 1 := fun i hi => by
    have hi : i < 22 + n := hi
    rw [hpi]
    show (if i = 0 then _ else _) < _
    split <;> (try omega)
    split <;> (try omega)
    split <;> (try omega)
    split <;> (try omega)
    split <;> (try omega)
    split <;> (try omega)
    split <;> omega
  have pinj : ∀ i j, i < xN n → j < xN n → pi i = pi j → i = j := fun i j hi hj ee => by
    have hi : i < 22 + n := hi
    have hj : j < 22 + n := hj
    rw [hpi] at ee
    have ee : (if i = 0 then 0 else if i = 1 then 1 else if i = 2 then n + 4 else if i = 3 then n + 21 else if i = 4 then 2 else if i = 5 then n + 3 else if i < 22 then n + 5 + (i - 6) else 3 + (i - 22)) = (if j = 0 then 0 else if j = 1 then 1 else if j = 2 then n + 4 else if j = 3 then n + 21 else if j = 4 then 2 else if j = 5 then n + 3 else if j < 22 then n + 5 + (j - 6) else 3 + (j - 22)) := ee
    repeat' split at ee
    all_goals omega
  refine W.vret S.1 S.2.1 hr (fun t ht hW => ⟨rfl, ⟨fun i => ad3 (pi i), by show ad3 (pi 0) = v0; rw [p0]; exact g0, fun i j hi hj ee => pinj i j hi hj (hJ3 _ _ (plt i hi) (plt j hj) ee), fun i hi h0i => ?_, ?_⟩, hS.F ht⟩) hS.2.2 d_V_init_75
  · rcases hD.2 (pi i) _ (iw_get (plt i hi)) with h | h
    · have hh := hJ3 (pi i) 0 (plt i hi) (by omega) (h.trans g0.symm)
      rw [← p0] at hh
      exact absurd (pinj i 0 hi (by unfold xN; omega) hh) h0i
    · exact h
  · rw [ht]
    intro i x hx
    obtain ⟨hi, rfl⟩ := iw_at hx
    have h := hP (pi i) _ (iw_get (plt i hi))
    by_cases c0 : i = 0
    · subst c0
      rw [p0, va_up_self] at h
      show va_at D classes (ad3 (pi 0), .inr (0, [.ref (ad3 (pi 1)), .ref (ad3 (pi 2)), .ref (ad3 (pi 3)), .int 0])) H
      rw [p0, p1, p2, p3, m21, mag 1 (by omega), mag (n + 4) (by omega)]
      exact h
    · have hpn : pi i ≠ 0 := fun z => c0 (pinj i 0 hi (by unfold xN; omega) (z.trans p0.symm))
      rw [va_up_ne _ _ hpn] at h
      by_cases c3 : i = 3
      · subst c3
        rw [p3, va_up_self] at h
        show va_at D classes (ad3 (pi 3), .inl (cB, 512, .inl (fun _ => 0))) H
        rw [p3]
        exact h
      · have hp21 : pi i ≠ n + 21 := fun z => c3 (pinj i 3 hi (by unfold xN; omega) (z.trans p3.symm))
        rw [va_up_ne _ _ hp21] at h
        by_cases c1 : i = 1
        · subst c1
          rw [p1] at h
          show va_at D classes (ad3 (pi 1), .inr (1, [.ref (ad3 (pi 4)), .ref (ad3 (pi 5)), .int (nI n)])) H
          rw [p1, p4, p5, mag 2 (by omega), mag (n + 3) (by omega)]
          exact h
        · by_cases c2 : i = 2
          · subst c2
            rw [p2] at h
            unfold fV at h
            rw [if_neg (by omega), if_neg (by omega), if_neg (by omega), if_neg (by omega), if_neg (by omega), if_pos rfl] at h
            show va_at D classes (ad3 (pi 2), .inl (cA, 16, .inr (.inr (.inr (.inr (fun k => some (ad3 (pi (6 + k))))))))) H
            rw [p2]
            exact arrq_cong h (fun j hj => by rw [if_pos hj, p6 j hj, mag _ (by omega)])
          · by_cases c4 : i = 4
            · subst c4
              rw [p4] at h
              show va_at D classes (ad3 (pi 4), .inl (cQ, n, .inr (.inr (.inr (.inr (fun f => some (ad3 (pi (22 + f))))))))) H
              rw [p4]
              exact arrq_cong h (fun j hj => by rw [if_pos hj, p7 j, mag _ (by omega)])
            · by_cases c5 : i = 5
              · subst c5
                rw [p5] at h
                unfold fV at h
                rw [if_neg (by omega), if_neg (by omega), if_neg (by omega), if_neg (by omega), if_pos rfl] at h
                show va_at D classes (ad3 (pi 5), .inl (cB, n, .inl (fun _ => 0))) H
                rw [p5]
                exact h
              · by_cases c6 : i < 22
                · obtain ⟨k, rfl⟩ : ∃ k, i = 6 + k := ⟨i - 6, by omega⟩
                  rw [p6 k (by omega)] at h
                  unfold fV at h
                  rw [if_neg (by omega), if_neg (by omega), if_neg (by omega), if_neg (by omega), if_neg (by omega), if_neg (by omega)] at h
                  rw [xc_sp (by omega)]
                  show va_at D classes (ad3 (pi (6 + k)), .inr (2, [.ref (ad3 (pi 1)), .int (-1), .int 0])) H
                  rw [p6 k (by omega), p1, mag 1 (by omega)]
                  exact h
                · obtain ⟨f, rfl⟩ : ∃ f, i = 22 + f := ⟨i - 22, by omega⟩
                  have hi : 22 + f < 22 + n := hi
                  rw [p7 f] at h
                  unfold fV at h
                  rw [if_neg (by omega), if_neg (by omega), if_neg (by omega), if_pos (by omega)] at h
                  rw [xc_row]
                  show va_at D classes (ad3 (pi (22 + f)), .inl (cB, 1024, .inl (fun _ => 0))) H
                  rw [p7 f]
                  exact h
end CV
