/-! The vault's state: what its cells hold, once it is made. Cells: 0 the vault, 1 the Frames, 2 spaces, 3 buffer, 4 words, 5 holders, 6 + k the Space k, 22 + f the words of frame f. -/
abbrev VS : Type := Int32 × Int32 × (Nat → Int32) × (Nat → Int32) × (Nat → Int32) × (Nat → Int32) × (Nat → Nat → Int32)
def v_trap (V : VS) : Int32 := V.1
def v_spare (V : VS) : Int32 := V.2.1
def v_buf (V : VS) : Nat → Int32 := V.2.2.1
def v_hold (V : VS) : Nat → Int32 := V.2.2.2.1
def v_root (V : VS) : Nat → Int32 := V.2.2.2.2.1
def v_len (V : VS) : Nat → Int32 := V.2.2.2.2.2.1
def v_words (V : VS) : Nat → Nat → Int32 := V.2.2.2.2.2.2
def s_trap (V : VS) (x : Int32) : VS := (x, V.2)
def s_spare (V : VS) (x : Int32) : VS := (V.1, x, V.2.2)
def s_buf (V : VS) (k : Nat) (x : Int32) : VS := (V.1, V.2.1, upd V.2.2.1 k x, V.2.2.2)
def s_hold (V : VS) (k : Nat) (x : Int32) : VS := (V.1, V.2.1, V.2.2.1, upd V.2.2.2.1 k x, V.2.2.2.2)
def s_root (V : VS) (k : Nat) (x : Int32) : VS := (V.1, V.2.1, V.2.2.1, V.2.2.2.1, upd V.2.2.2.2.1 k x, V.2.2.2.2.2)
def s_len (V : VS) (k : Nat) (x : Int32) : VS := (V.1, V.2.1, V.2.2.1, V.2.2.2.1, V.2.2.2.2.1, upd V.2.2.2.2.2.1 k x, V.2.2.2.2.2.2)
/-- a whole frame's words -/
def s_row (V : VS) (f : Nat) (r : Nat → Int32) : VS := (V.1, V.2.1, V.2.2.1, V.2.2.2.1, V.2.2.2.2.1, V.2.2.2.2.2.1, va_up V.2.2.2.2.2.2 f r)
def s_word (V : VS) (f j : Nat) (x : Int32) : VS := s_row V f (upd (v_words V f) j x)
def xN (n : Nat) : Nat := 22 + n
def xc (ad : Nat → Nat) (n : Nat) (cI cS cQ : ClassId) (V : VS) (i : Nat) : va_E := match i with
  | 0 => .inr (0, [.ref (ad 1), .ref (ad 2), .ref (ad 3), .int (v_trap V)])
  | 1 => .inr (1, [.ref (ad 4), .ref (ad 5), .int (v_spare V)])
  | 2 => .inl (cS, 16, .inr (.inr (.inr (.inr (fun k => some (ad (6 + k)))))))
  | 3 => .inl (cI, 512, .inl (v_buf V))
  | 4 => .inl (cQ, n, .inr (.inr (.inr (.inr (fun f => some (ad (22 + f)))))))
  | 5 => .inl (cI, n, .inl (v_hold V))
  | i + 6 => if i < 16 then .inr (2, [.ref (ad 1), .int (v_root V i), .int (v_len V i)]) else .inl (cI, 1024, .inl (v_words V (i - 16)))
theorem xc_sp {ad : Nat → Nat} {n : Nat} {cI cS cQ : ClassId} {V : VS} {k : Nat} (hk : k < 16) : xc ad n cI cS cQ V (6 + k) = .inr (2, [.ref (ad 1), .int (v_root V k), .int (v_len V k)]) := by
  rw [Nat.add_comm 6 k]
  exact if_pos hk
theorem xc_row {ad : Nat → Nat} {n : Nat} {cI cS cQ : ClassId} {V : VS} {f : Nat} : xc ad n cI cS cQ V (22 + f) = .inl (cI, 1024, .inl (v_words V f)) := by
  have e : 22 + f = (16 + f) + 6 := by omega
  rw [e]
  show (if 16 + f < 16 then _ else _) = _
  rw [if_neg (by omega), show 16 + f - 16 = f by omega]
/-- the cells' changes, by the state's -/
theorem xc_trap {ad : Nat → Nat} {n : Nat} {cI cS cQ : ClassId} {V : VS} {x : Int32} : va_up (xc ad n cI cS cQ V) 0 (.inr (0, [.ref (ad 1), .ref (ad 2), .ref (ad 3), .int x])) = xc ad n cI cS cQ (s_trap V x) := by
  funext i
  match i with
  | 0 => rfl
  | 1 => rfl
  | 2 => rfl
  | 3 => rfl
  | 4 => rfl
  | 5 => rfl
  | i + 6 => rfl
theorem xc_spare {ad : Nat → Nat} {n : Nat} {cI cS cQ : ClassId} {V : VS} {x : Int32} : va_up (xc ad n cI cS cQ V) 1 (.inr (1, [.ref (ad 4), .ref (ad 5), .int x])) = xc ad n cI cS cQ (s_spare V x) := by
  funext i
  match i with
  | 0 => rfl
  | 1 => rfl
  | 2 => rfl
  | 3 => rfl
  | 4 => rfl
  | 5 => rfl
  | i + 6 => rfl
theorem xc_buf {ad : Nat → Nat} {n : Nat} {cI cS cQ : ClassId} {V : VS} {k : Nat} {x : Int32} : va_up (xc ad n cI cS cQ V) 3 (.inl (cI, 512, .inl (upd (v_buf V) k x))) = xc ad n cI cS cQ (s_buf V k x) := by
  funext i
  match i with
  | 0 => rfl
  | 1 => rfl
  | 2 => rfl
  | 3 => rfl
  | 4 => rfl
  | 5 => rfl
  | i + 6 => rfl
theorem xc_hold {ad : Nat → Nat} {n : Nat} {cI cS cQ : ClassId} {V : VS} {k : Nat} {x : Int32} : va_up (xc ad n cI cS cQ V) 5 (.inl (cI, n, .inl (upd (v_hold V) k x))) = xc ad n cI cS cQ (s_hold V k x) := by
  funext i
  match i with
  | 0 => rfl
  | 1 => rfl
  | 2 => rfl
  | 3 => rfl
  | 4 => rfl
  | 5 => rfl
  | i + 6 => rfl
theorem xc_root {ad : Nat → Nat} {n : Nat} {cI cS cQ : ClassId} {V : VS} {k : Nat} (hk : k < 16) {x : Int32} : va_up (xc ad n cI cS cQ V) (6 + k) (.inr (2, [.ref (ad 1), .int x, .int (v_len V k)])) = xc ad n cI cS cQ (s_root V k x) := by
  funext i
  by_cases e : i = 6 + k
  · subst e
    rw [va_up_self, xc_sp hk]
    show _ = Sum.inr (2, [Value.ref (ad 1), Value.int (upd (v_root V) k x k), Value.int (v_len V k)])
    rw [pk_us]
  · rw [va_up_ne _ _ e]
    match i with
    | 0 => rfl
    | 1 => rfl
    | 2 => rfl
    | 3 => rfl
    | 4 => rfl
    | 5 => rfl
    | i + 6 =>
      show (if i < 16 then _ else _) = (if i < 16 then Sum.inr (2, [Value.ref (ad 1), Value.int (upd (v_root V) k x i), Value.int (v_len V i)]) else _)
      rw [pk_un (by omega)]
      rfl
theorem xc_len {ad : Nat → Nat} {n : Nat} {cI cS cQ : ClassId} {V : VS} {k : Nat} (hk : k < 16) {x : Int32} : va_up (xc ad n cI cS cQ V) (6 + k) (.inr (2, [.ref (ad 1), .int (v_root V k), .int x])) = xc ad n cI cS cQ (s_len V k x) := by
  funext i
  by_cases e : i = 6 + k
  · subst e
    rw [va_up_self, xc_sp hk]
    show _ = Sum.inr (2, [Value.ref (ad 1), Value.int (v_root V k), Value.int (upd (v_len V) k x k)])
    rw [pk_us]
  · rw [va_up_ne _ _ e]
    match i with
    | 0 => rfl
    | 1 => rfl
    | 2 => rfl
    | 3 => rfl
    | 4 => rfl
    | 5 => rfl
    | i + 6 =>
      show (if i < 16 then _ else _) = (if i < 16 then Sum.inr (2, [Value.ref (ad 1), Value.int (v_root V i), Value.int (upd (v_len V) k x i)]) else _)
      rw [pk_un (by omega)]
      rfl
theorem xc_rows {ad : Nat → Nat} {n : Nat} {cI cS cQ : ClassId} {V : VS} {f : Nat} {r : Nat → Int32} : va_up (xc ad n cI cS cQ V) (22 + f) (.inl (cI, 1024, .inl r)) = xc ad n cI cS cQ (s_row V f r) := by
  funext i
  by_cases e : i = 22 + f
  · subst e
    rw [va_up_self, xc_row]
    show _ = Sum.inl (cI, 1024, Sum.inl (va_up (v_words V) f r f))
    rw [va_up_self]
  · rw [va_up_ne _ _ e]
    match i with
    | 0 => rfl
    | 1 => rfl
    | 2 => rfl
    | 3 => rfl
    | 4 => rfl
    | 5 => rfl
    | i + 6 =>
      show (if i < 16 then _ else _) = (if i < 16 then _ else Sum.inl (cI, 1024, Sum.inl (va_up (v_words V) f r (i - 16))))
      by_cases h : i < 16
      · rw [if_pos h, if_pos h]
        rfl
      · rw [if_neg h, if_neg h, va_up_ne _ _ (by omega)]
/-! one instruction, over the class's state -/
def xT (cI cS cQ : ClassId) : List (ClassId × FieldType) := [(cI, .int), (cS, .object "PageVault$Space"), (cQ, .array .int)]
def xK (D : va_G) (cI cS cQ : ClassId) (U : State) : Prop := va_K D classes (xT cI cS cQ) U ∧ ∀ w ∈ NL, va_Nw w U
theorem xKo {D : va_G} {cI cS cQ : ClassId} : KnOk (xK D cI cS cQ) := ⟨fun U g mk a h => ⟨va_K.moved (u := U) (U := U.calling g mk a) (Vm.Alike.refl U.vm) h.1, fun w hw => va_Nw.same (u := U) (NL_t w hw) rfl (h.2 w hw)⟩, fun s U hW h => ⟨va_K.moved hW.alike h.1, fun w hw => NL_warm hW w hw (h.2 w hw)⟩⟩
/-- a reference to a Space, or null -/
def xo (ad : Nat → Nat) (o : Option Nat) : Value := match o with | none => .null | some k => .ref (ad (6 + k))
def oc {α β : Type} (o : Option α) (a : β) (f : α → β) : β := match o with | none => a | some x => f x
theorem oc_none {α β : Type} {o : Option α} {a : β} {f : α → β} (h : o = none) : oc o a f = a := by rw [h]; rfl
theorem oc_some {α β : Type} {o : Option α} {a : β} {f : α → β} {x : α} (h : o = some x) : oc o a f = f x := by rw [h]; rfl
def ju (x y : Int32) : Int32 := (x.toUInt32 >>> (y.toUInt32 &&& Int32.toUInt32 31)).toInt32
theorem vin_lt {x : Int32} {n : Nat} (h : vp_in x n) : x.toNatClampNeg < n := Nat.not_le.mp fun q => h (Or.inr q)
theorem vin_c {x b : Int32} {B : Nat} (hb : b = nI B) (hB : B < 2 ^ 31) (h0 : ¬ x < 0) (h1 : ¬ b ≤ x) : vp_in x B := by
  subst hb
  obtain ⟨j, hj, rfl⟩ := nI_of h0
  exact vp_in_nI (by
    rcases Nat.lt_or_ge j B with q | q
    · exact q
    · exact absurd (nI_le q hj) h1) hB
abbrev XC (l : Launch) (D : va_G) (ad : Nat → Nat) (n : Nat) (cI cS cQ : ClassId) (y : MethodName) (bytes : ByteArray) (maxL : Nat) (ret : Option FieldType) (rm : Room) (av : List Value) (V : VS) (out : Option Value) (V' : VS) : Prop := FC l D ad (xN n) (xK D cI cS cQ) y bytes maxL ret rm av (xc ad n cI cS cQ V) out (xc ad n cI cS cQ V')
abbrev XP (D : va_G) (ad : Nat → Nat) (n : Nat) (cI cS cQ : ClassId) (V : VS) (H : Heap) : Prop := va_P D classes (iw ad (xN n) (xc ad n cI cS cQ V)) H
def xE (ad : Nat → Nat) (n : Nat) : Prop := iJ ad (xN n) ∧ n ≤ 32
theorem xE.n {ad : Nat → Nat} {n : Nat} (h : xE ad n) : n < 2 ^ 31 := Nat.lt_of_le_of_lt h.2 (by decide)
section XR
variable {p : Program} {l : Launch} {e : Env} {R : Room} {s : State} {m : MethodId} {args : Array Value} {below : List Frame} {meth : Method} {c : Code} {H : Heap} {locs : List Loc} {cells slots : Nat} {Q : State → Prop}
variable {cc : ByteArray} {nL pc index : Nat} {ls : Array Slot} {rest st0 : List Value} {own : String} {D : va_G} {ad : Nat → Nat} {n : Nat} {cI cS cQ : ClassId} {V V' : VS} {H0 : Heap}
theorem x_get_frames (S : CallFix p m c cc nL s args TG own) (hK : xK D cI cS cQ s) (hP : XP D ad n cI cS cQ V H) (hlink : Cond.fieldLink own index "PageVault" "frames" "LPageVault$Frames;" ∈ TG) (hdg : decode cc pc = .ok (.getfield index, 3)) (kk : W p l e R s m args below meth c H locs cells slots Q (F0 m (pc + 3) ls (.ref (ad 1) :: rest))) : W p l e R s m args below meth c H locs cells slots Q (F0 m pc ls (.ref (ad (0)) :: rest)) := g_get S hK.1 hP i_V rfl (k := 0) (by decide) rfl (i := 0) (by unfold xN; omega) rfl rfl hlink hdg kk
theorem x_get_spaces (S : CallFix p m c cc nL s args TG own) (hK : xK D cI cS cQ s) (hP : XP D ad n cI cS cQ V H) (hlink : Cond.fieldLink own index "PageVault" "spaces" "[LPageVault$Space;" ∈ TG) (hdg : decode cc pc = .ok (.getfield index, 3)) (kk : W p l e R s m args below meth c H locs cells slots Q (F0 m (pc + 3) ls (.ref (ad 2) :: rest))) : W p l e R s m args below meth c H locs cells slots Q (F0 m pc ls (.ref (ad (0)) :: rest)) := g_get S hK.1 hP i_V rfl (k := 1) (by decide) rfl (i := 0) (by unfold xN; omega) rfl rfl hlink hdg kk
theorem x_get_buffer (S : CallFix p m c cc nL s args TG own) (hK : xK D cI cS cQ s) (hP : XP D ad n cI cS cQ V H) (hlink : Cond.fieldLink own index "PageVault" "buffer" "[I" ∈ TG) (hdg : decode cc pc = .ok (.getfield index, 3)) (kk : W p l e R s m args below meth c H locs cells slots Q (F0 m (pc + 3) ls (.ref (ad 3) :: rest))) : W p l e R s m args below meth c H locs cells slots Q (F0 m pc ls (.ref (ad (0)) :: rest)) := g_get S hK.1 hP i_V rfl (k := 2) (by decide) rfl (i := 0) (by unfold xN; omega) rfl rfl hlink hdg kk
theorem x_get_trap (S : CallFix p m c cc nL s args TG own) (hK : xK D cI cS cQ s) (hP : XP D ad n cI cS cQ V H) (hlink : Cond.fieldLink own index "PageVault" "latestTrap" "I" ∈ TG) (hdg : decode cc pc = .ok (.getfield index, 3)) (kk : W p l e R s m args below meth c H locs cells slots Q (F0 m (pc + 3) ls (.int (v_trap V) :: rest))) : W p l e R s m args below meth c H locs cells slots Q (F0 m pc ls (.ref (ad (0)) :: rest)) := g_get S hK.1 hP i_V rfl (k := 3) (by decide) rfl (i := 0) (by unfold xN; omega) rfl rfl hlink hdg kk
theorem x_get_words (S : CallFix p m c cc nL s args TG own) (hK : xK D cI cS cQ s) (hP : XP D ad n cI cS cQ V H) (hlink : Cond.fieldLink own index "PageVault$Frames" "words" "[[I" ∈ TG) (hdg : decode cc pc = .ok (.getfield index, 3)) (kk : W p l e R s m args below meth c H locs cells slots Q (F0 m (pc + 3) ls (.ref (ad 4) :: rest))) : W p l e R s m args below meth c H locs cells slots Q (F0 m pc ls (.ref (ad (1)) :: rest)) := g_get S hK.1 hP i_F rfl (k := 0) (by decide) rfl (i := 1) (by unfold xN; omega) rfl rfl hlink hdg kk
theorem x_get_holders (S : CallFix p m c cc nL s args TG own) (hK : xK D cI cS cQ s) (hP : XP D ad n cI cS cQ V H) (hlink : Cond.fieldLink own index "PageVault$Frames" "holders" "[I" ∈ TG) (hdg : decode cc pc = .ok (.getfield index, 3)) (kk : W p l e R s m args below meth c H locs cells slots Q (F0 m (pc + 3) ls (.ref (ad 5) :: rest))) : W p l e R s m args below meth c H locs cells slots Q (F0 m pc ls (.ref (ad (1)) :: rest)) := g_get S hK.1 hP i_F rfl (k := 1) (by decide) rfl (i := 1) (by unfold xN; omega) rfl rfl hlink hdg kk
theorem x_get_spare (S : CallFix p m c cc nL s args TG own) (hK : xK D cI cS cQ s) (hP : XP D ad n cI cS cQ V H) (hlink : Cond.fieldLink own index "PageVault$Frames" "spare" "I" ∈ TG) (hdg : decode cc pc = .ok (.getfield index, 3)) (kk : W p l e R s m args below meth c H locs cells slots Q (F0 m (pc + 3) ls (.int (v_spare V) :: rest))) : W p l e R s m args below meth c H locs cells slots Q (F0 m pc ls (.ref (ad (1)) :: rest)) := g_get S hK.1 hP i_F rfl (k := 2) (by decide) rfl (i := 1) (by unfold xN; omega) rfl rfl hlink hdg kk
theorem x_get_sframes (S : CallFix p m c cc nL s args TG own) (hK : xK D cI cS cQ s) (hP : XP D ad n cI cS cQ V H) {k : Nat} (hk : k < 16) (hlink : Cond.fieldLink own index "PageVault$Space" "frames" "LPageVault$Frames;" ∈ TG) (hdg : decode cc pc = .ok (.getfield index, 3)) (kk : W p l e R s m args below meth c H locs cells slots Q (F0 m (pc + 3) ls (.ref (ad 1) :: rest))) : W p l e R s m args below meth c H locs cells slots Q (F0 m pc ls (.ref (ad (6 + k)) :: rest)) := g_get S hK.1 hP i_S rfl (k := 0) (by decide) rfl (i := 6 + k) (by unfold xN; omega) (xc_sp hk) rfl hlink hdg kk
theorem x_get_root (S : CallFix p m c cc nL s args TG own) (hK : xK D cI cS cQ s) (hP : XP D ad n cI cS cQ V H) {k : Nat} (hk : k < 16) (hlink : Cond.fieldLink own index "PageVault$Space" "root" "I" ∈ TG) (hdg : decode cc pc = .ok (.getfield index, 3)) (kk : W p l e R s m args below meth c H locs cells slots Q (F0 m (pc + 3) ls (.int (v_root V k) :: rest))) : W p l e R s m args below meth c H locs cells slots Q (F0 m pc ls (.ref (ad (6 + k)) :: rest)) := g_get S hK.1 hP i_S rfl (k := 1) (by decide) rfl (i := 6 + k) (by unfold xN; omega) (xc_sp hk) rfl hlink hdg kk
theorem x_get_length (S : CallFix p m c cc nL s args TG own) (hK : xK D cI cS cQ s) (hP : XP D ad n cI cS cQ V H) {k : Nat} (hk : k < 16) (hlink : Cond.fieldLink own index "PageVault$Space" "length" "I" ∈ TG) (hdg : decode cc pc = .ok (.getfield index, 3)) (kk : W p l e R s m args below meth c H locs cells slots Q (F0 m (pc + 3) ls (.int (v_len V k) :: rest))) : W p l e R s m args below meth c H locs cells slots Q (F0 m pc ls (.ref (ad (6 + k)) :: rest)) := g_get S hK.1 hP i_S rfl (k := 2) (by decide) rfl (i := 6 + k) (by unfold xN; omega) (xc_sp hk) rfl hlink hdg kk
theorem x_put_trap (S : CallFix p m c cc nL s args TG own) (hE : xE ad n) (hK : xK D cI cS cQ s) (hP : XP D ad n cI cS cQ V H) (hS : va_S (iA ad (xN n)) H0 H locs) {x : Int32} (hlink : Cond.fieldLink own index "PageVault" "latestTrap" "I" ∈ TG) (hdg : decode cc pc = .ok (.putfield index, 3)) (kk : ∀ (H1 : Heap) (locs1 : List Loc), XP D ad n cI cS cQ (s_trap V x) H1 → va_S (iA ad (xN n)) H0 H1 locs1 → W p l e R s m args below meth c H1 locs1 cells slots Q (F0 m (pc + 3) ls (rest))) : W p l e R s m args below meth c H locs cells slots Q (F0 m pc ls (.int x :: .ref (ad (0)) :: rest)) := g_put (ty := .int) S hE.1 hK.1 hP hS i_V tok_V n_V rfl (k := 3) (by decide) rfl rfl (by decide +kernel) (i := 0) (by unfold xN; omega) rfl (Nat.le_of_ble_eq_true rfl) rfl rfl hlink hdg (fun H1 locs1 h1 h3 => kk H1 locs1 (iw_eq h1 xc_trap) h3)
theorem x_put_spare (S : CallFix p m c cc nL s args TG own) (hE : xE ad n) (hK : xK D cI cS cQ s) (hP : XP D ad n cI cS cQ V H) (hS : va_S (iA ad (xN n)) H0 H locs) {x : Int32} (hlink : Cond.fieldLink own index "PageVault$Frames" "spare" "I" ∈ TG) (hdg : decode cc pc = .ok (.putfield index, 3)) (kk : ∀ (H1 : Heap) (locs1 : List Loc), XP D ad n cI cS cQ (s_spare V x) H1 → va_S (iA ad (xN n)) H0 H1 locs1 → W p l e R s m args below meth c H1 locs1 cells slots Q (F0 m (pc + 3) ls (rest))) : W p l e R s m args below meth c H locs cells slots Q (F0 m pc ls (.int x :: .ref (ad (1)) :: rest)) := g_put (ty := .int) S hE.1 hK.1 hP hS i_F tok_F n_F rfl (k := 2) (by decide) rfl rfl (by decide +kernel) (i := 1) (by unfold xN; omega) rfl (Nat.le_of_ble_eq_true rfl) rfl rfl hlink hdg (fun H1 locs1 h1 h3 => kk H1 locs1 (iw_eq h1 xc_spare) h3)
theorem x_put_root (S : CallFix p m c cc nL s args TG own) (hE : xE ad n) (hK : xK D cI cS cQ s) (hP : XP D ad n cI cS cQ V H) (hS : va_S (iA ad (xN n)) H0 H locs) {k : Nat} (hk : k < 16) {x : Int32} (hlink : Cond.fieldLink own index "PageVault$Space" "root" "I" ∈ TG) (hdg : decode cc pc = .ok (.putfield index, 3)) (kk : ∀ (H1 : Heap) (locs1 : List Loc), XP D ad n cI cS cQ (s_root V k x) H1 → va_S (iA ad (xN n)) H0 H1 locs1 → W p l e R s m args below meth c H1 locs1 cells slots Q (F0 m (pc + 3) ls (rest))) : W p l e R s m args below meth c H locs cells slots Q (F0 m pc ls (.int x :: .ref (ad (6 + k)) :: rest)) := g_put (ty := .int) S hE.1 hK.1 hP hS i_S tok_S n_S rfl (k := 1) (by decide) rfl rfl (by decide +kernel) (i := 6 + k) (by unfold xN; omega) (xc_sp hk) (Nat.le_of_ble_eq_true rfl) rfl rfl hlink hdg (fun H1 locs1 h1 h3 => kk H1 locs1 (iw_eq h1 (xc_root hk)) h3)
theorem x_put_length (S : CallFix p m c cc nL s args TG own) (hE : xE ad n) (hK : xK D cI cS cQ s) (hP : XP D ad n cI cS cQ V H) (hS : va_S (iA ad (xN n)) H0 H locs) {k : Nat} (hk : k < 16) {x : Int32} (hlink : Cond.fieldLink own index "PageVault$Space" "length" "I" ∈ TG) (hdg : decode cc pc = .ok (.putfield index, 3)) (kk : ∀ (H1 : Heap) (locs1 : List Loc), XP D ad n cI cS cQ (s_len V k x) H1 → va_S (iA ad (xN n)) H0 H1 locs1 → W p l e R s m args below meth c H1 locs1 cells slots Q (F0 m (pc + 3) ls (rest))) : W p l e R s m args below meth c H locs cells slots Q (F0 m pc ls (.int x :: .ref (ad (6 + k)) :: rest)) := g_put (ty := .int) S hE.1 hK.1 hP hS i_S tok_S n_S rfl (k := 2) (by decide) rfl rfl (by decide +kernel) (i := 6 + k) (by unfold xN; omega) (xc_sp hk) (Nat.le_of_ble_eq_true rfl) rfl rfl hlink hdg (fun H1 locs1 h1 h3 => kk H1 locs1 (iw_eq h1 (xc_len hk)) h3)
theorem x_ald_spaces (S : CallFix p m c cc nL s args TG own) (hK : xK D cI cS cQ s) (hP : XP D ad n cI cS cQ V H) {x : Int32} (hin : vp_in x 16) (hdg : decode cc pc = .ok (.aaload, 1)) (kk : W p l e R s m args below meth c H locs cells slots Q (F0 m (pc + 1) ls (.ref (ad (6 + x.toNatClampNeg)) :: rest))) : W p l e R s m args below meth c H locs cells slots Q (F0 m pc ls (.int x :: .ref (ad 2) :: rest)) := va_aldq S.1 S.2.1 hK.1 hP 2 1 (f := fun k => some (ad (6 + k))) (C := "PageVault$Space") (by rw [iw_get (by unfold xN; omega)]; rfl) rfl hin hdg kk
theorem x_ald_words (S : CallFix p m c cc nL s args TG own) (hK : xK D cI cS cQ s) (hP : XP D ad n cI cS cQ V H) {x : Int32} (hin : vp_in x n) (hdg : decode cc pc = .ok (.aaload, 1)) (kk : W p l e R s m args below meth c H locs cells slots Q (F0 m (pc + 1) ls (.ref (ad (22 + x.toNatClampNeg)) :: rest))) : W p l e R s m args below meth c H locs cells slots Q (F0 m pc ls (.int x :: .ref (ad 4) :: rest)) := by
  have hlt : x.toNatClampNeg < n := Nat.not_le.mp fun q => hin (Or.inr q)
  have ha : (iw ad (xN n) (xc ad n cI cS cQ V))[4]? = some (ad 4, .inl (cQ, n, .inr (.inr (.inr (.inr (fun f => some (ad (22 + f)))))))) := by rw [iw_get (by unfold xN; omega)]; rfl
  exact W.aald (v := .ref (ad (22 + x.toNatClampNeg))) (ty := .array .int) S.1 S.2.1 (hP 4 _ ha) ((hK.1.2 2 _ rfl).1 n (fun j => va_rf (some (ad (22 + j))))) rfl (fun q => by cases q) (by show ¬ (x < 0 ∨ (arrV _ _ _).slots.size ≤ _); rw [arrV_size]; exact hin) (by show (arrV _ _ _).slots[_]? = _; rw [arrV_read _ _ hlt]; rfl) rfl rfl hdg kk
theorem x_ald_buffer (S : CallFix p m c cc nL s args TG own) (hK : xK D cI cS cQ s) (hP : XP D ad n cI cS cQ V H) {x : Int32} (hin : vp_in x 512) (hdg : decode cc pc = .ok (.iaload, 1)) (kk : W p l e R s m args below meth c H locs cells slots Q (F0 m (pc + 1) ls (.int (v_buf V x.toNatClampNeg) :: rest))) : W p l e R s m args below meth c H locs cells slots Q (F0 m pc ls (.int x :: .ref (ad 3) :: rest)) := g_iald S hK.1 hP (i := 3) (t0 := 0) (by unfold xN; omega) rfl rfl hin hdg kk
theorem x_ald_holders (S : CallFix p m c cc nL s args TG own) (hK : xK D cI cS cQ s) (hP : XP D ad n cI cS cQ V H) {x : Int32} (hin : vp_in x n) (hdg : decode cc pc = .ok (.iaload, 1)) (kk : W p l e R s m args below meth c H locs cells slots Q (F0 m (pc + 1) ls (.int (v_hold V x.toNatClampNeg) :: rest))) : W p l e R s m args below meth c H locs cells slots Q (F0 m pc ls (.int x :: .ref (ad 5) :: rest)) := g_iald S hK.1 hP (i := 5) (t0 := 0) (by unfold xN; omega) rfl rfl hin hdg kk
theorem x_ald_row (S : CallFix p m c cc nL s args TG own) (hK : xK D cI cS cQ s) (hP : XP D ad n cI cS cQ V H) {x : Int32} {f : Nat} (hf : f < n) (hin : vp_in x 1024) (hdg : decode cc pc = .ok (.iaload, 1)) (kk : W p l e R s m args below meth c H locs cells slots Q (F0 m (pc + 1) ls (.int (v_words V f x.toNatClampNeg) :: rest))) : W p l e R s m args below meth c H locs cells slots Q (F0 m pc ls (.int x :: .ref (ad (22 + f)) :: rest)) := g_iald S hK.1 hP (i := 22 + f) (t0 := 0) (by unfold xN; omega) xc_row rfl hin hdg kk
theorem x_ast_buffer (S : CallFix p m c cc nL s args TG own) (hE : xE ad n) (hK : xK D cI cS cQ s) (hP : XP D ad n cI cS cQ V H) (hS : va_S (iA ad (xN n)) H0 H locs) {x v : Int32} (hin : vp_in x 512) (hdg : decode cc pc = .ok (.iastore, 1)) (kk : ∀ (H1 : Heap) (locs1 : List Loc), XP D ad n cI cS cQ (s_buf V x.toNatClampNeg v) H1 → va_S (iA ad (xN n)) H0 H1 locs1 → W p l e R s m args below meth c H1 locs1 cells slots Q (F0 m (pc + 1) ls (rest))) : W p l e R s m args below meth c H locs cells slots Q (F0 m pc ls (.int v :: .int x :: .ref (ad 3) :: rest)) := g_iast S hE.1 hK.1 hP hS (i := 3) (t0 := 0) (by unfold xN; omega) rfl rfl hin hdg (fun H1 locs1 h1 h3 => kk H1 locs1 (iw_eq h1 xc_buf) h3)
theorem x_ast_holders (S : CallFix p m c cc nL s args TG own) (hE : xE ad n) (hK : xK D cI cS cQ s) (hP : XP D ad n cI cS cQ V H) (hS : va_S (iA ad (xN n)) H0 H locs) {x v : Int32} (hin : vp_in x n) (hdg : decode cc pc = .ok (.iastore, 1)) (kk : ∀ (H1 : Heap) (locs1 : List Loc), XP D ad n cI cS cQ (s_hold V x.toNatClampNeg v) H1 → va_S (iA ad (xN n)) H0 H1 locs1 → W p l e R s m args below meth c H1 locs1 cells slots Q (F0 m (pc + 1) ls (rest))) : W p l e R s m args below meth c H locs cells slots Q (F0 m pc ls (.int v :: .int x :: .ref (ad 5) :: rest)) := g_iast S hE.1 hK.1 hP hS (i := 5) (t0 := 0) (by unfold xN; omega) rfl rfl hin hdg (fun H1 locs1 h1 h3 => kk H1 locs1 (iw_eq h1 xc_hold) h3)
theorem x_ast_row (S : CallFix p m c cc nL s args TG own) (hE : xE ad n) (hK : xK D cI cS cQ s) (hP : XP D ad n cI cS cQ V H) (hS : va_S (iA ad (xN n)) H0 H locs) {x v : Int32} {f : Nat} (hf : f < n) (hin : vp_in x 1024) (hdg : decode cc pc = .ok (.iastore, 1)) (kk : ∀ (H1 : Heap) (locs1 : List Loc), XP D ad n cI cS cQ (s_word V f x.toNatClampNeg v) H1 → va_S (iA ad (xN n)) H0 H1 locs1 → W p l e R s m args below meth c H1 locs1 cells slots Q (F0 m (pc + 1) ls (rest))) : W p l e R s m args below meth c H locs cells slots Q (F0 m pc ls (.int v :: .int x :: .ref (ad (22 + f)) :: rest)) := g_iast S hE.1 hK.1 hP hS (i := 22 + f) (t0 := 0) (by unfold xN; omega) xc_row rfl hin hdg (fun H1 locs1 h1 h3 => kk H1 locs1 (iw_eq h1 xc_rows) h3)
theorem x_len_holders (S : CallFix p m c cc nL s args TG own) (hK : xK D cI cS cQ s) (hP : XP D ad n cI cS cQ V H) (hdg : decode cc pc = .ok (.arraylength, 1)) (kk : W p l e R s m args below meth c H locs cells slots Q (F0 m (pc + 1) ls (.int (nI n) :: rest))) : W p l e R s m args below meth c H locs cells slots Q (F0 m pc ls (.ref (ad 5) :: rest)) := g_alen S hK.1 hP (i := 5) (t0 := 0) (by unfold xN; omega) rfl (ty := .int) rfl hdg kk
theorem x_len_words (S : CallFix p m c cc nL s args TG own) (hK : xK D cI cS cQ s) (hP : XP D ad n cI cS cQ V H) (hdg : decode cc pc = .ok (.arraylength, 1)) (kk : W p l e R s m args below meth c H locs cells slots Q (F0 m (pc + 1) ls (.int (nI n) :: rest))) : W p l e R s m args below meth c H locs cells slots Q (F0 m pc ls (.ref (ad 4) :: rest)) := g_alen S hK.1 hP (i := 4) (t0 := 2) (by unfold xN; omega) rfl (ty := .array .int) rfl hdg kk
theorem x_len_row (S : CallFix p m c cc nL s args TG own) (hK : xK D cI cS cQ s) (hP : XP D ad n cI cS cQ V H) {f : Nat} (hf : f < n) (hdg : decode cc pc = .ok (.arraylength, 1)) (kk : W p l e R s m args below meth c H locs cells slots Q (F0 m (pc + 1) ls (.int (nI 1024) :: rest))) : W p l e R s m args below meth c H locs cells slots Q (F0 m pc ls (.ref (ad (22 + f)) :: rest)) := g_alen S hK.1 hP (i := 22 + f) (t0 := 0) (by unfold xN; omega) xc_row (ty := .int) rfl hdg kk
theorem x_recV (hK : xK D cI cS cQ s) (hP : XP D ad n cI cS cQ V H) : ∃ cellB : Cell, H[ad 0]? = some cellB ∧ cellB.vm.isStatics = false ∧ s.vm.findClass "PageVault" = some cellB.cls := g_rec hK.1 hP (i := 0) (ci := 0) (by unfold xN; omega) rfl rfl rfl
theorem x_recF (hK : xK D cI cS cQ s) (hP : XP D ad n cI cS cQ V H) : ∃ cellB : Cell, H[ad 1]? = some cellB ∧ cellB.vm.isStatics = false ∧ s.vm.findClass "PageVault$Frames" = some cellB.cls := g_rec hK.1 hP (i := 1) (ci := 1) (by unfold xN; omega) rfl rfl rfl
theorem x_recS (hK : xK D cI cS cQ s) (hP : XP D ad n cI cS cQ V H) {k : Nat} (hk : k < 16) : ∃ cellB : Cell, H[ad (6 + k)]? = some cellB ∧ cellB.vm.isStatics = false ∧ s.vm.findClass "PageVault$Space" = some cellB.cls := g_rec hK.1 hP (i := 6 + k) (ci := 2) (by unfold xN; omega) (xc_sp hk) rfl rfl
variable {y : MethodName} {bytes : ByteArray} {maxL nA : Nat} {ret : Option FieldType} {rm : Room} {b : Nat} {As : List Value} {r : Int32} {o : Option Nat}
theorem x_callVi (S : CallFix p m c cc nL s args TG own) (hK : xK D cI cS cQ s) (I : CIv own index y bytes maxL ret nA) (hM : XC l D ad n cI cS cQ y bytes maxL ret rm (.ref b :: As) V (some (.int r)) V') (hrec : ∃ cellB : Cell, H[b]? = some cellB ∧ cellB.vm.isStatics = false ∧ s.vm.findClass y.cls = some cellB.cls) (hP : XP D ad n cI cS cQ V H) (hS : va_S (iA ad (xN n)) H0 H locs) (hR : RmOk rm R maxL) (hn : As.length = nA) (hsz : ls.size = nL) (hst : st0 = As.reverse ++ .ref b :: rest) (hW : (rest.map fun v => v.category).sum ≤ 8) (hdg : decode cc pc = .ok (.invokevirtual index, 3)) (kk : ∀ (H1 : Heap) (locs1 : List Loc), XP D ad n cI cS cQ (V') H1 → va_S (iA ad (xN n)) H0 H1 locs1 → W p l e R s m args below meth c H1 locs1 0 0 Q (F0 m (pc + 3) ls (.int r :: rest))) : W p l e R s m args below meth c H locs 0 0 Q (F0 m pc ls (st0)) := g_callV S xKo hK I hM hrec hP hS (fun _ h => h) hR ⟨Nat.zero_le _, Nat.zero_le _⟩ hn hsz hst hW hdg (fun H1 locs1 h1 h2 _ => kk H1 locs1 h1 h2)
theorem x_callVv (S : CallFix p m c cc nL s args TG own) (hK : xK D cI cS cQ s) (I : CIv own index y bytes maxL ret nA) (hM : XC l D ad n cI cS cQ y bytes maxL ret rm (.ref b :: As) V none V') (hrec : ∃ cellB : Cell, H[b]? = some cellB ∧ cellB.vm.isStatics = false ∧ s.vm.findClass y.cls = some cellB.cls) (hP : XP D ad n cI cS cQ V H) (hS : va_S (iA ad (xN n)) H0 H locs) (hR : RmOk rm R maxL) (hn : As.length = nA) (hsz : ls.size = nL) (hst : st0 = As.reverse ++ .ref b :: rest) (hW : (rest.map fun v => v.category).sum ≤ 8) (hdg : decode cc pc = .ok (.invokevirtual index, 3)) (kk : ∀ (H1 : Heap) (locs1 : List Loc), XP D ad n cI cS cQ (V') H1 → va_S (iA ad (xN n)) H0 H1 locs1 → W p l e R s m args below meth c H1 locs1 0 0 Q (F0 m (pc + 3) ls (rest))) : W p l e R s m args below meth c H locs 0 0 Q (F0 m pc ls (st0)) := g_callV S xKo hK I hM hrec hP hS (fun _ h => h) hR ⟨Nat.zero_le _, Nat.zero_le _⟩ hn hsz hst hW hdg (fun H1 locs1 h1 h2 _ => kk H1 locs1 h1 h2)
theorem x_callVq (S : CallFix p m c cc nL s args TG own) (hK : xK D cI cS cQ s) (I : CIv own index y bytes maxL ret nA) (hM : XC l D ad n cI cS cQ y bytes maxL ret rm (.ref b :: As) V (some (xo ad o)) V') (hrec : ∃ cellB : Cell, H[b]? = some cellB ∧ cellB.vm.isStatics = false ∧ s.vm.findClass y.cls = some cellB.cls) (hP : XP D ad n cI cS cQ V H) (hS : va_S (iA ad (xN n)) H0 H locs) (hR : RmOk rm R maxL) (hn : As.length = nA) (hsz : ls.size = nL) (hst : st0 = As.reverse ++ .ref b :: rest) (hW : (rest.map fun v => v.category).sum ≤ 8) (hdg : decode cc pc = .ok (.invokevirtual index, 3)) (kN : o = none → ∀ (H1 : Heap) (locs1 : List Loc), XP D ad n cI cS cQ V' H1 → va_S (iA ad (xN n)) H0 H1 locs1 → W p l e R s m args below meth c H1 locs1 0 0 Q (F0 m (pc + 3) ls (.null :: rest))) (kS : ∀ k, o = some k → ∀ (H1 : Heap) (locs1 : List Loc), XP D ad n cI cS cQ V' H1 → va_S (iA ad (xN n)) H0 H1 locs1 → W p l e R s m args below meth c H1 locs1 0 0 Q (F0 m (pc + 3) ls (.ref (ad (6 + k)) :: rest))) : W p l e R s m args below meth c H locs 0 0 Q (F0 m pc ls (st0)) := g_callV S xKo hK I hM hrec hP hS (fun _ h => h) hR ⟨Nat.zero_le _, Nat.zero_le _⟩ hn hsz hst hW hdg (fun H1 locs1 h1 h2 _ => by
    cases ho : o with
    | none => exact kN ho H1 locs1 h1 h2
    | some k => exact kS k ho H1 locs1 h1 h2)
theorem x_callSi (S : CallFix p m c cc nL s args TG own) (hK : xK D cI cS cQ s) (I : CIs own index y bytes maxL ret nA) (hM : XC l D ad n cI cS cQ y bytes maxL ret rm As V (some (.int r)) V') (hP : XP D ad n cI cS cQ V H) (hS : va_S (iA ad (xN n)) H0 H locs) (hR : RmOk rm R maxL) (hn : As.length = nA) (hsz : ls.size = nL) (hst : st0 = As.reverse ++ rest) (hW : (rest.map fun v => v.category).sum ≤ 8) (hdg : decode cc pc = .ok (.invokestatic index, 3)) (kk : ∀ (H1 : Heap) (locs1 : List Loc), XP D ad n cI cS cQ (V') H1 → va_S (iA ad (xN n)) H0 H1 locs1 → W p l e R s m args below meth c H1 locs1 0 0 Q (F0 m (pc + 3) ls (.int r :: rest))) : W p l e R s m args below meth c H locs 0 0 Q (F0 m pc ls (st0)) := g_callS S xKo hK I hM hP hS (fun _ h => h) hR ⟨Nat.zero_le _, Nat.zero_le _⟩ hn hsz hst hW hdg (fun H1 locs1 h1 h2 _ => kk H1 locs1 h1 h2)
theorem x_callSv (S : CallFix p m c cc nL s args TG own) (hK : xK D cI cS cQ s) (I : CIs own index y bytes maxL ret nA) (hM : XC l D ad n cI cS cQ y bytes maxL ret rm As V none V') (hP : XP D ad n cI cS cQ V H) (hS : va_S (iA ad (xN n)) H0 H locs) (hR : RmOk rm R maxL) (hn : As.length = nA) (hsz : ls.size = nL) (hst : st0 = As.reverse ++ rest) (hW : (rest.map fun v => v.category).sum ≤ 8) (hdg : decode cc pc = .ok (.invokestatic index, 3)) (kk : ∀ (H1 : Heap) (locs1 : List Loc), XP D ad n cI cS cQ (V') H1 → va_S (iA ad (xN n)) H0 H1 locs1 → W p l e R s m args below meth c H1 locs1 0 0 Q (F0 m (pc + 3) ls (rest))) : W p l e R s m args below meth c H locs 0 0 Q (F0 m pc ls (st0)) := g_callS S xKo hK I hM hP hS (fun _ h => h) hR ⟨Nat.zero_le _, Nat.zero_le _⟩ hn hsz hst hW hdg (fun H1 locs1 h1 h2 _ => kk H1 locs1 h1 h2)
theorem x_callSq (S : CallFix p m c cc nL s args TG own) (hK : xK D cI cS cQ s) (I : CIs own index y bytes maxL ret nA) (hM : XC l D ad n cI cS cQ y bytes maxL ret rm As V (some (xo ad o)) V') (hP : XP D ad n cI cS cQ V H) (hS : va_S (iA ad (xN n)) H0 H locs) (hR : RmOk rm R maxL) (hn : As.length = nA) (hsz : ls.size = nL) (hst : st0 = As.reverse ++ rest) (hW : (rest.map fun v => v.category).sum ≤ 8) (hdg : decode cc pc = .ok (.invokestatic index, 3)) (kN : o = none → ∀ (H1 : Heap) (locs1 : List Loc), XP D ad n cI cS cQ V' H1 → va_S (iA ad (xN n)) H0 H1 locs1 → W p l e R s m args below meth c H1 locs1 0 0 Q (F0 m (pc + 3) ls (.null :: rest))) (kS : ∀ k, o = some k → ∀ (H1 : Heap) (locs1 : List Loc), XP D ad n cI cS cQ V' H1 → va_S (iA ad (xN n)) H0 H1 locs1 → W p l e R s m args below meth c H1 locs1 0 0 Q (F0 m (pc + 3) ls (.ref (ad (6 + k)) :: rest))) : W p l e R s m args below meth c H locs 0 0 Q (F0 m pc ls (st0)) := g_callS S xKo hK I hM hP hS (fun _ h => h) hR ⟨Nat.zero_le _, Nat.zero_le _⟩ hn hsz hst hW hdg (fun H1 locs1 h1 h2 _ => by
    cases ho : o with
    | none => exact kN ho H1 locs1 h1 h2
    | some k => exact kS k ho H1 locs1 h1 h2)
theorem x_callNi (S : CallFix p m c cc nL s args TG own) (hK : xK D cI cS cQ s) {host : String} (I : CIn y bytes maxL ret nA) (hL : va_Nw (.methodLinkNest own index y host) s) (hM : XC l D ad n cI cS cQ y bytes maxL ret rm As V (some (.int r)) V') (hP : XP D ad n cI cS cQ V H) (hS : va_S (iA ad (xN n)) H0 H locs) (hR : RmOk rm R maxL) (hn : As.length = nA) (hsz : ls.size = nL) (hst : st0 = As.reverse ++ rest) (hW : (rest.map fun v => v.category).sum ≤ 8) (hdg : decode cc pc = .ok (.invokestatic index, 3)) (kk : ∀ (H1 : Heap) (locs1 : List Loc), XP D ad n cI cS cQ (V') H1 → va_S (iA ad (xN n)) H0 H1 locs1 → W p l e R s m args below meth c H1 locs1 0 0 Q (F0 m (pc + 3) ls (.int r :: rest))) : W p l e R s m args below meth c H locs 0 0 Q (F0 m pc ls (st0)) := g_callN S xKo hK I hL hM hP hS (fun _ h => h) hR ⟨Nat.zero_le _, Nat.zero_le _⟩ hn hsz hst hW hdg (fun H1 locs1 h1 h2 _ => kk H1 locs1 h1 h2)
theorem x_callNv (S : CallFix p m c cc nL s args TG own) (hK : xK D cI cS cQ s) {host : String} (I : CIn y bytes maxL ret nA) (hL : va_Nw (.methodLinkNest own index y host) s) (hM : XC l D ad n cI cS cQ y bytes maxL ret rm As V none V') (hP : XP D ad n cI cS cQ V H) (hS : va_S (iA ad (xN n)) H0 H locs) (hR : RmOk rm R maxL) (hn : As.length = nA) (hsz : ls.size = nL) (hst : st0 = As.reverse ++ rest) (hW : (rest.map fun v => v.category).sum ≤ 8) (hdg : decode cc pc = .ok (.invokestatic index, 3)) (kk : ∀ (H1 : Heap) (locs1 : List Loc), XP D ad n cI cS cQ (V') H1 → va_S (iA ad (xN n)) H0 H1 locs1 → W p l e R s m args below meth c H1 locs1 0 0 Q (F0 m (pc + 3) ls (rest))) : W p l e R s m args below meth c H locs 0 0 Q (F0 m pc ls (st0)) := g_callN S xKo hK I hL hM hP hS (fun _ h => h) hR ⟨Nat.zero_le _, Nat.zero_le _⟩ hn hsz hst hW hdg (fun H1 locs1 h1 h2 _ => kk H1 locs1 h1 h2)
theorem x_callNq (S : CallFix p m c cc nL s args TG own) (hK : xK D cI cS cQ s) {host : String} (I : CIn y bytes maxL ret nA) (hL : va_Nw (.methodLinkNest own index y host) s) (hM : XC l D ad n cI cS cQ y bytes maxL ret rm As V (some (xo ad o)) V') (hP : XP D ad n cI cS cQ V H) (hS : va_S (iA ad (xN n)) H0 H locs) (hR : RmOk rm R maxL) (hn : As.length = nA) (hsz : ls.size = nL) (hst : st0 = As.reverse ++ rest) (hW : (rest.map fun v => v.category).sum ≤ 8) (hdg : decode cc pc = .ok (.invokestatic index, 3)) (kN : o = none → ∀ (H1 : Heap) (locs1 : List Loc), XP D ad n cI cS cQ V' H1 → va_S (iA ad (xN n)) H0 H1 locs1 → W p l e R s m args below meth c H1 locs1 0 0 Q (F0 m (pc + 3) ls (.null :: rest))) (kS : ∀ k, o = some k → ∀ (H1 : Heap) (locs1 : List Loc), XP D ad n cI cS cQ V' H1 → va_S (iA ad (xN n)) H0 H1 locs1 → W p l e R s m args below meth c H1 locs1 0 0 Q (F0 m (pc + 3) ls (.ref (ad (6 + k)) :: rest))) : W p l e R s m args below meth c H locs 0 0 Q (F0 m pc ls (st0)) := g_callN S xKo hK I hL hM hP hS (fun _ h => h) hR ⟨Nat.zero_le _, Nat.zero_le _⟩ hn hsz hst hW hdg (fun H1 locs1 h1 h2 _ => by
    cases ho : o with
    | none => exact kN ho H1 locs1 h1 h2
    | some k => exact kS k ho H1 locs1 h1 h2)
theorem x_iret {v : Int32} (S : CallFix p m c cc nL s args TG own) (hr : meth.sig.returnType = some .int) (hlk : meth.locks = false) (hP : XP D ad n cI cS cQ V H) (hS : va_S (iA ad (xN n)) s.heap H locs) (hdg : decode cc pc = .ok (.ireturn, 1)) : W p l e R s m args below meth c H locs 0 0 (MQ below (gPost D ad (xN n) (some (.int v)) (xc ad n cI cS cQ V)) args s 0 0 (iA ad (xN n))) (F0 m pc ls [.int v]) := g_iret S hr hlk hP hS hdg rfl rfl
theorem x_zret {v : Int32} (S : CallFix p m c cc nL s args TG own) (hr : meth.sig.returnType = some .boolean) (hlk : meth.locks = false) (hn : narrow .boolean (.int v) = .int v) (hP : XP D ad n cI cS cQ V H) (hS : va_S (iA ad (xN n)) s.heap H locs) (hdg : decode cc pc = .ok (.ireturn, 1)) : W p l e R s m args below meth c H locs 0 0 (MQ below (gPost D ad (xN n) (some (.int v)) (xc ad n cI cS cQ V)) args s 0 0 (iA ad (xN n))) (F0 m pc ls [.int v]) := g_zret S hr hlk hn hP hS hdg rfl rfl
theorem x_vret (S : CallFix p m c cc nL s args TG own) (hr : meth.sig.returnType = none) (hlk : meth.locks = false) (hP : XP D ad n cI cS cQ V H) (hS : va_S (iA ad (xN n)) s.heap H locs) (hdg : decode cc pc = .ok (.return_, 1)) : W p l e R s m args below meth c H locs 0 0 (MQ below (gPost D ad (xN n) none (xc ad n cI cS cQ V)) args s 0 0 (iA ad (xN n))) (F0 m pc ls []) := g_vret S hr hlk hP hS hdg rfl rfl
theorem x_aretN {nm : String} (S : CallFix p m c cc nL s args TG own) (hr : meth.sig.returnType = some (.object nm)) (hlk : meth.locks = false) (hP : XP D ad n cI cS cQ V H) (hS : va_S (iA ad (xN n)) s.heap H locs) (hdg : decode cc pc = .ok (.areturn, 1)) : W p l e R s m args below meth c H locs 0 0 (MQ below (gPost D ad (xN n) (some (xo ad none)) (xc ad n cI cS cQ V)) args s 0 0 (iA ad (xN n))) (F0 m pc ls [.null]) := g_aret S hr hlk (Or.inl ⟨_, rfl⟩) (Or.inl rfl) hP hS hdg rfl rfl
theorem x_aretS {nm : String} {k : Nat} (S : CallFix p m c cc nL s args TG own) (hr : meth.sig.returnType = some (.object nm)) (hlk : meth.locks = false) (hP : XP D ad n cI cS cQ V H) (hS : va_S (iA ad (xN n)) s.heap H locs) (hdg : decode cc pc = .ok (.areturn, 1)) : W p l e R s m args below meth c H locs 0 0 (MQ below (gPost D ad (xN n) (some (xo ad (some k))) (xc ad n cI cS cQ V)) args s 0 0 (iA ad (xN n))) (F0 m pc ls [.ref (ad (6 + k))]) := g_aret S hr hlk (Or.inl ⟨_, rfl⟩) (Or.inr ⟨_, rfl⟩) hP hS hdg rfl rfl
end XR
