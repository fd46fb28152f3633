/-! The reference's state. Cells: 0 the object, 1 + a its array a (alive, ends, pageSpace, pageNumber, pageFlags, pageKin, regionSpace, regionNumber, deed, who, where, much, what). -/
abbrev MS : Type := (Nat → Int32) × (Nat → Nat → Int32)
def m_frames (V : MS) : Int32 := V.1 0
def t_frames (V : MS) (x : Int32) : MS := (upd V.1 0 x, V.2)
def m_trap (V : MS) : Int32 := V.1 1
def t_trap (V : MS) (x : Int32) : MS := (upd V.1 1 x, V.2)
def m_pages (V : MS) : Int32 := V.1 2
def t_pages (V : MS) (x : Int32) : MS := (upd V.1 2 x, V.2)
def m_kins (V : MS) : Int32 := V.1 3
def t_kins (V : MS) (x : Int32) : MS := (upd V.1 3 x, V.2)
def m_regions (V : MS) : Int32 := V.1 4
def t_regions (V : MS) (x : Int32) : MS := (upd V.1 4 x, V.2)
def m_deeds (V : MS) : Int32 := V.1 5
def t_deeds (V : MS) (x : Int32) : MS := (upd V.1 5 x, V.2)
def m_alive (V : MS) : Nat → Int32 := V.2 0
def t_alive (V : MS) (k : Nat) (x : Int32) : MS := (V.1, va_up V.2 0 (upd (V.2 0) k x))
def m_ends (V : MS) : Nat → Int32 := V.2 1
def t_ends (V : MS) (k : Nat) (x : Int32) : MS := (V.1, va_up V.2 1 (upd (V.2 1) k x))
def m_ps (V : MS) : Nat → Int32 := V.2 2
def t_ps (V : MS) (k : Nat) (x : Int32) : MS := (V.1, va_up V.2 2 (upd (V.2 2) k x))
def m_pn (V : MS) : Nat → Int32 := V.2 3
def t_pn (V : MS) (k : Nat) (x : Int32) : MS := (V.1, va_up V.2 3 (upd (V.2 3) k x))
def m_pf (V : MS) : Nat → Int32 := V.2 4
def t_pf (V : MS) (k : Nat) (x : Int32) : MS := (V.1, va_up V.2 4 (upd (V.2 4) k x))
def m_pk (V : MS) : Nat → Int32 := V.2 5
def t_pk (V : MS) (k : Nat) (x : Int32) : MS := (V.1, va_up V.2 5 (upd (V.2 5) k x))
def m_rs (V : MS) : Nat → Int32 := V.2 6
def t_rs (V : MS) (k : Nat) (x : Int32) : MS := (V.1, va_up V.2 6 (upd (V.2 6) k x))
def m_rn (V : MS) : Nat → Int32 := V.2 7
def t_rn (V : MS) (k : Nat) (x : Int32) : MS := (V.1, va_up V.2 7 (upd (V.2 7) k x))
def m_deed (V : MS) : Nat → Int32 := V.2 8
def t_deed (V : MS) (k : Nat) (x : Int32) : MS := (V.1, va_up V.2 8 (upd (V.2 8) k x))
def m_who (V : MS) : Nat → Int32 := V.2 9
def t_who (V : MS) (k : Nat) (x : Int32) : MS := (V.1, va_up V.2 9 (upd (V.2 9) k x))
def m_where (V : MS) : Nat → Int32 := V.2 10
def t_where (V : MS) (k : Nat) (x : Int32) : MS := (V.1, va_up V.2 10 (upd (V.2 10) k x))
def m_much (V : MS) : Nat → Int32 := V.2 11
def t_much (V : MS) (k : Nat) (x : Int32) : MS := (V.1, va_up V.2 11 (upd (V.2 11) k x))
def m_what (V : MS) : Nat → Int32 := V.2 12
def t_what (V : MS) (k : Nat) (x : Int32) : MS := (V.1, va_up V.2 12 (upd (V.2 12) k x))
abbrev mN : Nat := 14
def mc (ad : Nat → Nat) (cI cZ : ClassId) (V : MS) (i : Nat) : va_E := match i with
  | 0 => .inr (3, [.int (m_frames V), .int (m_trap V), .ref (ad 1), .ref (ad 2), .ref (ad 3), .ref (ad 4), .ref (ad 5), .ref (ad 6), .int (m_pages V), .int (m_kins V), .ref (ad 7), .ref (ad 8), .int (m_regions V), .ref (ad 9), .ref (ad 10), .ref (ad 11), .ref (ad 12), .ref (ad 13), .int (m_deeds V)])
  | 1 => .inl (cZ, 16, .inl (m_alive V))
  | 2 => .inl (cI, 16, .inl (m_ends V))
  | 3 => .inl (cI, 128, .inl (m_ps V))
  | 4 => .inl (cI, 128, .inl (m_pn V))
  | 5 => .inl (cI, 128, .inl (m_pf V))
  | 6 => .inl (cI, 128, .inl (m_pk V))
  | 7 => .inl (cI, 32, .inl (m_rs V))
  | 8 => .inl (cI, 32, .inl (m_rn V))
  | 9 => .inl (cI, 1536, .inl (m_deed V))
  | 10 => .inl (cI, 1536, .inl (m_who V))
  | 11 => .inl (cI, 1536, .inl (m_where V))
  | 12 => .inl (cI, 1536, .inl (m_much V))
  | _ => .inl (cI, 1536, .inl (m_what V))
theorem mc_frames {ad : Nat → Nat} {cI cZ : ClassId} {V : MS} {x : Int32} : va_up (mc ad cI cZ V) 0 (.inr (3, [.int x, .int (m_trap V), .ref (ad 1), .ref (ad 2), .ref (ad 3), .ref (ad 4), .ref (ad 5), .ref (ad 6), .int (m_pages V), .int (m_kins V), .ref (ad 7), .ref (ad 8), .int (m_regions V), .ref (ad 9), .ref (ad 10), .ref (ad 11), .ref (ad 12), .ref (ad 13), .int (m_deeds V)])) = mc ad cI cZ (t_frames V x) := by
  funext i
  match i with
  | 0 => rfl
  | 1 => rfl
  | 2 => rfl
  | 3 => rfl
  | 4 => rfl
  | 5 => rfl
  | 6 => rfl
  | 7 => rfl
  | 8 => rfl
  | 9 => rfl
  | 10 => rfl
  | 11 => rfl
  | 12 => rfl
  | i + 13 => rfl
theorem mc_trap {ad : Nat → Nat} {cI cZ : ClassId} {V : MS} {x : Int32} : va_up (mc ad cI cZ V) 0 (.inr (3, [.int (m_frames V), .int x, .ref (ad 1), .ref (ad 2), .ref (ad 3), .ref (ad 4), .ref (ad 5), .ref (ad 6), .int (m_pages V), .int (m_kins V), .ref (ad 7), .ref (ad 8), .int (m_regions V), .ref (ad 9), .ref (ad 10), .ref (ad 11), .ref (ad 12), .ref (ad 13), .int (m_deeds V)])) = mc ad cI cZ (t_trap V x) := by
  funext i
  match i with
  | 0 => rfl
  | 1 => rfl
  | 2 => rfl
  | 3 => rfl
  | 4 => rfl
  | 5 => rfl
  | 6 => rfl
  | 7 => rfl
  | 8 => rfl
  | 9 => rfl
  | 10 => rfl
  | 11 => rfl
  | 12 => rfl
  | i + 13 => rfl
theorem mc_pages {ad : Nat → Nat} {cI cZ : ClassId} {V : MS} {x : Int32} : va_up (mc ad cI cZ V) 0 (.inr (3, [.int (m_frames V), .int (m_trap V), .ref (ad 1), .ref (ad 2), .ref (ad 3), .ref (ad 4), .ref (ad 5), .ref (ad 6), .int x, .int (m_kins V), .ref (ad 7), .ref (ad 8), .int (m_regions V), .ref (ad 9), .ref (ad 10), .ref (ad 11), .ref (ad 12), .ref (ad 13), .int (m_deeds V)])) = mc ad cI cZ (t_pages V x) := by
  funext i
  match i with
  | 0 => rfl
  | 1 => rfl
  | 2 => rfl
  | 3 => rfl
  | 4 => rfl
  | 5 => rfl
  | 6 => rfl
  | 7 => rfl
  | 8 => rfl
  | 9 => rfl
  | 10 => rfl
  | 11 => rfl
  | 12 => rfl
  | i + 13 => rfl
theorem mc_kins {ad : Nat → Nat} {cI cZ : ClassId} {V : MS} {x : Int32} : va_up (mc ad cI cZ V) 0 (.inr (3, [.int (m_frames V), .int (m_trap V), .ref (ad 1), .ref (ad 2), .ref (ad 3), .ref (ad 4), .ref (ad 5), .ref (ad 6), .int (m_pages V), .int x, .ref (ad 7), .ref (ad 8), .int (m_regions V), .ref (ad 9), .ref (ad 10), .ref (ad 11), .ref (ad 12), .ref (ad 13), .int (m_deeds V)])) = mc ad cI cZ (t_kins V x) := by
  funext i
  match i with
  | 0 => rfl
  | 1 => rfl
  | 2 => rfl
  | 3 => rfl
  | 4 => rfl
  | 5 => rfl
  | 6 => rfl
  | 7 => rfl
  | 8 => rfl
  | 9 => rfl
  | 10 => rfl
  | 11 => rfl
  | 12 => rfl
  | i + 13 => rfl
theorem mc_regions {ad : Nat → Nat} {cI cZ : ClassId} {V : MS} {x : Int32} : va_up (mc ad cI cZ V) 0 (.inr (3, [.int (m_frames V), .int (m_trap V), .ref (ad 1), .ref (ad 2), .ref (ad 3), .ref (ad 4), .ref (ad 5), .ref (ad 6), .int (m_pages V), .int (m_kins V), .ref (ad 7), .ref (ad 8), .int x, .ref (ad 9), .ref (ad 10), .ref (ad 11), .ref (ad 12), .ref (ad 13), .int (m_deeds V)])) = mc ad cI cZ (t_regions V x) := by
  funext i
  match i with
  | 0 => rfl
  | 1 => rfl
  | 2 => rfl
  | 3 => rfl
  | 4 => rfl
  | 5 => rfl
  | 6 => rfl
  | 7 => rfl
  | 8 => rfl
  | 9 => rfl
  | 10 => rfl
  | 11 => rfl
  | 12 => rfl
  | i + 13 => rfl
theorem mc_deeds {ad : Nat → Nat} {cI cZ : ClassId} {V : MS} {x : Int32} : va_up (mc ad cI cZ V) 0 (.inr (3, [.int (m_frames V), .int (m_trap V), .ref (ad 1), .ref (ad 2), .ref (ad 3), .ref (ad 4), .ref (ad 5), .ref (ad 6), .int (m_pages V), .int (m_kins V), .ref (ad 7), .ref (ad 8), .int (m_regions V), .ref (ad 9), .ref (ad 10), .ref (ad 11), .ref (ad 12), .ref (ad 13), .int x])) = mc ad cI cZ (t_deeds V x) := by
  funext i
  match i with
  | 0 => rfl
  | 1 => rfl
  | 2 => rfl
  | 3 => rfl
  | 4 => rfl
  | 5 => rfl
  | 6 => rfl
  | 7 => rfl
  | 8 => rfl
  | 9 => rfl
  | 10 => rfl
  | 11 => rfl
  | 12 => rfl
  | i + 13 => rfl
theorem mc_alive {ad : Nat → Nat} {cI cZ : ClassId} {V : MS} {k : Nat} {x : Int32} : va_up (mc ad cI cZ V) 1 (.inl (cZ, 16, .inl (upd (m_alive V) k x))) = mc ad cI cZ (t_alive V k x) := by
  funext i
  match i with
  | 0 => rfl
  | 1 => rfl
  | 2 => rfl
  | 3 => rfl
  | 4 => rfl
  | 5 => rfl
  | 6 => rfl
  | 7 => rfl
  | 8 => rfl
  | 9 => rfl
  | 10 => rfl
  | 11 => rfl
  | 12 => rfl
  | i + 13 => rfl
theorem mc_ends {ad : Nat → Nat} {cI cZ : ClassId} {V : MS} {k : Nat} {x : Int32} : va_up (mc ad cI cZ V) 2 (.inl (cI, 16, .inl (upd (m_ends V) k x))) = mc ad cI cZ (t_ends V k x) := by
  funext i
  match i with
  | 0 => rfl
  | 1 => rfl
  | 2 => rfl
  | 3 => rfl
  | 4 => rfl
  | 5 => rfl
  | 6 => rfl
  | 7 => rfl
  | 8 => rfl
  | 9 => rfl
  | 10 => rfl
  | 11 => rfl
  | 12 => rfl
  | i + 13 => rfl
theorem mc_ps {ad : Nat → Nat} {cI cZ : ClassId} {V : MS} {k : Nat} {x : Int32} : va_up (mc ad cI cZ V) 3 (.inl (cI, 128, .inl (upd (m_ps V) k x))) = mc ad cI cZ (t_ps V k x) := by
  funext i
  match i with
  | 0 => rfl
  | 1 => rfl
  | 2 => rfl
  | 3 => rfl
  | 4 => rfl
  | 5 => rfl
  | 6 => rfl
  | 7 => rfl
  | 8 => rfl
  | 9 => rfl
  | 10 => rfl
  | 11 => rfl
  | 12 => rfl
  | i + 13 => rfl
theorem mc_pn {ad : Nat → Nat} {cI cZ : ClassId} {V : MS} {k : Nat} {x : Int32} : va_up (mc ad cI cZ V) 4 (.inl (cI, 128, .inl (upd (m_pn V) k x))) = mc ad cI cZ (t_pn V k x) := by
  funext i
  match i with
  | 0 => rfl
  | 1 => rfl
  | 2 => rfl
  | 3 => rfl
  | 4 => rfl
  | 5 => rfl
  | 6 => rfl
  | 7 => rfl
  | 8 => rfl
  | 9 => rfl
  | 10 => rfl
  | 11 => rfl
  | 12 => rfl
  | i + 13 => rfl
theorem mc_pf {ad : Nat → Nat} {cI cZ : ClassId} {V : MS} {k : Nat} {x : Int32} : va_up (mc ad cI cZ V) 5 (.inl (cI, 128, .inl (upd (m_pf V) k x))) = mc ad cI cZ (t_pf V k x) := by
  funext i
  match i with
  | 0 => rfl
  | 1 => rfl
  | 2 => rfl
  | 3 => rfl
  | 4 => rfl
  | 5 => rfl
  | 6 => rfl
  | 7 => rfl
  | 8 => rfl
  | 9 => rfl
  | 10 => rfl
  | 11 => rfl
  | 12 => rfl
  | i + 13 => rfl
theorem mc_pk {ad : Nat → Nat} {cI cZ : ClassId} {V : MS} {k : Nat} {x : Int32} : va_up (mc ad cI cZ V) 6 (.inl (cI, 128, .inl (upd (m_pk V) k x))) = mc ad cI cZ (t_pk V k x) := by
  funext i
  match i with
  | 0 => rfl
  | 1 => rfl
  | 2 => rfl
  | 3 => rfl
  | 4 => rfl
  | 5 => rfl
  | 6 => rfl
  | 7 => rfl
  | 8 => rfl
  | 9 => rfl
  | 10 => rfl
  | 11 => rfl
  | 12 => rfl
  | i + 13 => rfl
theorem mc_rs {ad : Nat → Nat} {cI cZ : ClassId} {V : MS} {k : Nat} {x : Int32} : va_up (mc ad cI cZ V) 7 (.inl (cI, 32, .inl (upd (m_rs V) k x))) = mc ad cI cZ (t_rs V k x) := by
  funext i
  match i with
  | 0 => rfl
  | 1 => rfl
  | 2 => rfl
  | 3 => rfl
  | 4 => rfl
  | 5 => rfl
  | 6 => rfl
  | 7 => rfl
  | 8 => rfl
  | 9 => rfl
  | 10 => rfl
  | 11 => rfl
  | 12 => rfl
  | i + 13 => rfl
theorem mc_rn {ad : Nat → Nat} {cI cZ : ClassId} {V : MS} {k : Nat} {x : Int32} : va_up (mc ad cI cZ V) 8 (.inl (cI, 32, .inl (upd (m_rn V) k x))) = mc ad cI cZ (t_rn V k x) := by
  funext i
  match i with
  | 0 => rfl
  | 1 => rfl
  | 2 => rfl
  | 3 => rfl
  | 4 => rfl
  | 5 => rfl
  | 6 => rfl
  | 7 => rfl
  | 8 => rfl
  | 9 => rfl
  | 10 => rfl
  | 11 => rfl
  | 12 => rfl
  | i + 13 => rfl
theorem mc_deed {ad : Nat → Nat} {cI cZ : ClassId} {V : MS} {k : Nat} {x : Int32} : va_up (mc ad cI cZ V) 9 (.inl (cI, 1536, .inl (upd (m_deed V) k x))) = mc ad cI cZ (t_deed V k x) := by
  funext i
  match i with
  | 0 => rfl
  | 1 => rfl
  | 2 => rfl
  | 3 => rfl
  | 4 => rfl
  | 5 => rfl
  | 6 => rfl
  | 7 => rfl
  | 8 => rfl
  | 9 => rfl
  | 10 => rfl
  | 11 => rfl
  | 12 => rfl
  | i + 13 => rfl
theorem mc_who {ad : Nat → Nat} {cI cZ : ClassId} {V : MS} {k : Nat} {x : Int32} : va_up (mc ad cI cZ V) 10 (.inl (cI, 1536, .inl (upd (m_who V) k x))) = mc ad cI cZ (t_who V k x) := by
  funext i
  match i with
  | 0 => rfl
  | 1 => rfl
  | 2 => rfl
  | 3 => rfl
  | 4 => rfl
  | 5 => rfl
  | 6 => rfl
  | 7 => rfl
  | 8 => rfl
  | 9 => rfl
  | 10 => rfl
  | 11 => rfl
  | 12 => rfl
  | i + 13 => rfl
theorem mc_where {ad : Nat → Nat} {cI cZ : ClassId} {V : MS} {k : Nat} {x : Int32} : va_up (mc ad cI cZ V) 11 (.inl (cI, 1536, .inl (upd (m_where V) k x))) = mc ad cI cZ (t_where V k x) := by
  funext i
  match i with
  | 0 => rfl
  | 1 => rfl
  | 2 => rfl
  | 3 => rfl
  | 4 => rfl
  | 5 => rfl
  | 6 => rfl
  | 7 => rfl
  | 8 => rfl
  | 9 => rfl
  | 10 => rfl
  | 11 => rfl
  | 12 => rfl
  | i + 13 => rfl
theorem mc_much {ad : Nat → Nat} {cI cZ : ClassId} {V : MS} {k : Nat} {x : Int32} : va_up (mc ad cI cZ V) 12 (.inl (cI, 1536, .inl (upd (m_much V) k x))) = mc ad cI cZ (t_much V k x) := by
  funext i
  match i with
  | 0 => rfl
  | 1 => rfl
  | 2 => rfl
  | 3 => rfl
  | 4 => rfl
  | 5 => rfl
  | 6 => rfl
  | 7 => rfl
  | 8 => rfl
  | 9 => rfl
  | 10 => rfl
  | 11 => rfl
  | 12 => rfl
  | i + 13 => rfl
theorem mc_what {D : va_G} {ad : Nat → Nat} {cI cZ : ClassId} {V : MS} {k : Nat} {x : Int32} {H : Heap} (h : va_P D classes (iw ad mN (va_up (mc ad cI cZ V) 13 (.inl (cI, 1536, .inl (upd (m_what V) k x))))) H) : va_P D classes (iw ad mN (mc ad cI cZ (t_what V k x))) H := by
  refine iw_cong h (fun i hi q => ?_)
  have hi : i < 14 := hi
  match i, hi, q with
  | 0, _, q => exact q
  | 1, _, q => exact q
  | 2, _, q => exact q
  | 3, _, q => exact q
  | 4, _, q => exact q
  | 5, _, q => exact q
  | 6, _, q => exact q
  | 7, _, q => exact q
  | 8, _, q => exact q
  | 9, _, q => exact q
  | 10, _, q => exact q
  | 11, _, q => exact q
  | 12, _, q => exact q
  | 13, _, q => exact q
  | i + 14, hi, _ => exact absurd hi (by omega)
def mT (cI cZ : ClassId) : List (ClassId × FieldType) := [(cI, .int), (cZ, .boolean)]
def mK (D : va_G) (cI cZ : ClassId) (U : State) : Prop := va_K D classes (mT cI cZ) U
theorem mKo {D : va_G} {cI cZ : ClassId} : KnOk (mK D cI cZ) := ⟨fun U g mk a h => va_K.moved (u := U) (U := U.calling g mk a) (Vm.Alike.refl U.vm) h, fun s U hW h => va_K.moved hW.alike h⟩
abbrev MC (l : Launch) (D : va_G) (ad : Nat → Nat) (cI cZ : ClassId) (y : MethodName) (bytes : ByteArray) (maxL : Nat) (ret : Option FieldType) (rm : Room) (av : List Value) (V : MS) (out : Option Value) (V' : MS) : Prop := FC l D ad mN (mK D cI cZ) y bytes maxL ret rm av (mc ad cI cZ V) out (mc ad cI cZ V')
abbrev MP (D : va_G) (ad : Nat → Nat) (cI cZ : ClassId) (V : MS) (H : Heap) : Prop := va_P D classes (iw ad mN (mc ad cI cZ V)) H
abbrev mE (ad : Nat → Nat) : Prop := iJ ad mN
section MR
variable {p : Program} {l : Launch} {e : Env} {R : Room} {s : State} {m : MethodId} {args : Array Value} {below : List Frame} {meth : Method} {c : Code} {H : Heap} {locs : List Loc} {cells slots : Nat} {Q : State → Prop}
variable {cc : ByteArray} {nL pc index : Nat} {ls : Array Slot} {rest st0 : List Value} {own : String} {D : va_G} {ad : Nat → Nat} {cI cZ : ClassId} {V V' : MS} {H0 : Heap}
theorem m_get_frames (S : CallFix p m c cc nL s args TG own) (hK : mK D cI cZ s) (hP : MP D ad cI cZ V H) (hlink : Cond.fieldLink own index "PageVaultModel" "frames" "I" ∈ TG) (hdg : decode cc pc = .ok (.getfield index, 3)) (kk : W p l e R s m args below meth c H locs cells slots Q (F0 m (pc + 3) ls (.int (m_frames V) :: rest))) : W p l e R s m args below meth c H locs cells slots Q (F0 m pc ls (.ref (ad 0) :: rest)) := g_get S hK hP i_M rfl (k := 0) (by decide) rfl (i := 0) (by decide) rfl rfl hlink hdg kk
theorem m_put_frames (S : CallFix p m c cc nL s args TG own) (hE : mE ad) (hK : mK D cI cZ s) (hP : MP D ad cI cZ V H) (hS : va_S (iA ad mN) H0 H locs) {x : Int32} (hlink : Cond.fieldLink own index "PageVaultModel" "frames" "I" ∈ TG) (hdg : decode cc pc = .ok (.putfield index, 3)) (kk : ∀ (H1 : Heap) (locs1 : List Loc), MP D ad cI cZ (t_frames V x) H1 → va_S (iA ad mN) H0 H1 locs1 → W p l e R s m args below meth c H1 locs1 cells slots Q (F0 m (pc + 3) ls (rest))) : W p l e R s m args below meth c H locs cells slots Q (F0 m pc ls (.int x :: .ref (ad 0) :: rest)) := g_put (ty := .int) S hE hK hP hS i_M tok_M n_M rfl (k := 0) (by decide) rfl rfl (by decide +kernel) (i := 0) (by decide) rfl (Nat.le_of_ble_eq_true rfl) rfl rfl hlink hdg (fun H1 locs1 h1 h3 => kk H1 locs1 (iw_eq h1 mc_frames) h3)
theorem m_get_trap (S : CallFix p m c cc nL s args TG own) (hK : mK D cI cZ s) (hP : MP D ad cI cZ V H) (hlink : Cond.fieldLink own index "PageVaultModel" "lastTrap" "I" ∈ TG) (hdg : decode cc pc = .ok (.getfield index, 3)) (kk : W p l e R s m args below meth c H locs cells slots Q (F0 m (pc + 3) ls (.int (m_trap V) :: rest))) : W p l e R s m args below meth c H locs cells slots Q (F0 m pc ls (.ref (ad 0) :: rest)) := g_get S hK hP i_M rfl (k := 1) (by decide) rfl (i := 0) (by decide) rfl rfl hlink hdg kk
theorem m_put_trap (S : CallFix p m c cc nL s args TG own) (hE : mE ad) (hK : mK D cI cZ s) (hP : MP D ad cI cZ V H) (hS : va_S (iA ad mN) H0 H locs) {x : Int32} (hlink : Cond.fieldLink own index "PageVaultModel" "lastTrap" "I" ∈ TG) (hdg : decode cc pc = .ok (.putfield index, 3)) (kk : ∀ (H1 : Heap) (locs1 : List Loc), MP D ad cI cZ (t_trap V x) H1 → va_S (iA ad mN) H0 H1 locs1 → W p l e R s m args below meth c H1 locs1 cells slots Q (F0 m (pc + 3) ls (rest))) : W p l e R s m args below meth c H locs cells slots Q (F0 m pc ls (.int x :: .ref (ad 0) :: rest)) := g_put (ty := .int) S hE hK hP hS i_M tok_M n_M rfl (k := 1) (by decide) rfl rfl (by decide +kernel) (i := 0) (by decide) rfl (Nat.le_of_ble_eq_true rfl) rfl rfl hlink hdg (fun H1 locs1 h1 h3 => kk H1 locs1 (iw_eq h1 mc_trap) h3)
theorem m_get_alive (S : CallFix p m c cc nL s args TG own) (hK : mK D cI cZ s) (hP : MP D ad cI cZ V H) (hlink : Cond.fieldLink own index "PageVaultModel" "alive" "[Z" ∈ TG) (hdg : decode cc pc = .ok (.getfield index, 3)) (kk : W p l e R s m args below meth c H locs cells slots Q (F0 m (pc + 3) ls (.ref (ad 1) :: rest))) : W p l e R s m args below meth c H locs cells slots Q (F0 m pc ls (.ref (ad 0) :: rest)) := g_get S hK hP i_M rfl (k := 2) (by decide) rfl (i := 0) (by decide) rfl rfl hlink hdg kk
theorem m_get_ends (S : CallFix p m c cc nL s args TG own) (hK : mK D cI cZ s) (hP : MP D ad cI cZ V H) (hlink : Cond.fieldLink own index "PageVaultModel" "ends" "[I" ∈ TG) (hdg : decode cc pc = .ok (.getfield index, 3)) (kk : W p l e R s m args below meth c H locs cells slots Q (F0 m (pc + 3) ls (.ref (ad 2) :: rest))) : W p l e R s m args below meth c H locs cells slots Q (F0 m pc ls (.ref (ad 0) :: rest)) := g_get S hK hP i_M rfl (k := 3) (by decide) rfl (i := 0) (by decide) rfl rfl hlink hdg kk
theorem m_get_ps (S : CallFix p m c cc nL s args TG own) (hK : mK D cI cZ s) (hP : MP D ad cI cZ V H) (hlink : Cond.fieldLink own index "PageVaultModel" "pageSpace" "[I" ∈ TG) (hdg : decode cc pc = .ok (.getfield index, 3)) (kk : W p l e R s m args below meth c H locs cells slots Q (F0 m (pc + 3) ls (.ref (ad 3) :: rest))) : W p l e R s m args below meth c H locs cells slots Q (F0 m pc ls (.ref (ad 0) :: rest)) := g_get S hK hP i_M rfl (k := 4) (by decide) rfl (i := 0) (by decide) rfl rfl hlink hdg kk
theorem m_get_pn (S : CallFix p m c cc nL s args TG own) (hK : mK D cI cZ s) (hP : MP D ad cI cZ V H) (hlink : Cond.fieldLink own index "PageVaultModel" "pageNumber" "[I" ∈ TG) (hdg : decode cc pc = .ok (.getfield index, 3)) (kk : W p l e R s m args below meth c H locs cells slots Q (F0 m (pc + 3) ls (.ref (ad 4) :: rest))) : W p l e R s m args below meth c H locs cells slots Q (F0 m pc ls (.ref (ad 0) :: rest)) := g_get S hK hP i_M rfl (k := 5) (by decide) rfl (i := 0) (by decide) rfl rfl hlink hdg kk
theorem m_get_pf (S : CallFix p m c cc nL s args TG own) (hK : mK D cI cZ s) (hP : MP D ad cI cZ V H) (hlink : Cond.fieldLink own index "PageVaultModel" "pageFlags" "[I" ∈ TG) (hdg : decode cc pc = .ok (.getfield index, 3)) (kk : W p l e R s m args below meth c H locs cells slots Q (F0 m (pc + 3) ls (.ref (ad 5) :: rest))) : W p l e R s m args below meth c H locs cells slots Q (F0 m pc ls (.ref (ad 0) :: rest)) := g_get S hK hP i_M rfl (k := 6) (by decide) rfl (i := 0) (by decide) rfl rfl hlink hdg kk
theorem m_get_pk (S : CallFix p m c cc nL s args TG own) (hK : mK D cI cZ s) (hP : MP D ad cI cZ V H) (hlink : Cond.fieldLink own index "PageVaultModel" "pageKin" "[I" ∈ TG) (hdg : decode cc pc = .ok (.getfield index, 3)) (kk : W p l e R s m args below meth c H locs cells slots Q (F0 m (pc + 3) ls (.ref (ad 6) :: rest))) : W p l e R s m args below meth c H locs cells slots Q (F0 m pc ls (.ref (ad 0) :: rest)) := g_get S hK hP i_M rfl (k := 7) (by decide) rfl (i := 0) (by decide) rfl rfl hlink hdg kk
theorem m_get_pages (S : CallFix p m c cc nL s args TG own) (hK : mK D cI cZ s) (hP : MP D ad cI cZ V H) (hlink : Cond.fieldLink own index "PageVaultModel" "pages" "I" ∈ TG) (hdg : decode cc pc = .ok (.getfield index, 3)) (kk : W p l e R s m args below meth c H locs cells slots Q (F0 m (pc + 3) ls (.int (m_pages V) :: rest))) : W p l e R s m args below meth c H locs cells slots Q (F0 m pc ls (.ref (ad 0) :: rest)) := g_get S hK hP i_M rfl (k := 8) (by decide) rfl (i := 0) (by decide) rfl rfl hlink hdg kk
theorem m_put_pages (S : CallFix p m c cc nL s args TG own) (hE : mE ad) (hK : mK D cI cZ s) (hP : MP D ad cI cZ V H) (hS : va_S (iA ad mN) H0 H locs) {x : Int32} (hlink : Cond.fieldLink own index "PageVaultModel" "pages" "I" ∈ TG) (hdg : decode cc pc = .ok (.putfield index, 3)) (kk : ∀ (H1 : Heap) (locs1 : List Loc), MP D ad cI cZ (t_pages V x) H1 → va_S (iA ad mN) H0 H1 locs1 → W p l e R s m args below meth c H1 locs1 cells slots Q (F0 m (pc + 3) ls (rest))) : W p l e R s m args below meth c H locs cells slots Q (F0 m pc ls (.int x :: .ref (ad 0) :: rest)) := g_put (ty := .int) S hE hK hP hS i_M tok_M n_M rfl (k := 8) (by decide) rfl rfl (by decide +kernel) (i := 0) (by decide) rfl (Nat.le_of_ble_eq_true rfl) rfl rfl hlink hdg (fun H1 locs1 h1 h3 => kk H1 locs1 (iw_eq h1 mc_pages) h3)
theorem m_get_kins (S : CallFix p m c cc nL s args TG own) (hK : mK D cI cZ s) (hP : MP D ad cI cZ V H) (hlink : Cond.fieldLink own index "PageVaultModel" "kins" "I" ∈ TG) (hdg : decode cc pc = .ok (.getfield index, 3)) (kk : W p l e R s m args below meth c H locs cells slots Q (F0 m (pc + 3) ls (.int (m_kins V) :: rest))) : W p l e R s m args below meth c H locs cells slots Q (F0 m pc ls (.ref (ad 0) :: rest)) := g_get S hK hP i_M rfl (k := 9) (by decide) rfl (i := 0) (by decide) rfl rfl hlink hdg kk
theorem m_put_kins (S : CallFix p m c cc nL s args TG own) (hE : mE ad) (hK : mK D cI cZ s) (hP : MP D ad cI cZ V H) (hS : va_S (iA ad mN) H0 H locs) {x : Int32} (hlink : Cond.fieldLink own index "PageVaultModel" "kins" "I" ∈ TG) (hdg : decode cc pc = .ok (.putfield index, 3)) (kk : ∀ (H1 : Heap) (locs1 : List Loc), MP D ad cI cZ (t_kins V x) H1 → va_S (iA ad mN) H0 H1 locs1 → W p l e R s m args below meth c H1 locs1 cells slots Q (F0 m (pc + 3) ls (rest))) : W p l e R s m args below meth c H locs cells slots Q (F0 m pc ls (.int x :: .ref (ad 0) :: rest)) := g_put (ty := .int) S hE hK hP hS i_M tok_M n_M rfl (k := 9) (by decide) rfl rfl (by decide +kernel) (i := 0) (by decide) rfl (Nat.le_of_ble_eq_true rfl) rfl rfl hlink hdg (fun H1 locs1 h1 h3 => kk H1 locs1 (iw_eq h1 mc_kins) h3)
theorem m_get_rs (S : CallFix p m c cc nL s args TG own) (hK : mK D cI cZ s) (hP : MP D ad cI cZ V H) (hlink : Cond.fieldLink own index "PageVaultModel" "regionSpace" "[I" ∈ TG) (hdg : decode cc pc = .ok (.getfield index, 3)) (kk : W p l e R s m args below meth c H locs cells slots Q (F0 m (pc + 3) ls (.ref (ad 7) :: rest))) : W p l e R s m args below meth c H locs cells slots Q (F0 m pc ls (.ref (ad 0) :: rest)) := g_get S hK hP i_M rfl (k := 10) (by decide) rfl (i := 0) (by decide) rfl rfl hlink hdg kk
theorem m_get_rn (S : CallFix p m c cc nL s args TG own) (hK : mK D cI cZ s) (hP : MP D ad cI cZ V H) (hlink : Cond.fieldLink own index "PageVaultModel" "regionNumber" "[I" ∈ TG) (hdg : decode cc pc = .ok (.getfield index, 3)) (kk : W p l e R s m args below meth c H locs cells slots Q (F0 m (pc + 3) ls (.ref (ad 8) :: rest))) : W p l e R s m args below meth c H locs cells slots Q (F0 m pc ls (.ref (ad 0) :: rest)) := g_get S hK hP i_M rfl (k := 11) (by decide) rfl (i := 0) (by decide) rfl rfl hlink hdg kk
theorem m_get_regions (S : CallFix p m c cc nL s args TG own) (hK : mK D cI cZ s) (hP : MP D ad cI cZ V H) (hlink : Cond.fieldLink own index "PageVaultModel" "regions" "I" ∈ TG) (hdg : decode cc pc = .ok (.getfield index, 3)) (kk : W p l e R s m args below meth c H locs cells slots Q (F0 m (pc + 3) ls (.int (m_regions V) :: rest))) : W p l e R s m args below meth c H locs cells slots Q (F0 m pc ls (.ref (ad 0) :: rest)) := g_get S hK hP i_M rfl (k := 12) (by decide) rfl (i := 0) (by decide) rfl rfl hlink hdg kk
theorem m_put_regions (S : CallFix p m c cc nL s args TG own) (hE : mE ad) (hK : mK D cI cZ s) (hP : MP D ad cI cZ V H) (hS : va_S (iA ad mN) H0 H locs) {x : Int32} (hlink : Cond.fieldLink own index "PageVaultModel" "regions" "I" ∈ TG) (hdg : decode cc pc = .ok (.putfield index, 3)) (kk : ∀ (H1 : Heap) (locs1 : List Loc), MP D ad cI cZ (t_regions V x) H1 → va_S (iA ad mN) H0 H1 locs1 → W p l e R s m args below meth c H1 locs1 cells slots Q (F0 m (pc + 3) ls (rest))) : W p l e R s m args below meth c H locs cells slots Q (F0 m pc ls (.int x :: .ref (ad 0) :: rest)) := g_put (ty := .int) S hE hK hP hS i_M tok_M n_M rfl (k := 12) (by decide) rfl rfl (by decide +kernel) (i := 0) (by decide) rfl (Nat.le_of_ble_eq_true rfl) rfl rfl hlink hdg (fun H1 locs1 h1 h3 => kk H1 locs1 (iw_eq h1 mc_regions) h3)
theorem m_get_deed (S : CallFix p m c cc nL s args TG own) (hK : mK D cI cZ s) (hP : MP D ad cI cZ V H) (hlink : Cond.fieldLink own index "PageVaultModel" "deed" "[I" ∈ TG) (hdg : decode cc pc = .ok (.getfield index, 3)) (kk : W p l e R s m args below meth c H locs cells slots Q (F0 m (pc + 3) ls (.ref (ad 9) :: rest))) : W p l e R s m args below meth c H locs cells slots Q (F0 m pc ls (.ref (ad 0) :: rest)) := g_get S hK hP i_M rfl (k := 13) (by decide) rfl (i := 0) (by decide) rfl rfl hlink hdg kk
theorem m_get_who (S : CallFix p m c cc nL s args TG own) (hK : mK D cI cZ s) (hP : MP D ad cI cZ V H) (hlink : Cond.fieldLink own index "PageVaultModel" "who" "[I" ∈ TG) (hdg : decode cc pc = .ok (.getfield index, 3)) (kk : W p l e R s m args below meth c H locs cells slots Q (F0 m (pc + 3) ls (.ref (ad 10) :: rest))) : W p l e R s m args below meth c H locs cells slots Q (F0 m pc ls (.ref (ad 0) :: rest)) := g_get S hK hP i_M rfl (k := 14) (by decide) rfl (i := 0) (by decide) rfl rfl hlink hdg kk
theorem m_get_where (S : CallFix p m c cc nL s args TG own) (hK : mK D cI cZ s) (hP : MP D ad cI cZ V H) (hlink : Cond.fieldLink own index "PageVaultModel" "where" "[I" ∈ TG) (hdg : decode cc pc = .ok (.getfield index, 3)) (kk : W p l e R s m args below meth c H locs cells slots Q (F0 m (pc + 3) ls (.ref (ad 11) :: rest))) : W p l e R s m args below meth c H locs cells slots Q (F0 m pc ls (.ref (ad 0) :: rest)) := g_get S hK hP i_M rfl (k := 15) (by decide) rfl (i := 0) (by decide) rfl rfl hlink hdg kk
theorem m_get_much (S : CallFix p m c cc nL s args TG own) (hK : mK D cI cZ s) (hP : MP D ad cI cZ V H) (hlink : Cond.fieldLink own index "PageVaultModel" "much" "[I" ∈ TG) (hdg : decode cc pc = .ok (.getfield index, 3)) (kk : W p l e R s m args below meth c H locs cells slots Q (F0 m (pc + 3) ls (.ref (ad 12) :: rest))) : W p l e R s m args below meth c H locs cells slots Q (F0 m pc ls (.ref (ad 0) :: rest)) := g_get S hK hP i_M rfl (k := 16) (by decide) rfl (i := 0) (by decide) rfl rfl hlink hdg kk
theorem m_get_what (S : CallFix p m c cc nL s args TG own) (hK : mK D cI cZ s) (hP : MP D ad cI cZ V H) (hlink : Cond.fieldLink own index "PageVaultModel" "what" "[I" ∈ TG) (hdg : decode cc pc = .ok (.getfield index, 3)) (kk : W p l e R s m args below meth c H locs cells slots Q (F0 m (pc + 3) ls (.ref (ad 13) :: rest))) : W p l e R s m args below meth c H locs cells slots Q (F0 m pc ls (.ref (ad 0) :: rest)) := g_get S hK hP i_M rfl (k := 17) (by decide) rfl (i := 0) (by decide) rfl rfl hlink hdg kk
theorem m_get_deeds (S : CallFix p m c cc nL s args TG own) (hK : mK D cI cZ s) (hP : MP D ad cI cZ V H) (hlink : Cond.fieldLink own index "PageVaultModel" "deeds" "I" ∈ TG) (hdg : decode cc pc = .ok (.getfield index, 3)) (kk : W p l e R s m args below meth c H locs cells slots Q (F0 m (pc + 3) ls (.int (m_deeds V) :: rest))) : W p l e R s m args below meth c H locs cells slots Q (F0 m pc ls (.ref (ad 0) :: rest)) := g_get S hK hP i_M rfl (k := 18) (by decide) rfl (i := 0) (by decide) rfl rfl hlink hdg kk
theorem m_put_deeds (S : CallFix p m c cc nL s args TG own) (hE : mE ad) (hK : mK D cI cZ s) (hP : MP D ad cI cZ V H) (hS : va_S (iA ad mN) H0 H locs) {x : Int32} (hlink : Cond.fieldLink own index "PageVaultModel" "deeds" "I" ∈ TG) (hdg : decode cc pc = .ok (.putfield index, 3)) (kk : ∀ (H1 : Heap) (locs1 : List Loc), MP D ad cI cZ (t_deeds V x) H1 → va_S (iA ad mN) H0 H1 locs1 → W p l e R s m args below meth c H1 locs1 cells slots Q (F0 m (pc + 3) ls (rest))) : W p l e R s m args below meth c H locs cells slots Q (F0 m pc ls (.int x :: .ref (ad 0) :: rest)) := g_put (ty := .int) S hE hK hP hS i_M tok_M n_M rfl (k := 18) (by decide) rfl rfl (by decide +kernel) (i := 0) (by decide) rfl (Nat.le_of_ble_eq_true rfl) rfl rfl hlink hdg (fun H1 locs1 h1 h3 => kk H1 locs1 (iw_eq h1 mc_deeds) h3)
theorem m_ald_alive (S : CallFix p m c cc nL s args TG own) (hK : mK D cI cZ s) (hP : MP D ad cI cZ V H) {x : Int32} (hin : vp_in x 16) (hdg : decode cc pc = .ok (.baload, 1)) (kk : W p l e R s m args below meth c H locs cells slots Q (F0 m (pc + 1) ls (.int (m_alive V x.toNatClampNeg) :: rest))) : W p l e R s m args below meth c H locs cells slots Q (F0 m pc ls (.int x :: .ref (ad 1) :: rest)) := va_zald S.1 S.2.1 hK hP 1 1 (f := m_alive V) (by rw [iw_get (by decide)]; rfl) rfl hin hdg kk
theorem m_ast_alive (S : CallFix p m c cc nL s args TG own) (hE : mE ad) (hK : mK D cI cZ s) (hP : MP D ad cI cZ V H) (hS : va_S (iA ad mN) H0 H locs) {x v : Int32} (hv : vp_nar .boolean v = v) (hin : vp_in x 16) (hdg : decode cc pc = .ok (.bastore, 1)) (kk : ∀ (H1 : Heap) (locs1 : List Loc), MP D ad cI cZ (t_alive V x.toNatClampNeg v) H1 → va_S (iA ad mN) H0 H1 locs1 → W p l e R s m args below meth c H1 locs1 cells slots Q (F0 m (pc + 1) ls (rest))) : W p l e R s m args below meth c H locs cells slots Q (F0 m pc ls (.int v :: .int x :: .ref (ad 1) :: rest)) := va_zast S.1 S.2.1 hK hP (iw_D hE) hS 1 1 (f := m_alive V) (by rw [iw_get (by decide)]; rfl) rfl hin hdg (fun H1 locs1 h1 _ h3 => kk H1 locs1 (iw_eq (cel := va_up (mc ad cI cZ V) 1 (.inl (cZ, 16, .inl (upd (m_alive V) x.toNatClampNeg v)))) (by rw [← iw_set (by decide), ← hv]; exact h1) mc_alive) h3)
theorem m_ald_ends (S : CallFix p m c cc nL s args TG own) (hK : mK D cI cZ s) (hP : MP D ad cI cZ V H) {x : Int32} (hin : vp_in x 16) (hdg : decode cc pc = .ok (.iaload, 1)) (kk : W p l e R s m args below meth c H locs cells slots Q (F0 m (pc + 1) ls (.int (m_ends V x.toNatClampNeg) :: rest))) : W p l e R s m args below meth c H locs cells slots Q (F0 m pc ls (.int x :: .ref (ad 2) :: rest)) := g_iald S hK hP (i := 2) (t0 := 0) (by decide) rfl rfl hin hdg kk
theorem m_ast_ends (S : CallFix p m c cc nL s args TG own) (hE : mE ad) (hK : mK D cI cZ s) (hP : MP D ad cI cZ V H) (hS : va_S (iA ad mN) H0 H locs) {x v : Int32} (hin : vp_in x 16) (hdg : decode cc pc = .ok (.iastore, 1)) (kk : ∀ (H1 : Heap) (locs1 : List Loc), MP D ad cI cZ (t_ends V x.toNatClampNeg v) H1 → va_S (iA ad mN) H0 H1 locs1 → W p l e R s m args below meth c H1 locs1 cells slots Q (F0 m (pc + 1) ls (rest))) : W p l e R s m args below meth c H locs cells slots Q (F0 m pc ls (.int v :: .int x :: .ref (ad 2) :: rest)) := g_iast S hE hK hP hS (i := 2) (t0 := 0) (by decide) rfl rfl hin hdg (fun H1 locs1 h1 h3 => kk H1 locs1 (iw_eq h1 mc_ends) h3)
theorem m_ald_ps (S : CallFix p m c cc nL s args TG own) (hK : mK D cI cZ s) (hP : MP D ad cI cZ V H) {x : Int32} (hin : vp_in x 128) (hdg : decode cc pc = .ok (.iaload, 1)) (kk : W p l e R s m args below meth c H locs cells slots Q (F0 m (pc + 1) ls (.int (m_ps V x.toNatClampNeg) :: rest))) : W p l e R s m args below meth c H locs cells slots Q (F0 m pc ls (.int x :: .ref (ad 3) :: rest)) := g_iald S hK hP (i := 3) (t0 := 0) (by decide) rfl rfl hin hdg kk
theorem m_ast_ps (S : CallFix p m c cc nL s args TG own) (hE : mE ad) (hK : mK D cI cZ s) (hP : MP D ad cI cZ V H) (hS : va_S (iA ad mN) H0 H locs) {x v : Int32} (hin : vp_in x 128) (hdg : decode cc pc = .ok (.iastore, 1)) (kk : ∀ (H1 : Heap) (locs1 : List Loc), MP D ad cI cZ (t_ps V x.toNatClampNeg v) H1 → va_S (iA ad mN) H0 H1 locs1 → W p l e R s m args below meth c H1 locs1 cells slots Q (F0 m (pc + 1) ls (rest))) : W p l e R s m args below meth c H locs cells slots Q (F0 m pc ls (.int v :: .int x :: .ref (ad 3) :: rest)) := g_iast S hE hK hP hS (i := 3) (t0 := 0) (by decide) rfl rfl hin hdg (fun H1 locs1 h1 h3 => kk H1 locs1 (iw_eq h1 mc_ps) h3)
theorem m_ald_pn (S : CallFix p m c cc nL s args TG own) (hK : mK D cI cZ s) (hP : MP D ad cI cZ V H) {x : Int32} (hin : vp_in x 128) (hdg : decode cc pc = .ok (.iaload, 1)) (kk : W p l e R s m args below meth c H locs cells slots Q (F0 m (pc + 1) ls (.int (m_pn V x.toNatClampNeg) :: rest))) : W p l e R s m args below meth c H locs cells slots Q (F0 m pc ls (.int x :: .ref (ad 4) :: rest)) := g_iald S hK hP (i := 4) (t0 := 0) (by decide) rfl rfl hin hdg kk
theorem m_ast_pn (S : CallFix p m c cc nL s args TG own) (hE : mE ad) (hK : mK D cI cZ s) (hP : MP D ad cI cZ V H) (hS : va_S (iA ad mN) H0 H locs) {x v : Int32} (hin : vp_in x 128) (hdg : decode cc pc = .ok (.iastore, 1)) (kk : ∀ (H1 : Heap) (locs1 : List Loc), MP D ad cI cZ (t_pn V x.toNatClampNeg v) H1 → va_S (iA ad mN) H0 H1 locs1 → W p l e R s m args below meth c H1 locs1 cells slots Q (F0 m (pc + 1) ls (rest))) : W p l e R s m args below meth c H locs cells slots Q (F0 m pc ls (.int v :: .int x :: .ref (ad 4) :: rest)) := g_iast S hE hK hP hS (i := 4) (t0 := 0) (by decide) rfl rfl hin hdg (fun H1 locs1 h1 h3 => kk H1 locs1 (iw_eq h1 mc_pn) h3)
theorem m_ald_pf (S : CallFix p m c cc nL s args TG own) (hK : mK D cI cZ s) (hP : MP D ad cI cZ V H) {x : Int32} (hin : vp_in x 128) (hdg : decode cc pc = .ok (.iaload, 1)) (kk : W p l e R s m args below meth c H locs cells slots Q (F0 m (pc + 1) ls (.int (m_pf V x.toNatClampNeg) :: rest))) : W p l e R s m args below meth c H locs cells slots Q (F0 m pc ls (.int x :: .ref (ad 5) :: rest)) := g_iald S hK hP (i := 5) (t0 := 0) (by decide) rfl rfl hin hdg kk
theorem m_ast_pf (S : CallFix p m c cc nL s args TG own) (hE : mE ad) (hK : mK D cI cZ s) (hP : MP D ad cI cZ V H) (hS : va_S (iA ad mN) H0 H locs) {x v : Int32} (hin : vp_in x 128) (hdg : decode cc pc = .ok (.iastore, 1)) (kk : ∀ (H1 : Heap) (locs1 : List Loc), MP D ad cI cZ (t_pf V x.toNatClampNeg v) H1 → va_S (iA ad mN) H0 H1 locs1 → W p l e R s m args below meth c H1 locs1 cells slots Q (F0 m (pc + 1) ls (rest))) : W p l e R s m args below meth c H locs cells slots Q (F0 m pc ls (.int v :: .int x :: .ref (ad 5) :: rest)) := g_iast S hE hK hP hS (i := 5) (t0 := 0) (by decide) rfl rfl hin hdg (fun H1 locs1 h1 h3 => kk H1 locs1 (iw_eq h1 mc_pf) h3)
theorem m_ald_pk (S : CallFix p m c cc nL s args TG own) (hK : mK D cI cZ s) (hP : MP D ad cI cZ V H) {x : Int32} (hin : vp_in x 128) (hdg : decode cc pc = .ok (.iaload, 1)) (kk : W p l e R s m args below meth c H locs cells slots Q (F0 m (pc + 1) ls (.int (m_pk V x.toNatClampNeg) :: rest))) : W p l e R s m args below meth c H locs cells slots Q (F0 m pc ls (.int x :: .ref (ad 6) :: rest)) := g_iald S hK hP (i := 6) (t0 := 0) (by decide) rfl rfl hin hdg kk
theorem m_ast_pk (S : CallFix p m c cc nL s args TG own) (hE : mE ad) (hK : mK D cI cZ s) (hP : MP D ad cI cZ V H) (hS : va_S (iA ad mN) H0 H locs) {x v : Int32} (hin : vp_in x 128) (hdg : decode cc pc = .ok (.iastore, 1)) (kk : ∀ (H1 : Heap) (locs1 : List Loc), MP D ad cI cZ (t_pk V x.toNatClampNeg v) H1 → va_S (iA ad mN) H0 H1 locs1 → W p l e R s m args below meth c H1 locs1 cells slots Q (F0 m (pc + 1) ls (rest))) : W p l e R s m args below meth c H locs cells slots Q (F0 m pc ls (.int v :: .int x :: .ref (ad 6) :: rest)) := g_iast S hE hK hP hS (i := 6) (t0 := 0) (by decide) rfl rfl hin hdg (fun H1 locs1 h1 h3 => kk H1 locs1 (iw_eq h1 mc_pk) h3)
theorem m_ald_rs (S : CallFix p m c cc nL s args TG own) (hK : mK D cI cZ s) (hP : MP D ad cI cZ V H) {x : Int32} (hin : vp_in x 32) (hdg : decode cc pc = .ok (.iaload, 1)) (kk : W p l e R s m args below meth c H locs cells slots Q (F0 m (pc + 1) ls (.int (m_rs V x.toNatClampNeg) :: rest))) : W p l e R s m args below meth c H locs cells slots Q (F0 m pc ls (.int x :: .ref (ad 7) :: rest)) := g_iald S hK hP (i := 7) (t0 := 0) (by decide) rfl rfl hin hdg kk
theorem m_ast_rs (S : CallFix p m c cc nL s args TG own) (hE : mE ad) (hK : mK D cI cZ s) (hP : MP D ad cI cZ V H) (hS : va_S (iA ad mN) H0 H locs) {x v : Int32} (hin : vp_in x 32) (hdg : decode cc pc = .ok (.iastore, 1)) (kk : ∀ (H1 : Heap) (locs1 : List Loc), MP D ad cI cZ (t_rs V x.toNatClampNeg v) H1 → va_S (iA ad mN) H0 H1 locs1 → W p l e R s m args below meth c H1 locs1 cells slots Q (F0 m (pc + 1) ls (rest))) : W p l e R s m args below meth c H locs cells slots Q (F0 m pc ls (.int v :: .int x :: .ref (ad 7) :: rest)) := g_iast S hE hK hP hS (i := 7) (t0 := 0) (by decide) rfl rfl hin hdg (fun H1 locs1 h1 h3 => kk H1 locs1 (iw_eq h1 mc_rs) h3)
theorem m_ald_rn (S : CallFix p m c cc nL s args TG own) (hK : mK D cI cZ s) (hP : MP D ad cI cZ V H) {x : Int32} (hin : vp_in x 32) (hdg : decode cc pc = .ok (.iaload, 1)) (kk : W p l e R s m args below meth c H locs cells slots Q (F0 m (pc + 1) ls (.int (m_rn V x.toNatClampNeg) :: rest))) : W p l e R s m args below meth c H locs cells slots Q (F0 m pc ls (.int x :: .ref (ad 8) :: rest)) := g_iald S hK hP (i := 8) (t0 := 0) (by decide) rfl rfl hin hdg kk
theorem m_ast_rn (S : CallFix p m c cc nL s args TG own) (hE : mE ad) (hK : mK D cI cZ s) (hP : MP D ad cI cZ V H) (hS : va_S (iA ad mN) H0 H locs) {x v : Int32} (hin : vp_in x 32) (hdg : decode cc pc = .ok (.iastore, 1)) (kk : ∀ (H1 : Heap) (locs1 : List Loc), MP D ad cI cZ (t_rn V x.toNatClampNeg v) H1 → va_S (iA ad mN) H0 H1 locs1 → W p l e R s m args below meth c H1 locs1 cells slots Q (F0 m (pc + 1) ls (rest))) : W p l e R s m args below meth c H locs cells slots Q (F0 m pc ls (.int v :: .int x :: .ref (ad 8) :: rest)) := g_iast S hE hK hP hS (i := 8) (t0 := 0) (by decide) rfl rfl hin hdg (fun H1 locs1 h1 h3 => kk H1 locs1 (iw_eq h1 mc_rn) h3)
theorem m_ald_deed (S : CallFix p m c cc nL s args TG own) (hK : mK D cI cZ s) (hP : MP D ad cI cZ V H) {x : Int32} (hin : vp_in x 1536) (hdg : decode cc pc = .ok (.iaload, 1)) (kk : W p l e R s m args below meth c H locs cells slots Q (F0 m (pc + 1) ls (.int (m_deed V x.toNatClampNeg) :: rest))) : W p l e R s m args below meth c H locs cells slots Q (F0 m pc ls (.int x :: .ref (ad 9) :: rest)) := g_iald S hK hP (i := 9) (t0 := 0) (by decide) rfl rfl hin hdg kk
theorem m_ast_deed (S : CallFix p m c cc nL s args TG own) (hE : mE ad) (hK : mK D cI cZ s) (hP : MP D ad cI cZ V H) (hS : va_S (iA ad mN) H0 H locs) {x v : Int32} (hin : vp_in x 1536) (hdg : decode cc pc = .ok (.iastore, 1)) (kk : ∀ (H1 : Heap) (locs1 : List Loc), MP D ad cI cZ (t_deed V x.toNatClampNeg v) H1 → va_S (iA ad mN) H0 H1 locs1 → W p l e R s m args below meth c H1 locs1 cells slots Q (F0 m (pc + 1) ls (rest))) : W p l e R s m args below meth c H locs cells slots Q (F0 m pc ls (.int v :: .int x :: .ref (ad 9) :: rest)) := g_iast S hE hK hP hS (i := 9) (t0 := 0) (by decide) rfl rfl hin hdg (fun H1 locs1 h1 h3 => kk H1 locs1 (iw_eq h1 mc_deed) h3)
theorem m_ald_who (S : CallFix p m c cc nL s args TG own) (hK : mK D cI cZ s) (hP : MP D ad cI cZ V H) {x : Int32} (hin : vp_in x 1536) (hdg : decode cc pc = .ok (.iaload, 1)) (kk : W p l e R s m args below meth c H locs cells slots Q (F0 m (pc + 1) ls (.int (m_who V x.toNatClampNeg) :: rest))) : W p l e R s m args below meth c H locs cells slots Q (F0 m pc ls (.int x :: .ref (ad 10) :: rest)) := g_iald S hK hP (i := 10) (t0 := 0) (by decide) rfl rfl hin hdg kk
theorem m_ast_who (S : CallFix p m c cc nL s args TG own) (hE : mE ad) (hK : mK D cI cZ s) (hP : MP D ad cI cZ V H) (hS : va_S (iA ad mN) H0 H locs) {x v : Int32} (hin : vp_in x 1536) (hdg : decode cc pc = .ok (.iastore, 1)) (kk : ∀ (H1 : Heap) (locs1 : List Loc), MP D ad cI cZ (t_who V x.toNatClampNeg v) H1 → va_S (iA ad mN) H0 H1 locs1 → W p l e R s m args below meth c H1 locs1 cells slots Q (F0 m (pc + 1) ls (rest))) : W p l e R s m args below meth c H locs cells slots Q (F0 m pc ls (.int v :: .int x :: .ref (ad 10) :: rest)) := g_iast S hE hK hP hS (i := 10) (t0 := 0) (by decide) rfl rfl hin hdg (fun H1 locs1 h1 h3 => kk H1 locs1 (iw_eq h1 mc_who) h3)
theorem m_ald_where (S : CallFix p m c cc nL s args TG own) (hK : mK D cI cZ s) (hP : MP D ad cI cZ V H) {x : Int32} (hin : vp_in x 1536) (hdg : decode cc pc = .ok (.iaload, 1)) (kk : W p l e R s m args below meth c H locs cells slots Q (F0 m (pc + 1) ls (.int (m_where V x.toNatClampNeg) :: rest))) : W p l e R s m args below meth c H locs cells slots Q (F0 m pc ls (.int x :: .ref (ad 11) :: rest)) := g_iald S hK hP (i := 11) (t0 := 0) (by decide) rfl rfl hin hdg kk
theorem m_ast_where (S : CallFix p m c cc nL s args TG own) (hE : mE ad) (hK : mK D cI cZ s) (hP : MP D ad cI cZ V H) (hS : va_S (iA ad mN) H0 H locs) {x v : Int32} (hin : vp_in x 1536) (hdg : decode cc pc = .ok (.iastore, 1)) (kk : ∀ (H1 : Heap) (locs1 : List Loc), MP D ad cI cZ (t_where V x.toNatClampNeg v) H1 → va_S (iA ad mN) H0 H1 locs1 → W p l e R s m args below meth c H1 locs1 cells slots Q (F0 m (pc + 1) ls (rest))) : W p l e R s m args below meth c H locs cells slots Q (F0 m pc ls (.int v :: .int x :: .ref (ad 11) :: rest)) := g_iast S hE hK hP hS (i := 11) (t0 := 0) (by decide) rfl rfl hin hdg (fun H1 locs1 h1 h3 => kk H1 locs1 (iw_eq h1 mc_where) h3)
theorem m_ald_much (S : CallFix p m c cc nL s args TG own) (hK : mK D cI cZ s) (hP : MP D ad cI cZ V H) {x : Int32} (hin : vp_in x 1536) (hdg : decode cc pc = .ok (.iaload, 1)) (kk : W p l e R s m args below meth c H locs cells slots Q (F0 m (pc + 1) ls (.int (m_much V x.toNatClampNeg) :: rest))) : W p l e R s m args below meth c H locs cells slots Q (F0 m pc ls (.int x :: .ref (ad 12) :: rest)) := g_iald S hK hP (i := 12) (t0 := 0) (by decide) rfl rfl hin hdg kk
theorem m_ast_much (S : CallFix p m c cc nL s args TG own) (hE : mE ad) (hK : mK D cI cZ s) (hP : MP D ad cI cZ V H) (hS : va_S (iA ad mN) H0 H locs) {x v : Int32} (hin : vp_in x 1536) (hdg : decode cc pc = .ok (.iastore, 1)) (kk : ∀ (H1 : Heap) (locs1 : List Loc), MP D ad cI cZ (t_much V x.toNatClampNeg v) H1 → va_S (iA ad mN) H0 H1 locs1 → W p l e R s m args below meth c H1 locs1 cells slots Q (F0 m (pc + 1) ls (rest))) : W p l e R s m args below meth c H locs cells slots Q (F0 m pc ls (.int v :: .int x :: .ref (ad 12) :: rest)) := g_iast S hE hK hP hS (i := 12) (t0 := 0) (by decide) rfl rfl hin hdg (fun H1 locs1 h1 h3 => kk H1 locs1 (iw_eq h1 mc_much) h3)
theorem m_ald_what (S : CallFix p m c cc nL s args TG own) (hK : mK D cI cZ s) (hP : MP D ad cI cZ V H) {x : Int32} (hin : vp_in x 1536) (hdg : decode cc pc = .ok (.iaload, 1)) (kk : W p l e R s m args below meth c H locs cells slots Q (F0 m (pc + 1) ls (.int (m_what V x.toNatClampNeg) :: rest))) : W p l e R s m args below meth c H locs cells slots Q (F0 m pc ls (.int x :: .ref (ad 13) :: rest)) := g_iald S hK hP (i := 13) (t0 := 0) (by decide) rfl rfl hin hdg kk
theorem m_ast_what (S : CallFix p m c cc nL s args TG own) (hE : mE ad) (hK : mK D cI cZ s) (hP : MP D ad cI cZ V H) (hS : va_S (iA ad mN) H0 H locs) {x v : Int32} (hin : vp_in x 1536) (hdg : decode cc pc = .ok (.iastore, 1)) (kk : ∀ (H1 : Heap) (locs1 : List Loc), MP D ad cI cZ (t_what V x.toNatClampNeg v) H1 → va_S (iA ad mN) H0 H1 locs1 → W p l e R s m args below meth c H1 locs1 cells slots Q (F0 m (pc + 1) ls (rest))) : W p l e R s m args below meth c H locs cells slots Q (F0 m pc ls (.int v :: .int x :: .ref (ad 13) :: rest)) := g_iast S hE hK hP hS (i := 13) (t0 := 0) (by decide) rfl rfl hin hdg (fun H1 locs1 h1 h3 => kk H1 locs1 (mc_what h1) h3)
theorem m_recM (hK : mK D cI cZ s) (hP : MP D ad cI cZ V H) : ∃ cellB : Cell, H[ad 0]? = some cellB ∧ cellB.vm.isStatics = false ∧ s.vm.findClass "PageVaultModel" = some cellB.cls := g_rec hK hP (i := 0) (ci := 3) (by decide) rfl rfl rfl
variable {y : MethodName} {bytes : ByteArray} {maxL nA : Nat} {ret : Option FieldType} {rm : Room} {b : Nat} {As : List Value} {r : Int32}
theorem m_callVi (S : CallFix p m c cc nL s args TG own) (hK : mK D cI cZ s) (I : CIv own index y bytes maxL ret nA) (hM : MC l D ad cI cZ y bytes maxL ret rm (.ref b :: As) V (some (.int r)) V') (hrec : ∃ cellB : Cell, H[b]? = some cellB ∧ cellB.vm.isStatics = false ∧ s.vm.findClass y.cls = some cellB.cls) (hP : MP D ad cI cZ V H) (hS : va_S (iA ad mN) H0 H locs) (hR : RmOk rm R maxL) (hn : As.length = nA) (hsz : ls.size = nL) (hst : st0 = As.reverse ++ .ref b :: rest) (hW : (rest.map fun v => v.category).sum ≤ 8) (hdg : decode cc pc = .ok (.invokevirtual index, 3)) (kk : ∀ (H1 : Heap) (locs1 : List Loc), MP D ad cI cZ (V') H1 → va_S (iA ad mN) H0 H1 locs1 → W p l e R s m args below meth c H1 locs1 0 0 Q (F0 m (pc + 3) ls (.int r :: rest))) : W p l e R s m args below meth c H locs 0 0 Q (F0 m pc ls (st0)) := g_callV S mKo hK I hM hrec hP hS (fun _ h => h) hR ⟨Nat.zero_le _, Nat.zero_le _⟩ hn hsz hst hW hdg (fun H1 locs1 h1 h2 _ => kk H1 locs1 h1 h2)
theorem m_callVv (S : CallFix p m c cc nL s args TG own) (hK : mK D cI cZ s) (I : CIv own index y bytes maxL ret nA) (hM : MC l D ad cI cZ y bytes maxL ret rm (.ref b :: As) V none V') (hrec : ∃ cellB : Cell, H[b]? = some cellB ∧ cellB.vm.isStatics = false ∧ s.vm.findClass y.cls = some cellB.cls) (hP : MP D ad cI cZ V H) (hS : va_S (iA ad mN) H0 H locs) (hR : RmOk rm R maxL) (hn : As.length = nA) (hsz : ls.size = nL) (hst : st0 = As.reverse ++ .ref b :: rest) (hW : (rest.map fun v => v.category).sum ≤ 8) (hdg : decode cc pc = .ok (.invokevirtual index, 3)) (kk : ∀ (H1 : Heap) (locs1 : List Loc), MP D ad cI cZ (V') H1 → va_S (iA ad mN) H0 H1 locs1 → W p l e R s m args below meth c H1 locs1 0 0 Q (F0 m (pc + 3) ls (rest))) : W p l e R s m args below meth c H locs 0 0 Q (F0 m pc ls (st0)) := g_callV S mKo hK I hM hrec hP hS (fun _ h => h) hR ⟨Nat.zero_le _, Nat.zero_le _⟩ hn hsz hst hW hdg (fun H1 locs1 h1 h2 _ => kk H1 locs1 h1 h2)
theorem m_iret {v : Int32} (S : CallFix p m c cc nL s args TG own) (hr : meth.sig.returnType = some .int) (hlk : meth.locks = false) (hP : MP D ad cI cZ V H) (hS : va_S (iA ad mN) s.heap H locs) (hdg : decode cc pc = .ok (.ireturn, 1)) : W p l e R s m args below meth c H locs 0 0 (MQ below (gPost D ad mN (some (.int v)) (mc ad cI cZ V)) args s 0 0 (iA ad mN)) (F0 m pc ls [.int v]) := g_iret S hr hlk hP hS hdg rfl rfl
theorem m_zret {v : Int32} (S : CallFix p m c cc nL s args TG own) (hr : meth.sig.returnType = some .boolean) (hlk : meth.locks = false) (hn : narrow .boolean (.int v) = .int v) (hP : MP D ad cI cZ V H) (hS : va_S (iA ad mN) s.heap H locs) (hdg : decode cc pc = .ok (.ireturn, 1)) : W p l e R s m args below meth c H locs 0 0 (MQ below (gPost D ad mN (some (.int v)) (mc ad cI cZ V)) args s 0 0 (iA ad mN)) (F0 m pc ls [.int v]) := g_zret S hr hlk hn hP hS hdg rfl rfl
theorem m_vret (S : CallFix p m c cc nL s args TG own) (hr : meth.sig.returnType = none) (hlk : meth.locks = false) (hP : MP D ad cI cZ V H) (hS : va_S (iA ad mN) s.heap H locs) (hdg : decode cc pc = .ok (.return_, 1)) : W p l e R s m args below meth c H locs 0 0 (MQ below (gPost D ad mN none (mc ad cI cZ V)) args s 0 0 (iA ad mN)) (F0 m pc ls []) := g_vret S hr hlk hP hS hdg rfl rfl
end MR
theorem lp_lc {x b : Int32} {i : Nat} (ek : x = nI i) (hi : i < 2 ^ 31) (c : ¬ b ≤ x) : i < b.toNatClampNeg := by
  subst ek
  have hb : ¬ b < 0 := fun q => c (Int32.le_of_lt (Int32.lt_of_lt_of_le q (nI_pos' hi)))
  obtain ⟨j, hj, rfl⟩ := nI_of hb
  rw [nI_clamp hj]
  rcases Nat.lt_or_ge i j with q | q
  · exact q
  · exact absurd (nI_le q hi) c
theorem vin_e {x b : Int32} {B : Nat} (hb : b + 1 = nI B) (hB : B < 2 ^ 31) (h0 : ¬ x < 0) (h1 : ¬ b < x) : vp_in x B := by
  obtain ⟨j, hj, rfl⟩ := nI_of h0
  rcases Nat.lt_or_ge j B with q | q
  · exact vp_in_nI q hB
  · refine absurd ?_ h1
    have e : b = nI B - 1 := by rw [← hb]; exact (Int32.add_sub_cancel b 1).symm
    rcases B with _ | B
    · rw [e]
      exact Int32.lt_iff_toInt_lt.mpr (by rw [nI_toInt hj]; have : (nI 0 - 1).toInt = -1 := by decide
                                          omega)
    · rw [e, nI_pred]
      exact nI_lt (by omega) hj
theorem dn_pos {x : Int32} {i : Nat} (ek : x + 1 = nI i) (hi : i < 2 ^ 31) (c : ¬ x < 0) : ∃ j, i = j + 1 := by
  rcases i with _ | j
  · obtain ⟨k, hk, rfl⟩ := nI_of c
    rw [nI_1] at ek
    have h := congrArg Int32.toBitVec ek
    have h2 := congrArg BitVec.toNat h
    rw [pk_tn (by omega), pk_tn (by omega)] at h2
    omega
  · exact ⟨j, rfl⟩
theorem dn_0 {x : Int32} (h : ¬ x < 0) : x - 1 + 1 = nI x.toNatClampNeg := by
  rw [← nI_self h]
  exact Int32.sub_add_cancel x 1
theorem dn_ek {x : Int32} {i : Nat} (ek : x + 1 = nI (i + 1)) : x + (-1) + 1 = nI i := by
  rw [nI_succ] at ek
  have e : x = nI i := by
    have h := congrArg (fun z => z - 1) ek
    simpa [Int32.add_sub_cancel] using h
  rw [e, Int32.add_assoc]
  show nI i + 0 = nI i
  exact Int32.add_zero _
