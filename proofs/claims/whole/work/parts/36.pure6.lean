/-! the state's parts, behind its changes -/
theorem w_row (V : VS) (f : Nat) (R : Nat → Int32) (i j : Nat) : v_words (s_row V f R) i j = if i = f then R j else v_words V i j := by
  show va_up (v_words V) f R i j = _
  by_cases e : i = f
  · subst e
    rw [va_up_self, if_pos rfl]
  · rw [va_up_ne _ _ e, if_neg e]
theorem w_word (V : VS) (g j : Nat) (x : Int32) (i j' : Nat) : v_words (s_word V g j x) i j' = if i = g ∧ j' = j then x else v_words V i j' := by
  unfold s_word
  rw [w_row]
  by_cases e : i = g
  · subst e
    rw [if_pos rfl]
    by_cases e2 : j' = j
    · subst e2
      rw [pk_us, if_pos ⟨rfl, rfl⟩]
    · rw [pk_un e2, if_neg (fun z => e2 z.2)]
  · rw [if_neg e, if_neg (fun z => e z.1)]
theorem h_hold (V : VS) (f : Nat) (x : Int32) (i : Nat) : v_hold (s_hold V f x) i = if i = f then x else v_hold V i := rfl
theorem word_id {V : VS} {t j : Nat} {x : Int32} (h : v_words V t j = x) : s_word V t j x = V := by
  have e1 : upd (v_words V t) j x = v_words V t := by
    funext i
    by_cases e : i = j
    · subst e
      rw [pk_us, h]
    · rw [pk_un e]
  unfold s_word
  rw [e1]
  show (V.1, V.2.1, V.2.2.1, V.2.2.2.1, V.2.2.2.2.1, V.2.2.2.2.2.1, va_up V.2.2.2.2.2.2 t (v_words V t)) = V
  have e2 : va_up V.2.2.2.2.2.2 t (v_words V t) = V.2.2.2.2.2.2 := by
    funext i
    by_cases e : i = t
    · subst e
      rw [va_up_self]
      rfl
    · rw [va_up_ne _ _ e]
  rw [e2]
theorem byt_0 : ∀ i, i < 4 → byt 0 (nI i) = 0 := by decide
/-- zeros in a page -/
def zpg (B : Nat → Nat → Int32) (k p : Nat) : Nat → Nat → Int32 := fun k' A => if k' = k ∧ A / 4096 = p then 0 else B k' A
/-- a frame let go by one holder -/
theorem L_rel {n : Nat} {V : VS} {g h : Nat} (hn : n ≤ 32) (hg : g < n) (hh : v_hold V g = nI (h + 1)) (hb : h < 2 ^ 30) : j_F_release n V (nI g) = if h = 0 then s_spare (s_hold V g (nI h)) (v_spare V + 1) else s_hold V g (nI h) := by
  unfold j_F_release
  rw [isF_nI hn hg, if_neg (by decide), nI_clamp (by omega), hh, if_neg (nI_nle (by omega) (by omega)), nI_pred, h_hold, if_pos rfl]
  by_cases e : h = 0
  · subst e
    rw [if_pos nI_0, if_pos rfl]
    rfl
  · rw [if_neg (nI_ne0 (by omega) (by omega)), if_neg e]
theorem L_relm {n : Nat} {V : VS} : j_F_release n V (-1) = V := by
  unfold j_F_release
  rw [isF_m1, if_pos rfl]
theorem L_copyW {n : Nat} {V : VS} {a b : Nat} (hn : n ≤ 32) (ha : a < n) (hb : b < n) : j_F_copyWords n V (nI a) (nI b) = s_row V b (v_words V a) := by
  unfold j_F_copyWords
  rw [isF_nI hn ha, if_neg (by decide), isF_nI hn hb, if_neg (by decide), nI_clamp (by omega), nI_clamp (by omega)]
theorem L_tb {n : Nat} {V : VS} {k g r t : Nat} (hn : n ≤ 32) (h : v_root V k = nI g) (hg : g < n) (hr : r < 256) (hw : v_words V g r = nI (16 * (t + 1))) (ht : t < n) : j_S_tableOf n V k (nI r) = nI t := by
  unfold j_S_tableOf
  rw [h, word_nI hn hg (by omega), hw]
  exact (en_dec t (by omega) 0 (by decide)).2.1
theorem L_en {n : Nat} {V : VS} {k g t A : Nat} (hn : n ≤ 32) (hA : A < 2 ^ 30) (h : v_root V k = nI g) (hg : g < n) (hw : v_words V g (A / 4194304) = nI (16 * (t + 1))) (ht : t < n) : j_S_entryAt n V k (nI A) = v_words V t (A / 4096 % 1024) := by
  unfold j_S_entryAt
  rw [ju22 (by omega), slot_nI (by omega), L_tb hn h hg (by omega) hw ht, word_nI hn ht (by omega)]
theorem L_set {n : Nat} {V : VS} {k g t A : Nat} {x : Int32} (hn : n ≤ 32) (hA : A < 2 ^ 30) (h : v_root V k = nI g) (hg : g < n) (hw : v_words V g (A / 4194304) = nI (16 * (t + 1))) (ht : t < n) : j_S_setEntry n V k (nI A) x = s_word V t (A / 4096 % 1024) x := by
  unfold j_S_setEntry
  rw [ju22 (by omega), slot_nI (by omega), L_tb hn h hg (by omega) hw ht, setW_nI hn ht (by omega)]
section ST
variable {n : Nat} {V V' : VS} {al : Nat → Bool} {en : Nat → Nat} {hs hw : Nat → Nat → Bool} {kn fl : Nat → Nat → Nat} {rg rw : Nat → Nat → Bool} {K : Nat} {B B' : Nat → Nat → Int32} {bf bf' : Nat → Int32} {rf : Nat → Nat} {tf : Nat → Nat → Nat} {kf pk : Nat → Nat} {ow : Nat → Nat × Nat × Nat} {k p f l r j q e A : Nat} {W : Nat → Int32}
theorem up2_id {α : Type} {f : Nat → Nat → α} {k p : Nat} {x : α} (h : f k p = x) : up2 f k p x = f := by
  funext k' p'
  by_cases e : k' = k ∧ p' = p
  · obtain ⟨rfl, rfl⟩ := e
    rw [up2_s, h]
  · rw [up2_n e]
theorem up2_uu {α : Type} {f : Nat → Nat → α} {k p : Nat} {x y : α} : up2 (up2 f k p x) k p y = up2 f k p y := by
  funext k' p'
  by_cases e : k' = k ∧ p' = p
  · obtain ⟨rfl, rfl⟩ := e
    rw [up2_s, up2_s]
  · rw [up2_n e, up2_n e, up2_n e]
/-- a table, taken and entered -/
theorem C_table (h : CG n V al en hs hs kn fl rg rg K B bf rf tf kf pk ow) (hn : n ≤ 32) (hk : k < 16) (ha : al k = true) (hr : r < 256) (h0 : rg k r = false) (hc : 0 < cnt n (fre V)) :
    ∃ f V', f < n ∧ j_S_addTable n V k (nI r) = (nI f, V') ∧ v_trap V' = v_trap V ∧ CG n V' al en hs hs kn fl (up2 rg k r true) (up2 rg k r true) K B bf rf (up2 tf k r f) kf pk (va_up ow f (1, k, r)) := by
  obtain ⟨f, hf, hh, ht⟩ := (L_take h hn).1 hc
  obtain ⟨f1, f2, f3⟩ := CG_fresh h hh
  have hg := h
  obtain ⟨h1, h2, h3, h4, h5, h6, h7, -⟩ := hg
  have hroot := ((h7 k hk).1 ha).1
  refine ⟨f, _, hf, ?_, ?_, S_table h hk ha hr h0 hf hh (V' := s_word (s_row (s_spare (s_hold V f 1) (v_spare V - 1)) f (fun _ => 0)) (rf k) r (nI (16 * (f + 1)))) (fun _ => rfl) (fun _ => rfl) (fun _ => rfl) rfl (fun _ => rfl) (fun i j => ?_)⟩
  · unfold j_S_addTable
    rw [ht]
    show (nI f, j_F_setWord n _ (v_root V k) (nI r) (j_V_entryOf (nI f) 0)) = _
    have e0 := (en_dec f (by omega) 0 (by decide)).1
    rw [nI_0] at e0
    rw [hroot, setW_nI hn (h1 k hk ha).1 (by omega), e0]
    rfl
  · rfl
  · rw [w_word, w_row]
    by_cases e : i = f
    · subst e
      rw [if_pos rfl, if_pos rfl, if_neg (fun z => f1 k hk ha z.1.symm)]
    · rw [if_neg e, if_neg e]
      rfl
set_option maxHeartbeats 1000000 in
/-- a page, taken and entered, where its table is -/
theorem C_page (h : CG n V al en hs hs kn fl rg rg K B bf rf tf kf pk ow) (hn : n ≤ 32) (hA : A < 2 ^ 30) (hl : l < 16) (hr : rg k (A / 4194304) = true) (h0 : hs k (A / 4096) = false) (hc : 0 < cnt n (fre V)) :
    ∃ f V', f < n ∧ (j_F_take n V).1 = nI f ∧ j_F_setWord n ((j_F_take n V).2) (nI (tf k (A / 4194304))) (j_S_slotOf (nI A)) (j_V_entryOf ((j_F_take n V).1) (nI l)) = V' ∧ v_trap V' = v_trap V ∧
      CG n V' al en (up2 hs k (A / 4096) true) (up2 hs k (A / 4096) true) (up2 kn k (A / 4096) K) (up2 fl k (A / 4096) l) rg rg (K + 1) (zpg B k (A / 4096)) bf rf tf (va_up kf K f) (va_up pk K (A / 4096)) (va_up ow f (2, K, 0)) := by
  obtain ⟨f, hf, hh, ht⟩ := (L_take h hn).1 hc
  obtain ⟨f1, f2, f3⟩ := CG_fresh h hh
  have hdiv : A / 4096 / 1024 = A / 4194304 := by omega
  have hg := h
  obtain ⟨h1, h2, h3, h4, h5, h6, h7, -⟩ := hg
  refine ⟨f, _, hf, by rw [ht], ?_, ?_, S_attach h hn (by omega) hl (by rw [hdiv]; exact hr) h0 hf hh (V' := s_word (s_row (s_spare (s_hold V f 1) (v_spare V - 1)) f (fun _ => 0)) (tf k (A / 4194304)) (A / 4096 % 1024) (nI (16 * (f + 1) + l))) (W := fun _ => 0) (fun _ => rfl) (fun _ => rfl) (fun _ => rfl) rfl (fun _ => rfl) (fun i j => ?_) (fun o ho => ?_) (fun k' p' o hp' ho => ?_)⟩
  · rw [ht]
    show j_F_setWord n _ (nI (tf k (A / 4194304))) (j_S_slotOf (nI A)) (j_V_entryOf (nI f) (nI l)) = _
    rw [slot_nI (by omega), setW_nI hn (h2 _ _ hr).1 (by omega), (en_dec f (by omega) l hl).1]
  · rfl
  · rw [w_word, w_row, hdiv]
    by_cases e : i = f
    · subst e
      rw [if_pos rfl, if_pos rfl, if_neg (fun z => f2 _ _ hr z.1.symm)]
    · rw [if_neg e, if_neg e]
      rfl
  · unfold zpg
    rw [if_pos ⟨rfl, by omega⟩]
    exact byt_0 _ (by omega)
  · unfold zpg
    rw [if_neg]
    intro z
    have : p' = A / 4096 := by omega
    rw [z.1, this, h0] at hp'
    cases hp'
set_option maxHeartbeats 1000000 in
/-- the vault's addPage -/
theorem C_addPage (h : CG n V al en hs hs kn fl rg rg K B bf rf tf kf pk ow) (hn : n ≤ 32) (hk : k < 16) (ha : al k = true) (hA : A < 2 ^ 30) (hl : l < 16) (h0 : hs k (A / 4096) = false) :
    (cnt n (fre V) < (if rg k (A / 4194304) = true then 1 else 2) → j_S_addPage n V k (nI A) (nI l) = (-1, V)) ∧
    (¬ cnt n (fre V) < (if rg k (A / 4194304) = true then 1 else 2) → ∃ f V' tf' ow', f < n ∧ j_S_addPage n V k (nI A) (nI l) = (nI f, V') ∧ v_trap V' = v_trap V ∧
      CG n V' al en (up2 hs k (A / 4096) true) (up2 hs k (A / 4096) true) (up2 kn k (A / 4096) K) (up2 fl k (A / 4096) l) (up2 rg k (A / 4194304) true) (up2 rg k (A / 4194304) true) (K + 1) (zpg B k (A / 4096)) bf rf tf' (va_up kf K f) (va_up pk K (A / 4096)) ow') := by
  have hr : A / 4194304 < 256 := by omega
  have htab := L_table h hn hk ha hr id
  have hsp : j_F_spare V = nI (cnt n (fre V)) := h.2.2.2.1.1
  have hcn : cnt n (fre V) ≤ n := cnt_le _ _
  have e1 : (1 : Int32) = nI 1 := rfl
  have e2 : (2 : Int32) = nI 2 := rfl
  unfold j_S_addPage
  rw [ju22 (by omega), htab, hsp]
  by_cases c : rg k (A / 4194304) = true
  · rw [if_pos c, if_pos c, if_neg (nI_m1 (by have := (h.2.1 _ _ c).1; omega)), if_neg (nI_m1 (by have := (h.2.1 _ _ c).1; omega))]
    refine ⟨fun z => ?_, fun z => ?_⟩
    · rw [e1, if_neg (nI_ge (by omega) (by omega))]
    · obtain ⟨f, V', a1, a2, a3, a4, a5⟩ := C_page h hn hA hl c h0 (by omega)
      refine ⟨f, V', tf, _, a1, ?_, a4, by rw [up2_id c]; exact a5⟩
      rw [e1, if_pos (nI_le (by omega) (by omega)), a3, a2]
  · rw [if_neg c, if_neg c, if_pos rfl, if_pos rfl]
    refine ⟨fun z => ?_, fun z => ?_⟩
    · rw [e2, if_neg (nI_ge (by omega) (by omega))]
    · obtain ⟨t, V1, b1, b2, b3, b4⟩ := C_table h hn hk ha hr (by simpa using c) (by omega)
      have hc1 : 0 < cnt n (fre V1) := by
        have x1 := h.2.2.2.1.2
        have x2 := b4.2.2.2.1.2
        rw [regs_on hk hr (by simpa using c)] at x2
        omega
      obtain ⟨f, V', a1, a2, a3, a4, a5⟩ := C_page b4 hn hA hl up2_s h0 hc1
      refine ⟨f, V', _, _, a1, ?_, by rw [a4, b3], a5⟩
      rw [e2, if_pos (nI_le (by omega) (by omega)), b2]
      show ((j_F_take n V1).1, j_F_setWord n (j_F_take n V1).2 (nI t) (j_S_slotOf (nI A)) (j_V_entryOf (j_F_take n V1).1 (nI l))) = _
      rw [up2_s] at a3
      rw [a3, a2]
set_option maxHeartbeats 2000000 in
/-- the vault's partPage -/
theorem C_part (h : CG n V al en hs hs kn fl rg rg K B bf rf tf kf pk ow) (hn : n ≤ 32) (hA : A < 2 ^ 30) (hp : hs k (A / 4096) = true) (h2 : 1 < shr hs kn pk (kn k (A / 4096))) :
    (cnt n (fre V) = 0 → j_S_partPage n V k (nI A) = (-1, V)) ∧
    (0 < cnt n (fre V) → ∃ f V' ow', f < n ∧ j_S_partPage n V k (nI A) = (nI f, V') ∧ v_trap V' = v_trap V ∧
      CG n V' al en hs hs (up2 kn k (A / 4096) K) fl rg rg (K + 1) B bf rf tf (va_up kf K f) (va_up pk K (A / 4096)) ow') := by
  obtain ⟨t1, t2⟩ := L_take h hn
  obtain ⟨hK, hps⟩ := CG_live h hp
  obtain ⟨d1, d2, d3, d4, d5, d6⟩ := CG_dis h
  have hg := h
  obtain ⟨h1, h2', h3, h4, h5, h6, h7, h8, h9, -⟩ := hg
  obtain ⟨hk, hp18, hr, hl, hK', hpk⟩ := h5 _ _ hp
  have hdiv : A / 4096 / 1024 = A / 4194304 := by omega
  rw [hdiv] at hr
  have ha := (h6 _ _ hr).2.2
  obtain ⟨g1, g2, g3⟩ := h3 _ hK hps
  have s16 := shr_16 (hs := hs) (kn := kn) (pk := pk) (κ := kn k (A / 4096))
  have n1 : ¬ (1 : Int32) = 0 := by decide
  refine ⟨fun z => ?_, fun z => ?_⟩
  · unfold j_S_partPage
    rw [t2 z]
    show (if (-1 : Int32) = -1 then (-1, V) else _) = _
    rw [if_pos rfl]
  · obtain ⟨f, hf, hh, ht⟩ := t1 z
    obtain ⟨f1, f2, f3⟩ := CG_fresh h hh
    have hroot := ((h7 k hk).1 ha).1
    have hrw := ((h7 k hk).1 ha).2 (A / 4194304) (by omega)
    rw [if_pos hr] at hrw
    have htw := h8 _ _ hr (A / 4096 % 1024) (by omega)
    rw [show 1024 * (A / 4194304) + A / 4096 % 1024 = A / 4096 by omega] at htw
    unfold ent at htw
    rw [if_pos hp] at htw
    -- the state behind the removal
    have hrem := S_remove (V' := s_word (s_hold V (kf (kn k (A / 4096))) (v_hold V (kf (kn k (A / 4096))) - 1)) (tf k (A / 4194304)) (A / 4096 % 1024) 0) h hn hp (fun _ => rfl) (fun _ => rfl) (fun _ => rfl)
      (by rw [if_neg (show ¬ v_hold V (kf (kn k (A / 4096))) = 1 from fun y => by rw [g3] at y; have := (nI_eq (b := 1) (by omega) (by decide)).mp y; omega)]; rfl)
      (fun i => by
        show (if i = kf (kn k (A / 4096)) then _ else _) = _
        by_cases e : i = kf (kn k (A / 4096))
        · subst e
          rw [if_pos rfl, if_pos rfl]
        · rw [if_neg e, if_neg e]
          rfl)
      (fun i j => by rw [w_word, hdiv]; rfl)
    have hfk : f ≠ kf (kn k (A / 4096)) := fun y => f3 _ hK hps y.symm
    have hfin := S_attach (k := k) (p := A / 4096) (l := fl k (A / 4096)) (f := f) (W := v_words V (kf (kn k (A / 4096)))) (B' := B) (V' := s_word (s_hold (s_row (s_row (s_spare (s_hold V f 1) (v_spare V - 1)) f (fun _ => 0)) f (v_words V (kf (kn k (A / 4096))))) (kf (kn k (A / 4096))) (nI (shr hs kn pk (kn k (A / 4096)) - 1))) (tf k (A / 4194304)) (A / 4096 % 1024) (nI (16 * (f + 1) + fl k (A / 4096)))) hrem hn hp18 hl (by rw [hdiv]; exact hr) up2_s hf
      (by
        show (if f = kf (kn k (A / 4096)) then _ else v_hold V f) = 0
        rw [if_neg hfk, hh])
      (fun _ => rfl) (fun _ => rfl) (fun _ => rfl) rfl
      (fun i => by
        show (if i = kf (kn k (A / 4096)) then nI (shr hs kn pk (kn k (A / 4096)) - 1) else (if i = f then 1 else v_hold V i)) = if i = f then 1 else (if i = kf (kn k (A / 4096)) then v_hold V (kf (kn k (A / 4096))) - 1 else v_hold V i)
        by_cases e : i = kf (kn k (A / 4096))
        · rw [if_pos e, if_neg (fun y => hfk (y.symm.trans e)), if_pos e, g3]
          exact (pk_sub (b := 1) (by omega)).symm
        · rw [if_neg e, if_neg e])
      (fun i j => by
        rw [w_word, w_word, hdiv]
        by_cases e : i = f
        · rw [if_pos e, if_neg (fun y => f2 _ _ hr (y.1.symm.trans e))]
          show v_words (s_row _ f (v_words V (kf (kn k (A / 4096))))) i j = _
          rw [w_row, if_pos e]
        · rw [if_neg e]
          by_cases e2 : i = tf k (A / 4194304) ∧ j = A / 4096 % 1024
          · rw [if_pos e2, if_pos e2]
          · rw [if_neg e2, if_neg e2, if_neg e2]
            show v_words (s_row _ f (v_words V (kf (kn k (A / 4096))))) i j = _
            rw [w_row, if_neg e, w_row, if_neg e]
            rfl)
      (fun o ho => h9 _ _ hp o ho) (fun _ _ _ _ _ => rfl)
    rw [up2_uu, up2_id hp, up2_id (f := fl) rfl] at hfin
    refine ⟨f, _, _, hf, ?_, ?_, hfin⟩
    · unfold j_S_partPage
      rw [ht]
      show (if nI f = -1 then _ else _) = _
      rw [if_neg (nI_m1 (by omega))]
      have hen : j_S_entryAt n (s_row (s_spare (s_hold V f 1) (v_spare V - 1)) f (fun _ => 0)) k (nI A) = nI (16 * (kf (kn k (A / 4096)) + 1) + fl k (A / 4096)) := by
        rw [L_en (V := s_row (s_spare (s_hold V f 1) (v_spare V - 1)) f (fun _ => 0)) (g := rf k) (t := tf k (A / 4194304)) hn hA hroot (h1 k hk ha).1 (by rw [w_row, if_neg (f1 k hk ha)]; exact hrw) (h2' _ _ hr).1, w_row, if_neg (f2 _ _ hr)]
        exact htw
      show (nI f, j_S_setEntry n (j_F_release n (j_F_copyWords n _ (j_V_frameOf (j_S_entryAt n (s_row (s_spare (s_hold V f 1) (v_spare V - 1)) f (fun _ => 0)) k (nI A))) (nI f)) (j_V_frameOf (j_S_entryAt n (s_row (s_spare (s_hold V f 1) (v_spare V - 1)) f (fun _ => 0)) k (nI A)))) k (nI A) (j_V_entryOf (nI f) (j_V_flagsOf (j_S_entryAt n (s_row (s_spare (s_hold V f 1) (v_spare V - 1)) f (fun _ => 0)) k (nI A))))) = _
      have ed := en_dec (kf (kn k (A / 4096))) (by omega) (fl k (A / 4096)) hl
      have hWk : v_words (s_row (s_spare (s_hold V f 1) (v_spare V - 1)) f (fun _ => 0)) (kf (kn k (A / 4096))) = v_words V (kf (kn k (A / 4096))) := by
        funext j
        rw [w_row, if_neg (fun y => hfk y.symm)]
        rfl
      rw [hen, ed.2.1, ed.2.2.1, (en_dec f (by omega) (fl k (A / 4096)) hl).1, L_copyW hn g1 hf, hWk]
      have hsh : shr hs kn pk (kn k (A / 4096)) = (shr hs kn pk (kn k (A / 4096)) - 1) + 1 := by omega
      rw [L_rel (h := shr hs kn pk (kn k (A / 4096)) - 1) hn g1 (by
        show (if kf (kn k (A / 4096)) = f then _ else v_hold V (kf (kn k (A / 4096)))) = _
        rw [if_neg (fun y => hfk y.symm), g3]
        congr 1) (by omega), if_neg (by omega)]
      have hls := L_set (V := s_hold (s_row (s_row (s_spare (s_hold V f 1) (v_spare V - 1)) f (fun _ => 0)) f (v_words V (kf (kn k (A / 4096))))) (kf (kn k (A / 4096))) (nI (shr hs kn pk (kn k (A / 4096)) - 1))) (g := rf k) (t := tf k (A / 4194304)) (x := nI (16 * (f + 1) + fl k (A / 4096))) hn hA hroot (h1 k hk ha).1 (by
        show v_words (s_row (s_row _ f _) f _) (rf k) (A / 4194304) = _
        rw [w_row, if_neg (f1 k hk ha), w_row, if_neg (f1 k hk ha)]
        exact hrw) (h2' _ _ hr).1
      show (nI f, j_S_setEntry n (s_hold (s_row (s_row (s_spare (s_hold V f 1) (v_spare V - 1)) f (fun _ => 0)) f (v_words V (kf (kn k (A / 4096))))) (kf (kn k (A / 4096))) (nI (shr hs kn pk (kn k (A / 4096)) - 1))) k (nI A) (nI (16 * (f + 1) + fl k (A / 4096)))) = _
      rw [hls]
    · rfl
end ST
