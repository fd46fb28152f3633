theorem nI_m1 {a : Nat} (h : a < 2 ^ 31) : ¬ nI a = -1 := fun z => nI_pos h (by rw [z]; decide)
section ST
variable {n : Nat} {V V' : VS} {al : Nat → Bool} {en : Nat → Nat} {hs hw : Nat → Nat → Bool} {kn fl : Nat → Nat → Nat} {rg rw : Nat → Nat → Bool} {K : Nat} {B B' : Nat → Nat → Int32} {bf bf' : Nat → Int32} {rf : Nat → Nat} {tf : Nat → Nat → Nat} {kf pk : Nat → Nat} {ow : Nat → Nat × Nat × Nat} {k p f l r j q e : Nat} {W : Nat → Int32}
set_option maxHeartbeats 1000000 in
/-- a table given back; the root still says it -/
theorem S_untable (h : CG n V al en hs hs kn fl rg rw K B bf rf tf kf pk ow) (hr : rg k r = true) (h0 : ∀ p, hs k p = false)
    (e1 : v_root V' = v_root V) (e2 : v_len V' = v_len V) (e3 : v_buf V' = v_buf V) (e4 : v_spare V' = v_spare V + 1) (e5 : ∀ i, v_hold V' i = if i = tf k r then 0 else v_hold V i) (e6 : v_words V' = v_words V) :
    CG n V' al en hs hs kn fl (up2 rg k r false) rw K B bf rf tf kf pk ow := by
  obtain ⟨d1, d2, d3, d4, d5, d6⟩ := CG_dis h
  obtain ⟨h1, h2, h3, ⟨h4, h4'⟩, h5, h6, h7, h8, h9, h10, h11⟩ := h
  obtain ⟨hk, hr256, ha⟩ := h6 _ _ hr
  obtain ⟨g1, g2, g3⟩ := h2 _ _ hr
  have hfre := fre_give (V' := V') g1 g3 e5
  have hreg := regs_off hk hr256 hr
  have hcut : ∀ k' r', up2 rg k r false k' r' = true → rg k' r' = true ∧ ¬ (k' = k ∧ r' = r) := fun k' r' a => by
    by_cases e : k' = k ∧ r' = r
    · obtain ⟨rfl, rfl⟩ := e
      rw [up2_s] at a
      cases a
    · rw [up2_n e] at a
      exact ⟨a, e⟩
  refine ⟨fun k' hk' ha' => ?_, fun k' r' hr' => ?_, fun κ hκ hs' => ?_, ⟨?_, ?_⟩, fun k' p' hp' => ?_, fun k' r' hr' => h6 k' r' (hcut _ _ hr').1, by rw [e1, e6]; exact h7, fun k' r' hr' => by rw [e6]; exact h8 k' r' (hcut _ _ hr').1, by rw [e6]; exact h9, by rw [e2]; exact h10, by rw [e3]; exact h11⟩
  · obtain ⟨a, b, c⟩ := h1 k' hk' ha'
    exact ⟨a, b, by rw [e5, if_neg (d1 _ _ _ hk' ha' hr)]; exact c⟩
  · obtain ⟨x, y⟩ := hcut _ _ hr'
    obtain ⟨a, b, c⟩ := h2 k' r' x
    exact ⟨a, b, by rw [e5, if_neg (fun z => y (d4 _ _ _ _ x hr z))]; exact c⟩
  · obtain ⟨a, b, c⟩ := h3 κ hκ hs'
    exact ⟨a, b, by rw [e5, if_neg (fun z => d3 _ _ _ hr hκ hs' z.symm)]; exact c⟩
  · rw [e4, h4, hfre, nI_1]
  · omega
  · obtain ⟨a1, a2, a3, a4⟩ := h5 k' p' hp'
    refine ⟨a1, a2, ?_, a4⟩
    rw [up2_n (fun z => by rw [z.1, h0] at hp'; cases hp')]
    exact a3
set_option maxHeartbeats 1000000 in
/-- a root given back -/
theorem S_unroot (h : CG n V al en hs hs kn fl rg rw K B bf rf tf kf pk ow) (hk : k < 16) (ha : al k = true) (h0 : ∀ r, rg k r = false) (hrw : ∀ k' r, k' ≠ k → rw k' r = rg k' r)
    (e1 : ∀ i, v_root V' i = if i = k then -1 else v_root V i) (e2 : v_len V' = v_len V) (e3 : v_buf V' = v_buf V) (e4 : v_spare V' = v_spare V + 1) (e5 : ∀ i, v_hold V' i = if i = rf k then 0 else v_hold V i) (e6 : v_words V' = v_words V) :
    CG n V' (va_up al k false) en hs hs kn fl rg rg K B bf rf tf kf pk ow := by
  obtain ⟨d1, d2, d3, d4, d5, d6⟩ := CG_dis h
  obtain ⟨h1, h2, h3, ⟨h4, h4'⟩, h5, h6, h7, h8, h9, h10, h11⟩ := h
  obtain ⟨g1, g2, g3⟩ := h1 _ hk ha
  have hfre := fre_give (V' := V') g1 g3 e5
  have hal := cnt_off hk ha
  have hcut : ∀ k', va_up al k false k' = true → al k' = true ∧ k' ≠ k := fun k' a => by
    by_cases e : k' = k
    · subst e
      rw [va_up_self] at a
      cases a
    · rw [va_up_ne _ _ e] at a
      exact ⟨a, e⟩
  refine ⟨fun k' hk' ha' => ?_, fun k' r' hr' => ?_, fun κ hκ hs' => ?_, ⟨?_, ?_⟩, h5, fun k' r' hr' => ?_, fun k' hk' => ⟨fun ha' => ?_, fun ha' => ?_⟩, by rw [e6]; exact h8, by rw [e6]; exact h9, fun k' hk' ha' => by rw [e2]; exact h10 k' hk' (hcut _ ha').1, by rw [e3]; exact h11⟩
  · obtain ⟨x, y⟩ := hcut _ ha'
    obtain ⟨a, b, c⟩ := h1 k' hk' x
    exact ⟨a, b, by rw [e5, if_neg (fun z => y (d6 _ _ hk' hk x ha z))]; exact c⟩
  · obtain ⟨a, b, c⟩ := h2 k' r' hr'
    exact ⟨a, b, by rw [e5, if_neg (fun z => d1 _ _ _ hk ha hr' z.symm)]; exact c⟩
  · obtain ⟨a, b, c⟩ := h3 κ hκ hs'
    exact ⟨a, b, by rw [e5, if_neg (fun z => d2 _ _ hk ha hκ hs' z.symm)]; exact c⟩
  · rw [e4, h4, hfre, nI_1]
  · omega
  · obtain ⟨a, b, c⟩ := h6 k' r' hr'
    refine ⟨a, b, ?_⟩
    rw [va_up_ne _ _ (fun z => by rw [z, h0] at hr'; cases hr')]
    exact c
  · obtain ⟨x, y⟩ := hcut _ ha'
    rw [e1, if_neg y, e6]
    refine ⟨((h7 k' hk').1 x).1, fun r' hr' => ?_⟩
    rw [((h7 k' hk').1 x).2 r' hr', hrw _ _ y]
  · by_cases e : k' = k
    · rw [e1, if_pos e]
    · rw [va_up_ne _ _ e] at ha'
      rw [e1, if_neg e]
      exact (h7 k' hk').2 ha'
set_option maxHeartbeats 1000000 in
/-- a table's words copied into another's -/
theorem S_copy (h : CG n V al en hs hs kn fl rg rg K B bf rf tf kf pk ow) (hr : rg k r = true) (hq : rg q r = true) (hkn : ∀ p, kn k p = kn q p) (hfl : ∀ p, fl k p = fl q p)
    (e1 : v_root V' = v_root V) (e2 : v_len V' = v_len V) (e3 : v_buf V' = v_buf V) (e4 : v_spare V' = v_spare V) (e5 : v_hold V' = v_hold V) (e6 : ∀ i j, v_words V' i j = if i = tf k r then v_words V (tf q r) j else v_words V i j) :
    CG n V' al en hs (fun k' p' => if k' = k ∧ p' / 1024 = r then hs q p' else hs k' p') kn fl rg rg K B bf rf tf kf pk ow := by
  obtain ⟨d1, d2, d3, d4, d5, d6⟩ := CG_dis h
  have hlv := fun k p => CG_live (k := k) (p := p) h
  obtain ⟨h1, h2, h3, ⟨h4, h4'⟩, h5, h6, h7, h8, h9, h10, h11⟩ := h
  have hfr : fre V' = fre V := by unfold fre; rw [e5]
  refine ⟨by rw [e5]; exact h1, by rw [e5]; exact h2, by rw [e5]; exact h3, ⟨by rw [e4, hfr]; exact h4, by rw [hfr]; exact h4'⟩, h5, h6, fun k' hk' => ⟨fun ha' => ⟨by rw [e1]; exact ((h7 k' hk').1 ha').1, fun r' hr' => ?_⟩, fun ha' => by rw [e1]; exact (h7 k' hk').2 ha'⟩, fun k' r' hr' j' hj' => ?_, fun k' p' hp' o ho => ?_, by rw [e2]; exact h10, by rw [e3]; exact h11⟩
  · rw [e6, if_neg (d1 _ _ _ hk' ha' hr)]
    exact ((h7 k' hk').1 ha').2 r' hr'
  · rw [e6]
    by_cases e : k' = k ∧ r' = r
    · obtain ⟨rfl, rfl⟩ := e
      rw [if_pos rfl, h8 _ _ hq j' hj']
      unfold ent
      rw [hkn, hfl]
      show _ = if (if k' = k' ∧ (1024 * r' + j') / 1024 = r' then hs q (1024 * r' + j') else _) = true then _ else _
      rw [if_pos (c := k' = k' ∧ (1024 * r' + j') / 1024 = r') ⟨rfl, by omega⟩]
    · rw [if_neg (fun z => e (d4 _ _ _ _ hr' hr z)), h8 _ _ hr' j' hj']
      unfold ent
      show _ = if (if k' = k ∧ (1024 * r' + j') / 1024 = r then _ else hs k' (1024 * r' + j')) = true then _ else _
      rw [if_neg (c := k' = k ∧ (1024 * r' + j') / 1024 = r) (fun z => e ⟨z.1, by omega⟩)]
  · obtain ⟨a, b⟩ := hlv _ _ hp'
    rw [e6, if_neg (fun z => d3 _ _ _ hr a b z.symm)]
    exact h9 k' p' hp' o ho
set_option maxHeartbeats 1000000 in
/-- a page shared -/
theorem S_hold (h : CG n V al en hs hw kn fl rg rg K B bf rf tf kf pk ow) (hk : k < 16) (hp : hs k p = false) (hq : hs q p = true) (hr : rg k (p / 1024) = true) (hkn : kn k p = kn q p) (hfl : fl k p = fl q p) (hB : ∀ o, o < 4096 → B k (4096 * p + o) = B q (4096 * p + o))
    (e1 : v_root V' = v_root V) (e2 : v_len V' = v_len V) (e3 : v_buf V' = v_buf V) (e4 : v_spare V' = v_spare V) (e5 : ∀ i, v_hold V' i = if i = kf (kn q p) then v_hold V i + 1 else v_hold V i) (e6 : v_words V' = v_words V) :
    CG n V' al en (up2 hs k p true) hw kn fl rg rg K B bf rf tf kf pk ow := by
  obtain ⟨d1, d2, d3, d4, d5, d6⟩ := CG_dis h
  obtain ⟨hK, hps⟩ := CG_live h hq
  obtain ⟨h1, h2, h3, ⟨h4, h4'⟩, h5, h6, h7, h8, h9, h10, h11⟩ := h
  obtain ⟨a1, a2, a3, a4, a5, a6⟩ := h5 _ _ hq
  obtain ⟨g1, g2, g3⟩ := h3 _ hK hps
  have hback : up2 (up2 hs k p true) k p false = hs := by
    funext k' p'
    by_cases e : k' = k ∧ p' = p
    · obtain ⟨rfl, rfl⟩ := e
      rw [up2_s, hp]
    · rw [up2_n e, up2_n e]
  have s1 := shr_rem1 (hs := up2 hs k p true) (kn := kn) (pk := pk) (k := k) (p := p) up2_s hk (by rw [hkn]; exact a6)
  have s2 := fun κ => shr_rem2 (hs := up2 hs k p true) (kn := kn) (pk := pk) (k := k) (p := p) κ
  rw [hback, hkn] at s1
  rw [hback, hkn] at s2
  have s16 := shr_16 (hs := up2 hs k p true) (kn := kn) (pk := pk) (κ := kn q p)
  have hfr : fre V' = fre V := by
    funext i
    unfold fre
    rw [e5]
    by_cases e : i = kf (kn q p)
    · rw [if_pos e, e, g3, nI_1, decide_eq_false (nI_ne0 (by omega) (by omega)), decide_eq_false (nI_ne0 (by omega) (by omega))]
    · rw [if_neg e]
  have hlv : lvs (up2 hs k p true) kn pk = lvs hs kn pk := by
    funext i
    unfold lvs
    by_cases e : i = kn q p
    · rw [e, ← s1, decide_eq_true (by omega), decide_eq_true hps]
    · rw [s2 i e]
  refine ⟨fun k' hk' ha' => ?_, fun k' r' hr' => ?_, fun κ hκ hs' => ?_, ⟨by rw [e4, hfr]; exact h4, by rw [hfr, hlv]; exact h4'⟩, fun k' p' hp' => ?_, h6, by rw [e1, e6]; exact h7, by rw [e6]; exact h8, fun k' p' hp' o ho => ?_, by rw [e2]; exact h10, by rw [e3]; exact h11⟩
  · obtain ⟨a, b, c⟩ := h1 k' hk' ha'
    exact ⟨a, b, by rw [e5, if_neg (d2 k' _ hk' ha' hK hps)]; exact c⟩
  · obtain ⟨a, b, c⟩ := h2 k' r' hr'
    exact ⟨a, b, by rw [e5, if_neg (d3 k' r' _ hr' hK hps)]; exact c⟩
  · by_cases e : κ = kn q p
    · subst e
      exact ⟨g1, g2, by rw [e5, if_pos rfl, g3, nI_1, s1]⟩
    · rw [← s2 κ e] at hs' ⊢
      obtain ⟨a, b, c⟩ := h3 κ hκ hs'
      exact ⟨a, b, by rw [e5, if_neg (fun z => e (d5 _ _ hκ hK hs' hps z))]; exact c⟩
  · by_cases e : k' = k ∧ p' = p
    · obtain ⟨rfl, rfl⟩ := e
      rw [hkn, hfl]
      exact ⟨hk, a2, hr, a4, a5, a6⟩
    · rw [up2_n e] at hp'
      exact h5 k' p' hp'
  · rw [e6]
    by_cases e : k' = k ∧ p' = p
    · obtain ⟨rfl, rfl⟩ := e
      rw [hkn, hB o ho]
      exact h9 q p' hq o ho
    · rw [up2_n e] at hp'
      exact h9 k' p' hp' o ho
/-- one holder: one place -/
theorem shr_one (h : shr hs kn pk (kn k p) = 1) (hp : hs k p = true) (hk : k < 16) (hpk : pk (kn k p) = p) (hq : hs q p = true) (hq16 : q < 16) (he : kn q p = kn k p) : q = k := by
  by_cases e : q = k
  · exact e
  · have s1 := shr_rem1 (kn := kn) hp hk hpk
    have : 0 < shr (up2 hs k p false) kn pk (kn k p) := by
      refine cnt_pos (i := q) hq16 ?_
      rw [hpk, up2_n (fun z => e z.1), hq, he]
      simp
    omega
set_option maxHeartbeats 1000000 in
/-- other words in a page of one holder -/
theorem S_write (h : CG n V al en hs hs kn fl rg rg K B bf rf tf kf pk ow) (hp : hs k p = true) (h1s : shr hs kn pk (kn k p) = 1)
    (e1 : v_root V' = v_root V) (e2 : v_len V' = v_len V) (e3 : v_buf V' = v_buf V) (e4 : v_spare V' = v_spare V) (e5 : v_hold V' = v_hold V) (e6 : ∀ i j, v_words V' i j = if i = kf (kn k p) then W j else v_words V i j)
    (b1 : ∀ o, o < 4096 → byt (W (o / 4)) (nI (o % 4)) = B' k (4096 * p + o)) (b2 : ∀ k' p' o, hs k' p' = true → ¬ (k' = k ∧ p' = p) → o < 4096 → B' k' (4096 * p' + o) = B k' (4096 * p' + o)) :
    CG n V' al en hs hs kn fl rg rg K B' bf rf tf kf pk ow := by
  obtain ⟨d1, d2, d3, d4, d5, d6⟩ := CG_dis h
  have hlv := fun k p => CG_live (k := k) (p := p) h
  obtain ⟨hK, hps⟩ := hlv _ _ hp
  obtain ⟨h1, h2, h3, ⟨h4, h4'⟩, h5, h6, h7, h8, h9, h10, h11⟩ := h
  obtain ⟨hk, hp18, hr, hl0, hK', hpk⟩ := h5 k p hp
  have hfr : fre V' = fre V := by unfold fre; rw [e5]
  refine ⟨by rw [e5]; exact h1, by rw [e5]; exact h2, by rw [e5]; exact h3, ⟨by rw [e4, hfr]; exact h4, by rw [hfr]; exact h4'⟩, h5, h6, fun k' hk' => ⟨fun ha' => ⟨by rw [e1]; exact ((h7 k' hk').1 ha').1, fun r' hr' => ?_⟩, fun ha' => by rw [e1]; exact (h7 k' hk').2 ha'⟩, fun k' r' hr' j' hj' => ?_, fun k' p' hp' o ho => ?_, by rw [e2]; exact h10, by rw [e3]; exact h11⟩
  · rw [e6, if_neg (d2 _ _ hk' ha' hK hps)]
    exact ((h7 k' hk').1 ha').2 r' hr'
  · rw [e6, if_neg (d3 _ _ _ hr' hK hps)]
    exact h8 k' r' hr' j' hj'
  · by_cases e : k' = k ∧ p' = p
    · obtain ⟨rfl, rfl⟩ := e
      rw [e6, if_pos rfl]
      exact b1 o ho
    · obtain ⟨a, b⟩ := hlv _ _ hp'
      rw [e6, if_neg, b2 k' p' o hp' e ho]
      · exact h9 k' p' hp' o ho
      · intro z
        have z1 := d5 _ _ a hK b hps z
        have z2 := (h5 _ _ hp').2.2.2.2.2
        rw [z1, hpk] at z2
        subst z2
        exact e ⟨shr_one h1s hp hk hpk hp' (h5 _ _ hp').1 z1, rfl⟩
/-- another end -/
theorem S_len (h : CG n V al en hs hs kn fl rg rg K B bf rf tf kf pk ow) (he : e ≤ 2 ^ 30) : CG n (s_len V k (nI e)) al (va_up en k e) hs hs kn fl rg rg K B bf rf tf kf pk ow := by
  obtain ⟨h1, h2, h3, h4, h5, h6, h7, h8, h9, h10, h11⟩ := h
  refine ⟨h1, h2, h3, h4, h5, h6, h7, h8, h9, fun k' hk' ha' => ?_, h11⟩
  show upd (v_len V) k (nI e) k' = _ ∧ _
  by_cases z : k' = k
  · subst z
    rw [pk_us, va_up_self]
    exact ⟨rfl, he⟩
  · rw [pk_un z, va_up_ne _ _ z]
    exact h10 k' hk' ha'
/-- the buffer -/
theorem S_buf (h : CG n V al en hs hs kn fl rg rg K B bf rf tf kf pk ow) {x : Int32} : CG n (s_buf V j x) al en hs hs kn fl rg rg K B (upd bf j x) rf tf kf pk ow := by
  obtain ⟨h1, h2, h3, h4, h5, h6, h7, h8, h9, h10, h11⟩ := h
  refine ⟨h1, h2, h3, h4, h5, h6, h7, h8, h9, h10, fun i hi => ?_⟩
  show upd (v_buf V) j x i = _
  by_cases z : i = j
  · subst z
    rw [pk_us, pk_us]
  · rw [pk_un z, pk_un z]
    exact h11 i hi
theorem S_trap (h : CG n V al en hs hs kn fl rg rg K B bf rf tf kf pk ow) {x : Int32} : CG n (s_trap V x) al en hs hs kn fl rg rg K B bf rf tf kf pk ow := h
/-- bytes nobody reads -/
theorem S_bytes (h : CG n V al en hs hs kn fl rg rg K B bf rf tf kf pk ow) (hB : ∀ k p o, hs k p = true → o < 4096 → B' k (4096 * p + o) = B k (4096 * p + o)) : CG n V al en hs hs kn fl rg rg K B' bf rf tf kf pk ow := by
  obtain ⟨h1, h2, h3, h4, h5, h6, h7, h8, h9, h10, h11⟩ := h
  exact ⟨h1, h2, h3, h4, h5, h6, h7, h8, fun k p hp o ho => by rw [hB k p o hp ho]; exact h9 k p hp o ho, h10, h11⟩
/-! looking up -/
theorem L_open (h : CG n V al en hs hs kn fl rg rg K B bf rf tf kf pk ow) (hn : n ≤ 32) (hk : k < 16) : (al k = true → j_S_isOpen V k = 1) ∧ (al k = false → j_S_isOpen V k = 0) := by
  obtain ⟨h1, h2, h3, h4, h5, h6, h7, -⟩ := h
  unfold j_S_isOpen
  refine ⟨fun a => ?_, fun a => ?_⟩
  · rw [((h7 k hk).1 a).1, if_neg (nI_m1 (by have := (h1 k hk a).1; omega))]
  · rw [(h7 k hk).2 a, if_pos rfl]
theorem L_find (h : CG n V al en hs hs kn fl rg rg K B bf rf tf kf pk ow) (hn : n ≤ 32) (x : Int32) : (j_V_find V x = none ∧ ∀ k, k < 16 → x = nI k → al k = false) ∨ ∃ k, k < 16 ∧ x = nI k ∧ al k = true ∧ j_V_find V x = some k := by
  have e16 : (16 : Int32) = nI 16 := rfl
  unfold j_V_find
  rcases pk_ix x (n := 16) (by decide) with a | a | ⟨i, hi, rfl⟩
  · rw [if_pos a]
    exact Or.inl ⟨rfl, fun k hk q => absurd (q ▸ a) (nI_pos (by omega))⟩
  · by_cases b : x < 0
    · rw [if_pos b]
      exact Or.inl ⟨rfl, fun k hk q => absurd (q ▸ b) (nI_pos (by omega))⟩
    · rw [if_neg b, e16, if_pos a]
      exact Or.inl ⟨rfl, fun k hk q => absurd (q ▸ a) (nI_ge hk (by decide))⟩
  · rw [if_neg (nI_pos (by omega)), e16, if_neg (nI_ge hi (by decide)), nI_clamp (by omega)]
    obtain ⟨o1, o2⟩ := L_open h hn hi
    cases a : al i with
    | true =>
      rw [o1 a, if_neg (by decide)]
      exact Or.inr ⟨i, hi, rfl, a, rfl⟩
    | false =>
      rw [o2 a, if_pos rfl]
      exact Or.inl ⟨rfl, fun k hk q => by rw [← (nI_eq (by omega) (by omega)).mp q]; exact a⟩
theorem L_table (h : CG n V al en hs hw kn fl rg rw K B bf rf tf kf pk ow) (hn : n ≤ 32) (hk : k < 16) (ha : al k = true) (hr : r < 256) (hsub : rw k r = true → rg k r = true) : j_S_tableOf n V k (nI r) = if rw k r = true then nI (tf k r) else -1 := by
  obtain ⟨h1, h2, h3, h4, h5, h6, h7, -⟩ := h
  unfold j_S_tableOf
  obtain ⟨a, b⟩ := (h7 k hk).1 ha
  rw [a, word_nI hn (h1 k hk ha).1 (by omega), b r hr]
  by_cases c : rw k r = true
  · rw [if_pos c, if_pos c]
    have := (en_dec (tf k r) (by have := (h2 k r (hsub c)).1; omega) 0 (by decide)).2.1
    exact this
  · rw [if_neg c, if_neg c]
    exact en_0
theorem L_entry (h : CG n V al en hs hs kn fl rg rg K B bf rf tf kf pk ow) (hn : n ≤ 32) (hk : k < 16) (ha : al k = true) {A : Nat} (hA : A < 2 ^ 30) : j_S_entryAt n V k (nI A) = ent hs kn fl kf k (A / 4096) := by
  unfold j_S_entryAt
  rw [ju22 (by omega), slot_nI (by omega), L_table h hn hk ha (by omega) id]
  obtain ⟨h1, h2, h3, h4, h5, h6, h7, h8, -⟩ := h
  by_cases c : rg k (A / 4194304) = true
  · rw [if_pos c, word_nI hn (h2 _ _ c).1 (by omega), h8 _ _ c _ (by omega)]
    congr 1
    omega
  · rw [if_neg c, word_m1]
    unfold ent
    rw [if_neg]
    intro z
    have := (h5 _ _ z).2.2.1
    rw [show A / 4096 / 1024 = A / 4194304 by omega] at this
    exact c this
theorem L_ent0 (h : CG n V al en hs hs kn fl rg rg K B bf rf tf kf pk ow) (hn : n ≤ 32) : (hs k p = false → ent hs kn fl kf k p = 0) ∧ (hs k p = true → ¬ ent hs kn fl kf k p = 0 ∧ kf (kn k p) < n ∧ fl k p < 16) := by
  refine ⟨fun a => ?_, fun a => ?_⟩
  · unfold ent
    rw [if_neg (by rw [a]; decide)]
  · obtain ⟨x, y⟩ := CG_live h a
    obtain ⟨h1, h2, h3, h4, h5, -⟩ := h
    have h6 := (h3 _ x y).1
    have h7 := (h5 _ _ a).2.2.2.1
    unfold ent
    rw [if_pos a]
    exact ⟨nI_ne0 (by omega) (by omega), h6, h7⟩
theorem L_take (h : CG n V al en hs hw kn fl rg rw K B bf rf tf kf pk ow) (hn : n ≤ 32) : (0 < cnt n (fre V) → ∃ f, f < n ∧ v_hold V f = 0 ∧ j_F_take n V = (nI f, s_row (s_spare (s_hold V f 1) (v_spare V - 1)) f (fun _ => 0))) ∧ (cnt n (fre V) = 0 → j_F_take n V = (-1, V)) := by
  rcases take_c (V := V) hn with ⟨f, a, b, c⟩ | ⟨a, b⟩
  · refine ⟨fun _ => ⟨f, a, b, c⟩, fun z => ?_⟩
    have := cnt_none z f a
    unfold fre at this
    rw [b] at this
    cases this
  · refine ⟨fun z => ?_, fun _ => b⟩
    obtain ⟨i, hi, e⟩ := cnt_some z
    unfold fre at e
    exact absurd (of_decide_eq_true e) (a i hi)
end ST
