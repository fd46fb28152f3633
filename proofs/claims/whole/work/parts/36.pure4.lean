section ST
variable {n : Nat} {V V' : VS} {al : Nat → Bool} {en : Nat → Nat} {hs hw : Nat → Nat → Bool} {kn fl : Nat → Nat → Nat} {rg rw : Nat → Nat → Bool} {K : Nat} {B B' : Nat → Nat → Int32} {bf bf' : Nat → Int32} {rf : Nat → Nat} {tf : Nat → Nat → Nat} {kf pk : Nat → Nat} {ow : Nat → Nat × Nat × Nat} {k p f l r j q e : Nat} {W : Nat → Int32}
theorem shr_rem1 (h : hs k p = true) (hk : k < 16) (hp : pk (kn k p) = p) : shr (up2 hs k p false) kn pk (kn k p) + 1 = shr hs kn pk (kn k p) := by
  unfold shr
  rw [← cnt_off (f := fun i => hs i (pk (kn k p)) && decide (kn i (pk (kn k p)) = kn k p)) hk (by show (hs k _ && _) = true; rw [hp, h]; simp)]
  congr 1
  apply cnt_congr
  intro i _
  rw [hp]
  by_cases e : i = k
  · subst e
    rw [va_up_self, up2_s]
    rfl
  · rw [va_up_ne _ _ e, up2_n (fun q => e q.1)]
theorem shr_rem2 (κ : Nat) (hκ : κ ≠ kn k p) : shr (up2 hs k p false) kn pk κ = shr hs kn pk κ := by
  unfold shr
  apply cnt_congr
  intro i _
  by_cases e : i = k ∧ pk κ = p
  · obtain ⟨rfl, e2⟩ := e
    rw [e2, up2_s, decide_eq_false (fun z => hκ z.symm), Bool.and_false, Bool.and_false]
  · rw [up2_n e]
set_option maxHeartbeats 1000000 in
/-- a page less -/
theorem S_remove (h : CG n V al en hs hs kn fl rg rg K B bf rf tf kf pk ow) (hn : n ≤ 32) (hp : hs k p = true)
    (e1 : ∀ i, v_root V' i = v_root V i) (e2 : ∀ i, v_len V' i = v_len V i) (e3 : ∀ i, v_buf V' i = v_buf V i) (e4 : v_spare V' = if v_hold V (kf (kn k p)) = 1 then v_spare V + 1 else v_spare V) (e5 : ∀ i, v_hold V' i = if i = kf (kn k p) then v_hold V i - 1 else v_hold V i)
    (e6 : ∀ i j, v_words V' i j = if i = tf k (p / 1024) ∧ j = p % 1024 then 0 else v_words V i j) :
    CG n V' al en (up2 hs k p false) (up2 hs k p false) kn fl rg rg K B bf rf tf kf pk ow := by
  obtain ⟨d1, d2, d3, d4, d5, d6⟩ := CG_dis h
  have hlv := fun k p => CG_live (k := k) (p := p) h
  obtain ⟨h1, h2, h3, ⟨h4, h4'⟩, h5, h6, h7, h8, h9, h10, h11⟩ := h
  obtain ⟨hk, hp18, hr, hl, hK, hpk⟩ := h5 k p hp
  have hps := shr_pos hp hk hpk
  have s1 := shr_rem1 (kn := kn) hp hk hpk
  have s2 := fun κ => shr_rem2 (hs := hs) (kn := kn) (pk := pk) (k := k) (p := p) κ
  obtain ⟨g1, g2, g3⟩ := h3 _ hK hps
  have s16 := shr_16 (hs := hs) (kn := kn) (pk := pk) (κ := kn k p)
  have hcut : ∀ k' p', up2 hs k p false k' p' = true → hs k' p' = true ∧ ¬ (k' = k ∧ p' = p) := fun k' p' a => by
    by_cases e : k' = k ∧ p' = p
    · obtain ⟨rfl, rfl⟩ := e
      rw [up2_s] at a
      cases a
    · rw [up2_n e] at a
      exact ⟨a, e⟩
  have hmin : v_hold V (kf (kn k p)) - 1 = nI (shr (up2 hs k p false) kn pk (kn k p)) := by
    rw [g3, ← s1, nI_pred]
  have hcnt : v_spare V' = nI (cnt n (fre V')) ∧ cnt n (fre V') + cnt 16 al + regs rg + cnt K (lvs (up2 hs k p false) kn pk) = n := by
    by_cases a : shr hs kn pk (kn k p) = 1
    · have c1 : cnt n (fre V') = cnt n (fre V) + 1 := by
        rw [← cnt_on (f := fre V) g1 (by unfold fre; rw [g3]; exact decide_eq_false (nI_ne0 hps (by omega)))]
        apply cnt_congr
        intro i _
        unfold fre
        by_cases e : i = kf (kn k p)
        · subst e
          rw [va_up_self, e5, if_pos rfl, hmin, show shr (up2 hs k p false) kn pk (kn k p) = 0 by omega]
          rfl
        · rw [va_up_ne _ _ e, e5, if_neg e]
      have c2 : cnt K (lvs (up2 hs k p false) kn pk) + 1 = cnt K (lvs hs kn pk) := by
        rw [← cnt_off (f := lvs hs kn pk) hK (by unfold lvs; exact decide_eq_true hps)]
        congr 1
        apply cnt_congr
        intro i _
        unfold lvs
        by_cases e : i = kn k p
        · subst e
          rw [va_up_self]
          exact decide_eq_false (by omega)
        · rw [va_up_ne _ _ e, s2 i e]
      refine ⟨?_, by omega⟩
      rw [e4, if_pos (by rw [g3, a]; rfl), h4, c1, nI_1]
    · have c1 : cnt n (fre V') = cnt n (fre V) := by
        apply cnt_congr
        intro i _
        unfold fre
        by_cases e : i = kf (kn k p)
        · subst e
          rw [e5, if_pos rfl, hmin, g3, decide_eq_false (nI_ne0 (by omega) (by omega)), decide_eq_false (nI_ne0 hps (by omega))]
        · rw [e5, if_neg e]
      have c2 : cnt K (lvs (up2 hs k p false) kn pk) = cnt K (lvs hs kn pk) := by
        apply cnt_congr
        intro i _
        unfold lvs
        by_cases e : i = kn k p
        · subst e
          rw [decide_eq_true (show 0 < shr (up2 hs k p false) kn pk (kn k p) by omega), decide_eq_true hps]
        · rw [s2 i e]
      refine ⟨?_, by omega⟩
      rw [e4, if_neg (show ¬ v_hold V (kf (kn k p)) = 1 from fun z => a ((nI_eq (b := 1) (by omega) (by decide)).mp (g3.symm.trans z))), h4, c1]
  refine ⟨fun k' hk' ha => ?_, fun k' r' hr' => ?_, fun κ hκ hs' => ?_, hcnt, fun k' p' hp' => h5 k' p' (hcut _ _ hp').1, h6, fun k' hk' => ⟨fun ha => ⟨?_, fun r' hr' => ?_⟩, fun ha => ?_⟩, fun k' r' hr' j' hj' => ?_, fun k' p' hp' o ho => ?_, fun k' hk' ha => ?_, fun j' hj' => ?_⟩
  · obtain ⟨a, b, c⟩ := h1 k' hk' ha
    exact ⟨a, b, by rw [e5, if_neg (d2 k' _ hk' ha hK hps)]; exact c⟩
  · obtain ⟨a, b, c⟩ := h2 k' r' hr'
    exact ⟨a, b, by rw [e5, if_neg (d3 k' r' _ hr' hK hps)]; exact c⟩
  · by_cases e : κ = kn k p
    · subst e
      exact ⟨g1, g2, by rw [e5, if_pos rfl, hmin]⟩
    · rw [s2 κ e] at hs' ⊢
      obtain ⟨a, b, c⟩ := h3 κ hκ hs'
      exact ⟨a, b, by rw [e5, if_neg (fun z => e (d5 _ _ hκ hK hs' hps z))]; exact c⟩
  · rw [e1]
    exact ((h7 k' hk').1 ha).1
  · rw [e6, if_neg (fun z => d1 k' k _ hk' ha hr z.1)]
    exact ((h7 k' hk').1 ha).2 r' hr'
  · rw [e1]
    exact (h7 k' hk').2 ha
  · rw [e6]
    by_cases e : tf k' r' = tf k (p / 1024) ∧ j' = p % 1024
    · obtain ⟨a, b⟩ := d4 _ _ _ _ hr' hr e.1
      rw [if_pos e]
      have : 1024 * r' + j' = p := by rw [b, e.2]; omega
      rw [this, a]
      unfold ent
      rw [up2_s]
      rfl
    · have e' : ¬ (k' = k ∧ 1024 * r' + j' = p) := fun z => e ⟨by rw [z.1, show r' = p / 1024 by omega], by omega⟩
      rw [if_neg e, h8 k' r' hr' j' hj']
      unfold ent
      rw [up2_n e']
  · obtain ⟨x, y⟩ := hcut _ _ hp'
    obtain ⟨a, b⟩ := hlv _ _ x
    rw [e6, if_neg (fun z => d3 _ _ _ hr a b z.1.symm)]
    exact h9 k' p' x o ho
  · rw [e2]
    exact h10 k' hk' ha
  · rw [e3]
    exact h11 j' hj'
set_option maxHeartbeats 1000000 in
/-- other flags -/
theorem S_flag (h : CG n V al en hs hs kn fl rg rg K B bf rf tf kf pk ow) (hp : hs k p = true) (hl : l < 16)
    (e1 : ∀ i, v_root V' i = v_root V i) (e2 : ∀ i, v_len V' i = v_len V i) (e3 : ∀ i, v_buf V' i = v_buf V i) (e4 : v_spare V' = v_spare V) (e5 : v_hold V' = v_hold V)
    (e6 : ∀ i j, v_words V' i j = if i = tf k (p / 1024) ∧ j = p % 1024 then nI (16 * (kf (kn k p) + 1) + l) else v_words V i j) :
    CG n V' al en hs hs kn (up2 fl k p l) rg rg K B bf rf tf kf pk ow := by
  obtain ⟨d1, d2, d3, d4, d5, d6⟩ := CG_dis h
  have hlv := fun k p => CG_live (k := k) (p := p) h
  obtain ⟨h1, h2, h3, ⟨h4, h4'⟩, h5, h6, h7, h8, h9, h10, h11⟩ := h
  obtain ⟨hk, hp18, hr, hl0, hK, hpk⟩ := h5 k p hp
  have hfr : fre V' = fre V := by unfold fre; rw [e5]
  refine ⟨by rw [e5]; exact h1, by rw [e5]; exact h2, by rw [e5]; exact h3, ⟨by rw [e4, hfr]; exact h4, by rw [hfr]; exact h4'⟩, fun k' p' hp' => ?_, h6, fun k' hk' => ⟨fun ha => ⟨?_, fun r' hr' => ?_⟩, fun ha => ?_⟩, fun k' r' hr' j' hj' => ?_, fun k' p' hp' o ho => ?_, fun k' hk' ha => ?_, fun j' hj' => ?_⟩
  · obtain ⟨a1, a2, a3, a4, a5, a6⟩ := h5 k' p' hp'
    refine ⟨a1, a2, a3, ?_, a5, a6⟩
    by_cases e : k' = k ∧ p' = p
    · obtain ⟨rfl, rfl⟩ := e
      rw [up2_s]
      exact hl
    · rw [up2_n e]
      exact a4
  · rw [e1]
    exact ((h7 k' hk').1 ha).1
  · rw [e6, if_neg (fun z => d1 k' k _ hk' ha hr z.1)]
    exact ((h7 k' hk').1 ha).2 r' hr'
  · rw [e1]
    exact (h7 k' hk').2 ha
  · rw [e6]
    by_cases e : tf k' r' = tf k (p / 1024) ∧ j' = p % 1024
    · obtain ⟨a, b⟩ := d4 _ _ _ _ hr' hr e.1
      rw [if_pos e]
      have : 1024 * r' + j' = p := by rw [b, e.2]; omega
      rw [this, a]
      unfold ent
      rw [if_pos hp, up2_s]
    · have e' : ¬ (k' = k ∧ 1024 * r' + j' = p) := fun z => e ⟨by rw [z.1, show r' = p / 1024 by omega], by omega⟩
      rw [if_neg e, h8 k' r' hr' j' hj']
      unfold ent
      rw [up2_n e']
  · obtain ⟨a, b⟩ := hlv _ _ hp'
    rw [e6, if_neg (fun z => d3 _ _ _ hr a b z.1.symm)]
    exact h9 k' p' hp' o ho
  · rw [e2]
    exact h10 k' hk' ha
  · rw [e3]
    exact h11 j' hj'
/-- one frame taken: one free frame less -/
theorem fre_take (hf : f < n) (hh : v_hold V f = 0) (e5 : ∀ i, v_hold V' i = if i = f then 1 else v_hold V i) : cnt n (fre V') + 1 = cnt n (fre V) := by
  have n1 : ¬ (1 : Int32) = 0 := by decide
  rw [← cnt_off (f := fre V) hf (by unfold fre; simp [hh])]
  congr 1
  apply cnt_congr
  intro i _
  unfold fre
  by_cases e : i = f
  · subst e
    rw [va_up_self, e5, if_pos rfl]
    simp [n1]
  · rw [va_up_ne _ _ e, e5, if_neg e]
/-- one frame of one holder given back -/
theorem fre_give (hf : f < n) (hh : v_hold V f = 1) (e5 : ∀ i, v_hold V' i = if i = f then 0 else v_hold V i) : cnt n (fre V') = cnt n (fre V) + 1 := by
  have n1 : ¬ (1 : Int32) = 0 := by decide
  rw [← cnt_on (f := fre V) hf (by unfold fre; rw [hh]; exact decide_eq_false n1)]
  apply cnt_congr
  intro i _
  unfold fre
  by_cases e : i = f
  · subst e
    rw [va_up_self, e5, if_pos rfl]
    rfl
  · rw [va_up_ne _ _ e, e5, if_neg e]
set_option maxHeartbeats 1000000 in
/-- a table more -/
theorem S_table (h : CG n V al en hs hs kn fl rg rg K B bf rf tf kf pk ow) (hk : k < 16) (ha : al k = true) (hr : r < 256) (h0 : rg k r = false) (hf : f < n) (hh : v_hold V f = 0)
    (e1 : ∀ i, v_root V' i = v_root V i) (e2 : ∀ i, v_len V' i = v_len V i) (e3 : ∀ i, v_buf V' i = v_buf V i) (e4 : v_spare V' = v_spare V - 1) (e5 : ∀ i, v_hold V' i = if i = f then 1 else v_hold V i)
    (e6 : ∀ i j, v_words V' i j = if i = f then 0 else if i = rf k ∧ j = r then nI (16 * (f + 1)) else v_words V i j) :
    CG n V' al en hs hs kn fl (up2 rg k r true) (up2 rg k r true) K B bf rf (up2 tf k r f) kf pk (va_up ow f (1, k, r)) := by
  obtain ⟨f1, f2, f3⟩ := CG_fresh h hh
  obtain ⟨d1, d2, d3, d4, d5, d6⟩ := CG_dis h
  have hlv := fun k p => CG_live (k := k) (p := p) h
  obtain ⟨h1, h2, h3, ⟨h4, h4'⟩, h5, h6, h7, h8, h9, h10, h11⟩ := h
  have hfre := fre_take (V' := V') hf hh e5
  have hreg := regs_on hk hr h0
  have hcut : ∀ k' r', up2 rg k r true k' r' = true → (k' = k ∧ r' = r) ∨ (rg k' r' = true ∧ ¬ (k' = k ∧ r' = r)) := fun k' r' a => by
    by_cases e : k' = k ∧ r' = r
    · exact Or.inl e
    · rw [up2_n e] at a
      exact Or.inr ⟨a, e⟩
  refine ⟨fun k' hk' ha' => ?_, fun k' r' hr' => ?_, fun κ hκ hs' => ?_, ⟨?_, ?_⟩, fun k' p' hp' => ?_, fun k' r' hr' => ?_, fun k' hk' => ⟨fun ha' => ⟨?_, fun r' hr' => ?_⟩, fun ha' => ?_⟩, fun k' r' hr' j' hj' => ?_, fun k' p' hp' o ho => ?_, fun k' hk' ha' => ?_, fun j' hj' => ?_⟩
  · obtain ⟨a, b, c⟩ := h1 k' hk' ha'
    have q := f1 k' hk' ha'
    exact ⟨a, by rw [va_up_ne _ _ q]; exact b, by rw [e5, if_neg q]; exact c⟩
  · rcases hcut _ _ hr' with ⟨rfl, rfl⟩ | ⟨x, y⟩
    · rw [up2_s, va_up_self, e5, if_pos rfl]
      exact ⟨hf, rfl, rfl⟩
    · obtain ⟨a, b, c⟩ := h2 k' r' x
      have q := f2 k' r' x
      rw [up2_n y, va_up_ne _ _ q, e5, if_neg q]
      exact ⟨a, b, c⟩
  · obtain ⟨a, b, c⟩ := h3 κ hκ hs'
    have q := f3 κ hκ hs'
    exact ⟨a, by rw [va_up_ne _ _ q]; exact b, by rw [e5, if_neg q]; exact c⟩
  · rw [e4, h4, ← hfre, nI_pred]
  · omega
  · obtain ⟨a1, a2, a3, a4⟩ := h5 k' p' hp'
    refine ⟨a1, a2, ?_, a4⟩
    by_cases e : k' = k ∧ p' / 1024 = r
    · unfold up2
      rw [if_pos e]
    · rw [up2_n e]
      exact a3
  · rcases hcut _ _ hr' with ⟨rfl, rfl⟩ | ⟨x, y⟩
    · exact ⟨hk, hr, ha⟩
    · exact h6 k' r' x
  · rw [e1]
    exact ((h7 k' hk').1 ha').1
  · rw [e6, if_neg (f1 k' hk' ha')]
    by_cases e : k' = k ∧ r' = r
    · obtain ⟨rfl, rfl⟩ := e
      rw [if_pos ⟨rfl, rfl⟩, up2_s, up2_s, if_pos rfl]
    · rw [if_neg (fun z => e ⟨d6 _ _ hk' hk ha' ha z.1, z.2⟩), up2_n e, up2_n e]
      exact ((h7 k' hk').1 ha').2 r' hr'
  · rw [e1]
    exact (h7 k' hk').2 ha'
  · rcases hcut _ _ hr' with ⟨rfl, rfl⟩ | ⟨x, y⟩
    · rw [up2_s, e6, if_pos rfl]
      unfold ent
      rw [if_neg]
      intro z
      have := (h5 _ _ z).2.2.1
      rw [show (1024 * r' + j') / 1024 = r' by omega, h0] at this
      cases this
    · rw [up2_n y, e6, if_neg (f2 _ _ x), if_neg (fun z => d1 k _ _ hk ha x z.1.symm)]
      exact h8 k' r' x j' hj'
  · obtain ⟨a, b⟩ := hlv _ _ hp'
    rw [e6, if_neg (f3 _ a b), if_neg (fun z => d2 _ _ hk ha a b z.1.symm)]
    exact h9 k' p' hp' o ho
  · rw [e2]
    exact h10 k' hk' ha'
  · rw [e3]
    exact h11 j' hj'
set_option maxHeartbeats 1000000 in
/-- a space more -/
theorem S_root (h : CG n V al en hs hs kn fl rg rg K B bf rf tf kf pk ow) (hk : k < 16) (ha : al k = false) (he : e ≤ 2 ^ 30) (hf : f < n) (hh : v_hold V f = 0)
    (e1 : ∀ i, v_root V' i = if i = k then nI f else v_root V i) (e2 : ∀ i, v_len V' i = if i = k then nI e else v_len V i) (e3 : ∀ i, v_buf V' i = v_buf V i) (e4 : v_spare V' = v_spare V - 1) (e5 : ∀ i, v_hold V' i = if i = f then 1 else v_hold V i)
    (e6 : ∀ i j, v_words V' i j = if i = f then 0 else v_words V i j) :
    CG n V' (va_up al k true) (va_up en k e) hs hs kn fl rg rg K B bf (va_up rf k f) tf kf pk (va_up ow f (0, k, 0)) := by
  obtain ⟨f1, f2, f3⟩ := CG_fresh h hh
  have hlv := fun k p => CG_live (k := k) (p := p) h
  obtain ⟨h1, h2, h3, ⟨h4, h4'⟩, h5, h6, h7, h8, h9, h10, h11⟩ := h
  have hfre := fre_take (V' := V') hf hh e5
  have hal := cnt_on hk ha
  have hcut : ∀ k', va_up al k true k' = true → k' = k ∨ (al k' = true ∧ k' ≠ k) := fun k' a => by
    by_cases e : k' = k
    · exact Or.inl e
    · rw [va_up_ne _ _ e] at a
      exact Or.inr ⟨a, e⟩
  refine ⟨fun k' hk' ha' => ?_, fun k' r' hr' => ?_, fun κ hκ hs' => ?_, ⟨?_, ?_⟩, h5, fun k' r' hr' => ?_, fun k' hk' => ⟨fun ha' => ?_, fun ha' => ?_⟩, fun k' r' hr' j' hj' => ?_, fun k' p' hp' o ho => ?_, fun k' hk' ha' => ?_, fun j' hj' => ?_⟩
  · rcases hcut _ ha' with rfl | ⟨x, y⟩
    · rw [va_up_self, va_up_self, e5, if_pos rfl]
      exact ⟨hf, rfl, rfl⟩
    · obtain ⟨a, b, c⟩ := h1 k' hk' x
      have q := f1 k' hk' x
      rw [va_up_ne _ _ y, va_up_ne _ _ q, e5, if_neg q]
      exact ⟨a, b, c⟩
  · obtain ⟨a, b, c⟩ := h2 k' r' hr'
    have q := f2 k' r' hr'
    exact ⟨a, by rw [va_up_ne _ _ q]; exact b, by rw [e5, if_neg q]; exact c⟩
  · obtain ⟨a, b, c⟩ := h3 κ hκ hs'
    have q := f3 κ hκ hs'
    exact ⟨a, by rw [va_up_ne _ _ q]; exact b, by rw [e5, if_neg q]; exact c⟩
  · rw [e4, h4, ← hfre, nI_pred]
  · omega
  · obtain ⟨a, b, c⟩ := h6 k' r' hr'
    refine ⟨a, b, ?_⟩
    by_cases e : k' = k
    · subst e
      exact va_up_self _ _ _
    · rw [va_up_ne _ _ e]
      exact c
  · rcases hcut _ ha' with rfl | ⟨x, y⟩
    · rw [va_up_self, e1, if_pos rfl]
      refine ⟨rfl, fun r' hr' => ?_⟩
      rw [e6, if_pos rfl, if_neg]
      intro z
      have z2 := (h6 _ _ z).2.2
      rw [ha] at z2
      cases z2
    · rw [va_up_ne _ _ y, e1, if_neg y]
      refine ⟨((h7 k' hk').1 x).1, fun r' hr' => ?_⟩
      rw [e6, if_neg (f1 k' hk' x)]
      exact ((h7 k' hk').1 x).2 r' hr'
  · have y : k' ≠ k := fun z => by
      subst z
      rw [va_up_self] at ha'
      cases ha'
    rw [va_up_ne _ _ y] at ha'
    rw [e1, if_neg y]
    exact (h7 k' hk').2 ha'
  · rw [e6, if_neg (f2 _ _ hr')]
    exact h8 k' r' hr' j' hj'
  · obtain ⟨a, b⟩ := hlv _ _ hp'
    rw [e6, if_neg (f3 _ a b)]
    exact h9 k' p' hp' o ho
  · rcases hcut _ ha' with rfl | ⟨x, y⟩
    · rw [e2, if_pos rfl, va_up_self]
      exact ⟨rfl, he⟩
    · rw [e2, if_neg y, va_up_ne _ _ y]
      exact h10 k' hk' x
  · rw [e3]
    exact h11 j' hj'
end ST
