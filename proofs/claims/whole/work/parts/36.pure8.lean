/-- a region has a page -/
def hpi (hs : Nat → Nat → Bool) (q r : Nat) : Bool := decide (0 < cnt 1024 (fun j => hs q (1024 * r + j)))
theorem hpi_t {hs : Nat → Nat → Bool} {q r : Nat} : hpi hs q r = true ↔ ∃ p, p / 1024 = r ∧ hs q p = true := by
  unfold hpi
  rw [decide_eq_true_iff]
  refine ⟨fun h => ?_, fun ⟨p, a, b⟩ => ?_⟩
  · obtain ⟨j, hj, e⟩ := cnt_some h
    exact ⟨1024 * r + j, by omega, e⟩
  · exact cnt_pos (i := p % 1024) (by omega) (by
      show hs q (1024 * r + p % 1024) = true
      rw [show 1024 * r + p % 1024 = p by omega]
      exact b)
theorem cnt_ge {f : Nat → Bool} : ∀ {a b : Nat}, a ≤ b → cnt a f ≤ cnt b f := by
  intro a b h
  induction b with
  | zero => rw [show a = 0 by omega]; exact Nat.le_refl _
  | succ b ih =>
    rcases Nat.lt_or_ge b a with c | c
    · rw [show a = b + 1 by omega]; exact Nat.le_refl _
    · rw [cnt]
      have := ih c
      omega
/-- one row as another -/
def cpy {α : Type} (f : Nat → Nat → α) (k q : Nat) : Nat → Nat → α := fun k' x => if k' = k then f q x else f k' x
theorem cpy_s {α : Type} {f : Nat → Nat → α} {k q x : Nat} : cpy f k q k x = f q x := if_pos rfl
theorem cpy_n {α : Type} {f : Nat → Nat → α} {k q k' x : Nat} (h : k' ≠ k) : cpy f k q k' x = f k' x := if_neg h
def cpr (rg hs : Nat → Nat → Bool) (k q : Nat) : Nat → Nat → Bool := fun k' r => if k' = k then hpi hs q r else rg k' r
theorem cpr_s {rg hs : Nat → Nat → Bool} {k q r : Nat} : cpr rg hs k q k r = hpi hs q r := if_pos rfl
theorem cpr_n {rg hs : Nat → Nat → Bool} {k q k' r : Nat} (h : k' ≠ k) : cpr rg hs k q k' r = rg k' r := if_neg h
section ST
variable {n : Nat} {V V' : VS} {al : Nat → Bool} {en : Nat → Nat} {hs hw : Nat → Nat → Bool} {kn fl : Nat → Nat → Nat} {rg rw : Nat → Nat → Bool} {K : Nat} {B B' : Nat → Nat → Int32} {bf bf' : Nat → Int32} {rf : Nat → Nat} {tf : Nat → Nat → Nat} {kf pk : Nat → Nat} {ow : Nat → Nat × Nat × Nat} {k p f l r j q e A : Nat} {W : Nat → Int32}
theorem hp_h (h : CG n V al en hs hs kn fl rg rg K B bf rf tf kf pk ow) (hn : n ≤ 32) (hr : rg q r = true) : ∀ (m j : Nat), j ≤ 1024 → 1024 - j < m → (∀ i, i < j → hs q (1024 * r + i) = false) → j_S_hasPageIn_h8 n m V q (nI (tf q r)) (nI j) = if hpi hs q r = true then 1 else 0 := by
  have e1024 : (1024 : Int32) = nI 1024 := rfl
  intro m
  induction m with
  | zero => intro j _ h; exact absurd h (Nat.not_lt_zero _)
  | succ m ih =>
    intro j hj hm h0
    have ht := (h.2.1 _ _ hr).1
    rw [j_S_hasPageIn_h8, if_neg (nI_m1 (by omega)), e1024]
    by_cases c : j = 1024
    · subst c
      rw [if_pos (nI_le (Nat.le_refl _) (by decide)), if_neg]
      intro z
      obtain ⟨p, a, b⟩ := hpi_t.mp z
      have := h0 (p % 1024) (by omega)
      rw [show 1024 * r + p % 1024 = p by omega, b] at this
      cases this
    · rw [if_neg (nI_ge (by omega) (by decide)), word_nI hn ht (by omega), h.2.2.2.2.2.2.2.1 _ _ hr j (by omega), nI_1]
      by_cases a : hs q (1024 * r + j) = true
      · rw [if_neg ((L_ent0 h hn).2 a).1, if_pos (hpi_t.mpr ⟨_, by omega, a⟩)]
      · have a' : hs q (1024 * r + j) = false := by simpa using a
        rw [if_pos ((L_ent0 h hn).1 a')]
        refine ih (j + 1) (by omega) (by omega) (fun i hi => ?_)
        by_cases e : i = j
        · rw [e]; exact a'
        · exact h0 i (by omega)
theorem L_hasP (h : CG n V al en hs hs kn fl rg rg K B bf rf tf kf pk ow) (hn : n ≤ 32) (hq : q < 16) (ha : al q = true) (hr : r < 256) : j_S_hasPageIn n V q (nI r) = if hpi hs q r = true then 1 else 0 := by
  unfold j_S_hasPageIn
  rw [L_table h hn hq ha hr id]
  by_cases c : rg q r = true
  · rw [if_pos c]
    have := hp_h h hn c 1025 0 (by omega) (by omega) (fun i hi => by omega)
    rw [nI_0] at this
    exact this
  · rw [if_neg c, j_S_hasPageIn_h8, if_pos rfl, if_neg]
    intro z
    obtain ⟨p, a, b⟩ := hpi_t.mp z
    have := (h.2.2.2.2.1 _ _ b).2.2.1
    rw [a] at this
    exact c this
theorem fc_h (h : CG n V al en hs hs kn fl rg rg K B bf rf tf kf pk ow) (hn : n ≤ 32) (hq : q < 16) (ha : al q = true) : ∀ (m i : Nat), i ≤ 256 → 256 - i < m → j_S_framesOfCopy_h4 n m V q (nI (1 + cnt i (hpi hs q))) (nI i) = nI (1 + cnt 256 (hpi hs q)) := by
  have e256 : (256 : Int32) = nI 256 := rfl
  intro m
  induction m with
  | zero => intro j _ h; exact absurd h (Nat.not_lt_zero _)
  | succ m ih =>
    intro i hi hm
    rw [j_S_framesOfCopy_h4, e256]
    by_cases c : i = 256
    · subst c
      rw [if_pos (nI_le (Nat.le_refl _) (by decide))]
    · rw [if_neg (nI_ge (by omega) (by decide)), L_hasP h hn hq ha (by omega), nI_1, nI_1]
      have hi1 := ih (i + 1) (by omega) (by omega)
      rw [cnt] at hi1
      by_cases g : hpi hs q i = true
      · rw [if_pos g] at hi1 ⊢
        rw [if_neg (by decide)]
        exact hi1
      · rw [if_neg g] at hi1 ⊢
        rw [if_pos rfl]
        exact hi1
theorem L_frames (h : CG n V al en hs hs kn fl rg rg K B bf rf tf kf pk ow) (hn : n ≤ 32) (hq : q < 16) (ha : al q = true) : j_S_framesOfCopy n V q = nI (1 + cnt 256 (hpi hs q)) := by
  have := fc_h h hn hq ha 257 0 (by omega) (by omega)
  rw [nI_0] at this
  exact this
/-- the least unused -/
theorem lun_h (h : CG n V al en hs hs kn fl rg rg K B bf rf tf kf pk ow) (hn : n ≤ 32) : ∀ (m i : Nat), i ≤ 16 → 16 - i < m → (∀ j, j < i → al j = true) → (∃ k, k < 16 ∧ al k = false ∧ (∀ j, j < k → al j = true) ∧ j_V_leastUnused_h2 m V (nI i) = nI k) ∨ ((∀ j, j < 16 → al j = true) ∧ j_V_leastUnused_h2 m V (nI i) = -1) := by
  have e16 : (16 : Int32) = nI 16 := rfl
  intro m
  induction m with
  | zero => intro j _ h; exact absurd h (Nat.not_lt_zero _)
  | succ m ih =>
    intro i hi hm h0
    rw [j_V_leastUnused_h2, e16]
    by_cases c : i = 16
    · subst c
      rw [if_pos (nI_le (Nat.le_refl _) (by decide))]
      exact Or.inr ⟨h0, rfl⟩
    · rw [if_neg (nI_ge (by omega) (by decide)), nI_clamp (by omega), nI_1]
      obtain ⟨o1, o2⟩ := L_open h hn (show i < 16 by omega)
      cases a : al i with
      | false =>
        rw [o2 a, if_pos rfl]
        exact Or.inl ⟨i, by omega, a, h0, rfl⟩
      | true =>
        rw [o1 a, if_neg (by decide)]
        exact ih (i + 1) (by omega) (by omega) (fun j hj => by
          by_cases e : j = i
          · rw [e]; exact a
          · exact h0 j (by omega))
theorem L_unused (h : CG n V al en hs hs kn fl rg rg K B bf rf tf kf pk ow) (hn : n ≤ 32) : (∃ k, k < 16 ∧ al k = false ∧ (∀ j, j < k → al j = true) ∧ j_V_leastUnused V = nI k) ∨ ((∀ j, j < 16 → al j = true) ∧ j_V_leastUnused V = -1) := by
  have := lun_h h hn 17 0 (by omega) (by omega) (fun j hj => by omega)
  rw [nI_0] at this
  exact this
/-- a space opened -/
theorem C_open (h : CG n V al en hs hs kn fl rg rg K B bf rf tf kf pk ow) (hn : n ≤ 32) (hk : k < 16) (ha : al k = false) (he : e ≤ 2 ^ 30) (hc : 0 < cnt n (fre V)) :
    ∃ f ow' V', j_S_open n V k (nI e) = V' ∧ v_trap V' = v_trap V ∧ CG n V' (va_up al k true) (va_up en k e) hs hs kn fl rg rg K B bf (va_up rf k f) tf kf pk ow' := by
  obtain ⟨f, hf, hh, ht⟩ := (L_take h hn).1 hc
  refine ⟨f, _, _, rfl, ?_, S_root (e := e) h hk ha he hf hh ?_ ?_ ?_ ?_ ?_ ?_⟩
  all_goals unfold j_S_open
  all_goals rw [ht]
  · rfl
  · exact fun i => rfl
  · exact fun i => rfl
  · exact fun i => rfl
  · rfl
  · exact fun i => rfl
  · intro i j
    show v_words (s_row _ f (fun _ => 0)) i j = _
    rw [w_row]
    rfl
/-- what a space without pages would say of them -/
theorem S_pre (h : CG n V al en hs hs kn fl rg rg K B bf rf tf kf pk ow) (h0 : ∀ p, hs k p = false) : CG n V al en hs hs (cpy kn k q) (cpy fl k q) rg rg K (cpy B k q) bf rf tf kf pk ow := by
  have hne : ∀ k' p, hs k' p = true → k' ≠ k := fun k' p a e => by
    rw [e, h0] at a
    cases a
  have hsh : ∀ κ, shr hs (cpy kn k q) pk κ = shr hs kn pk κ := fun κ => cnt_congr (fun i _ => by
    by_cases e : i = k
    · rw [e, h0]
      rfl
    · rw [cpy_n e])
  have hlv : lvs hs (cpy kn k q) pk = lvs hs kn pk := by
    funext κ
    unfold lvs
    rw [hsh]
  obtain ⟨h1, h2, h3, h4, h5, h6, h7, h8, h9, h10, h11⟩ := h
  refine ⟨h1, h2, fun κ hκ hp => ?_, ?_, fun k' p hp => ?_, h6, h7, fun k' r' hr' j' hj' => ?_, fun k' p hp o ho => ?_, h10, h11⟩
  · rw [hsh] at hp ⊢
    exact h3 κ hκ hp
  · rw [hlv]
    exact h4
  · rw [cpy_n (hne _ _ hp), cpy_n (hne _ _ hp)]
    exact h5 k' p hp
  · rw [h8 k' r' hr' j' hj']
    unfold ent
    by_cases a : hs k' (1024 * r' + j') = true
    · rw [if_pos a, if_pos a, cpy_n (hne _ _ a), cpy_n (hne _ _ a)]
    · rw [if_neg a, if_neg a]
  · rw [cpy_n (hne _ _ hp), cpy_n (hne _ _ hp)]
    exact h9 k' p hp o ho
/-- the pages copied so far, below c -/
def fkh (hs : Nat → Nat → Bool) (k q c : Nat) : Nat → Nat → Bool := fun k' p' => if k' = k then hs q p' && decide (p' < c) else hs k' p'
def fkr (rg hs : Nat → Nat → Bool) (k q c : Nat) : Nat → Nat → Bool := fun k' r' => if k' = k then hpi hs q r' && decide (r' < c) else rg k' r'
theorem fkh_up {hs : Nat → Nat → Bool} {k q c : Nat} (h : hs q c = true) : fkh hs k q (c + 1) = up2 (fkh hs k q c) k c true := by
  funext k' p'
  by_cases e : k' = k ∧ p' = c
  · obtain ⟨rfl, rfl⟩ := e
    rw [up2_s]
    unfold fkh
    rw [if_pos rfl, h]
    simp
  · rw [up2_n e]
    unfold fkh
    by_cases g : k' = k
    · rw [if_pos g, if_pos g]
      congr 1
      rw [decide_eq_decide]
      omega
    · rw [if_neg g, if_neg g]
theorem fkh_no {hs : Nat → Nat → Bool} {k q c : Nat} (h : hs q c = false) : fkh hs k q (c + 1) = fkh hs k q c := by
  funext k' p'
  unfold fkh
  by_cases g : k' = k
  · rw [if_pos g, if_pos g]
    by_cases e : p' = c
    · rw [e, h]
      rfl
    · congr 1
      rw [decide_eq_decide]
      omega
  · rw [if_neg g, if_neg g]
set_option maxHeartbeats 1000000 in
theorem sh_h (hn : n ≤ 32) (hk : k < 16) (hkq : q ≠ k) (hr : rg k r = true) (hkn : ∀ p, kn k p = kn q p) (hfl : ∀ p, fl k p = fl q p) (hB : ∀ A, B k A = B q A) (hw' : ∀ j, j < 1024 → hw k (1024 * r + j) = hs q (1024 * r + j)) : ∀ (m j : Nat) (V : VS), j ≤ 1024 → 1024 - j < m → CG n V al en (fkh hs k q (1024 * r + j)) hw kn fl rg rg K B bf rf tf kf pk ow →
    ∃ V', j_S_shareRegion_h22 n m V k (nI (tf k r)) (nI j) = V' ∧ v_trap V' = v_trap V ∧ CG n V' al en (fkh hs k q (1024 * (r + 1))) hw kn fl rg rg K B bf rf tf kf pk ow := by
  have e1024 : (1024 : Int32) = nI 1024 := rfl
  intro m
  induction m with
  | zero => intro j V _ h; exact absurd h (Nat.not_lt_zero _)
  | succ m ih =>
    intro j V hj hm h
    have ht := (h.2.1 _ _ hr).1
    rw [j_S_shareRegion_h22, e1024]
    by_cases c : j = 1024
    · subst c
      rw [if_pos (nI_le (Nat.le_refl _) (by decide))]
      exact ⟨V, rfl, rfl, by rw [show 1024 * (r + 1) = 1024 * r + 1024 by omega]; exact h⟩
    · rw [if_neg (nI_ge (by omega) (by decide)), word_nI hn ht (by omega), h.2.2.2.2.2.2.2.1 _ _ hr j (by omega), nI_1]
      have hwj := hw' j (by omega)
      by_cases a : hs q (1024 * r + j) = true
      · have aq : fkh hs k q (1024 * r + j) q (1024 * r + j) = true := by
          unfold fkh
          rw [if_neg hkq]
          exact a
        have ak : fkh hs k q (1024 * r + j) k (1024 * r + j) = false := by
          unfold fkh
          rw [if_pos rfl]
          simp
        obtain ⟨hK, hps⟩ := CG_live h aq
        obtain ⟨g1, g2, g3⟩ := h.2.2.1 _ hK hps
        have hl := (h.2.2.2.2.1 _ _ aq).2.2.2.1
        unfold ent
        rw [hwj, if_pos a, hkn, hfl, (en_dec (kf (kn q (1024 * r + j))) (by omega) _ hl).2.1]
        have hst := S_hold (V' := s_hold V (kf (kn q (1024 * r + j))) (v_hold V (kf (kn q (1024 * r + j))) + 1)) h hk ak aq (by rw [show (1024 * r + j) / 1024 = r by omega]; exact hr) (hkn _) (hfl _) (fun o _ => hB _) rfl rfl rfl rfl (fun i => by
          show (if i = kf (kn q (1024 * r + j)) then _ else _) = _
          by_cases e : i = kf (kn q (1024 * r + j))
          · rw [if_pos e, if_pos e, e]
          · rw [if_neg e, if_neg e]
            rfl) rfl
        rw [← fkh_up a] at hst
        unfold j_F_hold
        rw [isF_nI hn g1, if_neg (by decide), nI_clamp (by omega)]
        obtain ⟨V2, p1, p2, p3⟩ := ih (j + 1) _ (by omega) (by omega) hst
        exact ⟨V2, p1, p2, p3⟩
      · have a' : hs q (1024 * r + j) = false := by simpa using a
        unfold ent
        rw [hwj, if_neg a, en_0]
        unfold j_F_hold
        rw [isF_m1, if_pos rfl]
        refine ih (j + 1) V (by omega) (by omega) ?_
        rw [show 1024 * r + (j + 1) = 1024 * r + j + 1 by omega, fkh_no a']
        exact h
set_option maxHeartbeats 2000000 in
theorem fk_h (hn : n ≤ 32) (hk : k < 16) (ha : al k = true) (hq : q < 16) (haq : al q = true) (hkq : q ≠ k) (hkn : ∀ p, kn k p = kn q p) (hfl : ∀ p, fl k p = fl q p) (hB : ∀ A, B k A = B q A) : ∀ (m r : Nat) (V : VS) (tf : Nat → Nat → Nat) (ow : Nat → Nat × Nat × Nat), r ≤ 256 → 256 - r < m → cnt 256 (hpi hs q) ≤ cnt n (fre V) + cnt r (hpi hs q) → CG n V al en (fkh hs k q (1024 * r)) (fkh hs k q (1024 * r)) kn fl (fkr rg hs k q r) (fkr rg hs k q r) K B bf rf tf kf pk ow →
    ∃ V' tf' ow', j_S_openAsCopy_h10 n m V k q (nI r) = V' ∧ v_trap V' = v_trap V ∧ CG n V' al en (fkh hs k q (2 ^ 18)) (fkh hs k q (2 ^ 18)) kn fl (fkr rg hs k q 256) (fkr rg hs k q 256) K B bf rf tf' kf pk ow' := by
  have e256 : (256 : Int32) = nI 256 := rfl
  intro m
  induction m with
  | zero => intro r V tf ow _ h; exact absurd h (Nat.not_lt_zero _)
  | succ m ih =>
    intro r V tf ow hr hm hc h
    rw [j_S_openAsCopy_h10, e256]
    by_cases c : r = 256
    · subst c
      rw [if_pos (nI_le (Nat.le_refl _) (by decide))]
      exact ⟨V, tf, ow, rfl, rfl, h⟩
    · have hfq : ∀ c p, fkh hs k q c q p = hs q p := fun c p => by
        unfold fkh
        rw [if_neg hkq]
      have hpq : hpi (fkh hs k q (1024 * r)) q r = hpi hs q r := by
        unfold hpi
        simp only [hfq]
      rw [if_neg (nI_ge (by omega) (by decide)), L_hasP h hn hq haq (by omega), hpq, nI_1]
      by_cases g : hpi hs q r = true
      · rw [if_pos g, if_neg (by decide)]
        have hk0 : fkr rg hs k q r k r = false := by
          unfold fkr
          rw [if_pos rfl]
          simp
        have hcr : cnt (r + 1) (hpi hs q) = cnt r (hpi hs q) + 1 := by
          rw [cnt, if_pos g]
        have hcm := cnt_ge (f := hpi hs q) (show r + 1 ≤ 256 by omega)
        obtain ⟨f, V1, a1, a2, a3, a4⟩ := C_table h hn hk ha (show r < 256 by omega) hk0 (by omega)
        have hrg : up2 (fkr rg hs k q r) k r true = fkr rg hs k q (r + 1) := by
          funext k' r'
          by_cases e : k' = k ∧ r' = r
          · obtain ⟨rfl, rfl⟩ := e
            rw [up2_s]
            unfold fkr
            rw [if_pos rfl, g]
            simp
          · rw [up2_n e]
            unfold fkr
            by_cases y : k' = k
            · rw [if_pos y, if_pos y]
              congr 1
              rw [decide_eq_decide]
              omega
            · rw [if_neg y, if_neg y]
        have hreg := regs_on hk (show r < 256 by omega) hk0
        have hfree : cnt n (fre V1) + 1 = cnt n (fre V) := by
          have x1 := h.2.2.2.1.2
          have x2 := a4.2.2.2.1.2
          omega
        rw [hrg] at a4
        obtain ⟨p0, b1, b2⟩ := hpi_t.mp g
        have hrq : fkr rg hs k q (r + 1) q r = true := by
          have := (a4.2.2.2.2.1 q p0 (by rw [hfq]; exact b2)).2.2.1
          rw [b1] at this
          exact this
        have hrk : fkr rg hs k q (r + 1) k r = true := by
          unfold fkr
          rw [if_pos rfl, g]
          simp
        have htq : up2 tf k r f q r = tf q r := up2_n (fun z => hkq z.1)
        have htqn : tf q r < n := by
          have := (a4.2.1 q r hrq).1
          rw [htq] at this
          exact this
        have hcp := S_copy (k := k) (q := q) (r := r) (V' := s_row V1 f (v_words V1 (tf q r))) a4 hrk hrq hkn hfl rfl rfl rfl rfl rfl (fun i j => by rw [w_row, up2_s, htq])
        have hfix : (fun k' p' => if k' = k ∧ p' / 1024 = r then fkh hs k q (1024 * r) q p' else fkh hs k q (1024 * r) k' p') = fkh hs k q (1024 * (r + 1)) := by
          funext k' p'
          rw [hfq]
          unfold fkh
          by_cases y : k' = k
          · rw [if_pos y, if_pos y]
            by_cases y2 : p' / 1024 = r
            · rw [if_pos ⟨y, y2⟩, decide_eq_true (by omega)]
              simp
            · rw [if_neg (fun z => y2 z.2)]
              congr 1
              rw [decide_eq_decide]
              omega
          · rw [if_neg (fun z => y z.1), if_neg y, if_neg y]
        rw [hfix] at hcp
        have hsh := sh_h (hs := hs) (q := q) (r := r) (tf := up2 tf k r f) hn hk hkq hrk hkn hfl hB (fun j hj => by
          unfold fkh
          rw [if_pos rfl, decide_eq_true (by omega)]
          simp) 1025 0 _ (by omega) (by omega) hcp
        obtain ⟨V2, p1, p2, p3⟩ := hsh
        rw [up2_s, nI_0] at p1
        have hV2 : j_S_shareRegion n V k q (nI r) = V2 := by
          unfold j_S_shareRegion
          rw [a2]
          show j_S_shareRegion_h22 n 1025 (j_F_copyWords n V1 (j_S_tableOf n V1 q (nI r)) (nI f)) k (nI f) 0 = V2
          rw [L_table a4 hn hq haq (by omega) id, if_pos hrq, htq, L_copyW hn htqn a1]
          exact p1
        rw [hV2]
        have hfree2 : cnt n (fre V2) = cnt n (fre V1) := by
          have x1 := a4.2.2.2.1.2
          have x2 := p3.2.2.2.1.2
          have x3 : lvs (fkh hs k q (1024 * (r + 1))) kn pk = lvs (fkh hs k q (1024 * r)) kn pk := by
            funext κ
            unfold lvs
            rw [decide_eq_decide]
            refine ⟨fun z => ?_, fun z => ?_⟩
            · obtain ⟨i, hi, y⟩ := cnt_some z
              rw [Bool.and_eq_true] at y
              obtain ⟨y1, y2⟩ := y
              by_cases e : i = k
              · subst e
                refine cnt_pos (i := q) hq ?_
                rw [hfq]
                have y3 : hs q (pk κ) = true := by
                  unfold fkh at y1
                  rw [if_pos rfl, Bool.and_eq_true] at y1
                  exact y1.1
                rw [y3, ← hkn]
                simpa using y2
              · refine cnt_pos (i := i) hi ?_
                unfold fkh at y1 ⊢
                rw [if_neg e] at y1 ⊢
                rw [y1]
                simpa using y2
            · obtain ⟨i, hi, y⟩ := cnt_some z
              rw [Bool.and_eq_true] at y
              obtain ⟨y1, y2⟩ := y
              refine cnt_pos (i := i) hi ?_
              have : fkh hs k q (1024 * (r + 1)) i (pk κ) = true := by
                unfold fkh at y1 ⊢
                by_cases e : i = k
                · rw [if_pos e] at y1 ⊢
                  rw [Bool.and_eq_true] at y1 ⊢
                  have := of_decide_eq_true y1.2
                  exact ⟨y1.1, decide_eq_true (by omega)⟩
                · rw [if_neg e] at y1 ⊢
                  exact y1
              rw [this]
              simpa using y2
          rw [x3] at x2
          omega
        obtain ⟨V3, tf3, ow3, r1, r2, r3⟩ := ih (r + 1) V2 _ _ (by omega) (by omega) (by omega) p3
        refine ⟨V3, tf3, ow3, r1, ?_, r3⟩
        rw [r2, p2]
        exact a3
      · have hcr : cnt (r + 1) (hpi hs q) = cnt r (hpi hs q) := by
          rw [cnt, if_neg g]
          rfl
        rw [if_neg g, if_pos rfl]
        refine ih (r + 1) V tf ow (by omega) (by omega) (by omega) ?_
        have e1 : fkh hs k q (1024 * (r + 1)) = fkh hs k q (1024 * r) := by
          funext k' p'
          unfold fkh
          by_cases y : k' = k
          · rw [if_pos y, if_pos y]
            cases z : hs q p' with
            | false => rfl
            | true =>
              congr 1
              rw [decide_eq_decide]
              have : ¬ p' / 1024 = r := fun z2 => g (hpi_t.mpr ⟨p', z2, z⟩)
              omega
          · rw [if_neg y, if_neg y]
        have e2 : fkr rg hs k q (r + 1) = fkr rg hs k q r := by
          funext k' r'
          unfold fkr
          by_cases y : k' = k
          · rw [if_pos y, if_pos y]
            by_cases z : r' = r
            · have g' : hpi hs q r = false := by simpa using g
              rw [z, g']
              rfl
            · congr 1
              rw [decide_eq_decide]
              omega
          · rw [if_neg y, if_neg y]
        rw [e1, e2]
        exact h
set_option maxHeartbeats 1000000 in
/-- the vault's openAsCopy -/
theorem C_copy (h : CG n V al en hs hs kn fl rg rg K B bf rf tf kf pk ow) (hn : n ≤ 32) (hk : k < 16) (ha : al k = false) (hq : q < 16) (haq : al q = true) (hc : 1 + cnt 256 (hpi hs q) ≤ cnt n (fre V)) :
    ∃ V' rf' tf' ow', j_S_openAsCopy n V k q = V' ∧ v_trap V' = v_trap V ∧ CG n V' (va_up al k true) (va_up en k (en q)) (cpy hs k q) (cpy hs k q) (cpy kn k q) (cpy fl k q) (cpr rg hs k q) (cpr rg hs k q) K (cpy B k q) bf rf' tf' kf pk ow' := by
  have hkq : q ≠ k := fun e => by
    rw [e, ha] at haq
    cases haq
  obtain ⟨hle, hen⟩ := h.2.2.2.2.2.2.2.2.2.1 q hq haq
  have hs0 : ∀ p, hs k p = false := fun p => by
    cases z : hs k p with
    | false => rfl
    | true =>
      have z1 := (h.2.2.2.2.2.1 _ _ (h.2.2.2.2.1 _ _ z).2.2.1).2.2
      rw [ha] at z1
      cases z1
  have rg0 : ∀ r, rg k r = false := fun r => by
    cases z : rg k r with
    | false => rfl
    | true =>
      have z1 := (h.2.2.2.2.2.1 _ _ z).2.2
      rw [ha] at z1
      cases z1
  obtain ⟨f, ow1, V1, a1, a2, a3⟩ := C_open (k := k) (e := en q) h hn hk ha hen (by omega)
  have hal : cnt 16 (va_up al k true) = cnt 16 al + 1 := cnt_on hk ha
  have hfree : cnt n (fre V1) + 1 = cnt n (fre V) := by
    have x1 := h.2.2.2.1.2
    have x2 := a3.2.2.2.1.2
    omega
  have a4 := S_pre (k := k) (q := q) a3 hs0
  have e1 : fkh hs k q (1024 * 0) = hs := by
    funext k' p
    unfold fkh
    by_cases y : k' = k
    · rw [if_pos y, y, hs0]
      simp
    · rw [if_neg y]
  have e2 : fkr rg hs k q 0 = rg := by
    funext k' p
    unfold fkr
    by_cases y : k' = k
    · rw [if_pos y, y, rg0]
      simp
    · rw [if_neg y]
  obtain ⟨V2, tf2, ow2, b1, b2, b3⟩ := fk_h (al := va_up al k true) (kn := cpy kn k q) (fl := cpy fl k q) (B := cpy B k q) (hs := hs) (rg := rg) (k := k) (q := q) hn hk (va_up_self _ _ _) hq (by rw [va_up_ne _ _ hkq]; exact haq) hkq (fun p => by rw [cpy_s, cpy_n hkq]) (fun p => by rw [cpy_s, cpy_n hkq]) (fun p => by rw [cpy_s, cpy_n hkq]) 257 0 V1 tf ow1 (by omega) (by omega) (by omega) (by rw [e1, e2]; exact a4)
  have e3 : fkh hs k q (2 ^ 18) = (cpy hs k q) := by
    funext k' p
    unfold fkh cpy
    by_cases y : k' = k
    · rw [if_pos y, if_pos y]
      cases z : hs q p with
      | false => rfl
      | true =>
        rw [decide_eq_true (h.2.2.2.2.1 _ _ z).2.1]
        rfl
    · rw [if_neg y, if_neg y]
  have e4 : fkr rg hs k q 256 = (cpr rg hs k q) := by
    funext k' r
    unfold fkr cpr
    by_cases y : k' = k
    · rw [if_pos y, if_pos y]
      cases z : hpi hs q r with
      | false => rfl
      | true =>
        obtain ⟨p, z1, z2⟩ := hpi_t.mp z
        have := (h.2.2.2.2.1 _ _ z2).2.1
        rw [decide_eq_true (by omega)]
        rfl
    · rw [if_neg y, if_neg y]
  rw [e3, e4] at b3
  refine ⟨V2, _, tf2, ow2, ?_, by rw [b2, a2], b3⟩
  unfold j_S_openAsCopy
  rw [hle, a1, ← nI_0]
  exact b1
end ST
