/-! the reference's side -/
def AB (al : Nat → Bool) (hs : Nat → Nat → Bool) (kn fl : Nat → Nat → Nat) (rg : Nat → Nat → Bool) (K : Nat) : Prop :=
  (∀ k p, hs k p = true → k < 16 ∧ p < 2 ^ 18 ∧ rg k (p / 1024) = true ∧ fl k p < 16 ∧ kn k p < K) ∧ (∀ k r, rg k r = true → k < 16 ∧ r < 256 ∧ al k = true)
def MRw (n : Nat) (M : MS) (al : Nat → Bool) (en : Nat → Nat) (hs : Nat → Nat → Bool) (kn fl : Nat → Nat → Nat) (rg : Nat → Nat → Bool) (K P R : Nat) (ps pn rs rn : Nat → Nat) : Prop :=
  (m_frames M = nI n ∧ m_pages M = nI P ∧ m_regions M = nI R ∧ m_kins M = nI K) ∧
  (P ≤ 128 ∧ R ≤ 32) ∧
  (∀ k, k < 16 → m_alive M k = if al k = true then 1 else 0) ∧
  (∀ k, k < 16 → al k = true → m_ends M k = nI (en k)) ∧
  (∀ i, i < P → m_ps M i = nI (ps i) ∧ m_pn M i = nI (pn i) ∧ m_pf M i = nI (fl (ps i) (pn i)) ∧ m_pk M i = nI (kn (ps i) (pn i)) ∧ hs (ps i) (pn i) = true) ∧
  (∀ i j, i < P → j < P → ps i = ps j → pn i = pn j → i = j) ∧
  (∀ k p, hs k p = true → ∃ i, i < P ∧ ps i = k ∧ pn i = p) ∧
  (∀ i, i < R → m_rs M i = nI (rs i) ∧ m_rn M i = nI (rn i) ∧ rg (rs i) (rn i) = true) ∧
  (∀ i j, i < R → j < R → rs i = rs j → rn i = rn j → i = j) ∧
  (∀ k r, rg k r = true → ∃ i, i < R ∧ rs i = k ∧ rn i = r)
section MT
variable {n : Nat} {M M' : MS} {al : Nat → Bool} {en : Nat → Nat} {hs : Nat → Nat → Bool} {kn fl : Nat → Nat → Nat} {rg : Nat → Nat → Bool} {K P R : Nat} {ps pn rs rn pk : Nat → Nat} {k p l r q A κ : Nat}
theorem CG_AB {V : VS} {B : Nat → Nat → Int32} {bf : Nat → Int32} {rf : Nat → Nat} {tf : Nat → Nat → Nat} {kf : Nat → Nat} {ow : Nat → Nat × Nat × Nat} (h : CG n V al en hs hs kn fl rg rg K B bf rf tf kf pk ow) : AB al hs kn fl rg K ∧ ∀ k p, hs k p = true → pk (kn k p) = p := by
  obtain ⟨h1, h2, h3, h4, h5, h6, -⟩ := h
  refine ⟨⟨fun k p a => ?_, h6⟩, fun k p a => (h5 k p a).2.2.2.2.2⟩
  obtain ⟨b1, b2, b3, b4, b5, b6⟩ := h5 k p a
  exact ⟨b1, b2, b3, b4, b5⟩
theorem M_lives1 (h : MRw n M al en hs kn fl rg K P R ps pn rs rn) (hk : k < 16) (ha : al k = true) : j_M_lives M (nI k) = 1 := by
  have e16 : (16 : Int32) = nI 16 := rfl
  unfold j_M_lives
  rw [if_neg (nI_pos (by omega)), e16, if_neg (nI_ge hk (by decide)), nI_clamp (by omega), h.2.2.1 k hk, if_pos ha, if_neg (by decide)]
theorem M_lives0 (h : MRw n M al en hs kn fl rg K P R ps pn rs rn) {x : Int32} (h0 : ∀ k, k < 16 → x = nI k → al k = false) : j_M_lives M x = 0 := by
  have e16 : (16 : Int32) = nI 16 := rfl
  unfold j_M_lives
  rcases pk_ix x (n := 16) (by decide) with a | a | ⟨i, hi, rfl⟩
  · rw [if_pos a]
  · by_cases b : x < 0
    · rw [if_pos b]
    · rw [if_neg b, e16, if_pos a]
  · rw [if_neg (nI_pos (by omega)), e16, if_neg (nI_ge hi (by decide)), nI_clamp (by omega), h.2.2.1 i hi, h0 i hi rfl]
    rfl
theorem row_h (h : MRw n M al en hs kn fl rg K P R ps pn rs rn) (b : AB al hs kn fl rg K) (hA : A < 2 ^ 31) (x : Int32) : ∀ (m i : Nat), i ≤ P → P - i < m → (∀ j, j < i → ¬ (x = nI (ps j) ∧ pn j = A / 4096)) →
    p_M_row_h8 m M x (nI A) (nI i) ∧ ((∃ j, j < P ∧ x = nI (ps j) ∧ pn j = A / 4096 ∧ j_M_row_h8 m M x (nI A) (nI i) = nI j) ∨ ((∀ j, j < P → ¬ (x = nI (ps j) ∧ pn j = A / 4096)) ∧ j_M_row_h8 m M x (nI A) (nI i) = -1)) := by
  obtain ⟨⟨h1, h2, h3, h4⟩, ⟨h5, h6⟩, h7, h8, h9, h10, h11, -⟩ := h
  intro m
  induction m with
  | zero => intro i _ h; exact absurd h (Nat.not_lt_zero _)
  | succ m ih =>
    intro i hi hm h0
    rw [j_M_row_h8, p_M_row_h8, h2]
    by_cases c : i = P
    · subst c
      rw [if_pos (nI_le (Nat.le_refl _) (by omega)), if_pos (nI_le (Nat.le_refl _) (by omega))]
      exact ⟨trivial, Or.inr ⟨h0, rfl⟩⟩
    · rw [if_neg (nI_ge (by omega) (by omega)), if_neg (nI_ge (by omega) (by omega)), nI_clamp (by omega), div4096 hA, nI_1]
      obtain ⟨a1, a2, a3, a4, a5⟩ := h9 i (by omega)
      have hb := (b.1 _ _ a5).2.1
      have hin : vp_in (nI i) 128 := vp_in_nI (by omega) (by decide)
      rw [a1, a2]
      have hstep : ¬ (x = nI (ps i) ∧ pn i = A / 4096) → ∀ j, j < i + 1 → ¬ (x = nI (ps j) ∧ pn j = A / 4096) := fun z j hj => by
        by_cases e : j = i
        · rw [e]; exact z
        · exact h0 j (by omega)
      by_cases d1 : nI (ps i) = x
      · rw [if_pos d1, if_pos d1]
        by_cases d2 : pn i = A / 4096
        · rw [if_pos (by rw [d2]), if_pos (by rw [d2])]
          exact ⟨⟨hin, trivial⟩, Or.inl ⟨i, by omega, d1.symm, d2, rfl⟩⟩
        · have d3 : ¬ nI (pn i) = nI (A / 4096) := fun z => d2 ((nI_eq (by omega) (by omega)).mp z)
          rw [if_neg d3, if_neg d3]
          obtain ⟨x1, x2⟩ := ih (i + 1) (by omega) (by omega) (hstep (fun z => d2 z.2))
          exact ⟨⟨hin, x1⟩, x2⟩
      · rw [if_neg d1, if_neg d1]
        obtain ⟨x1, x2⟩ := ih (i + 1) (by omega) (by omega) (hstep (fun z => d1 z.1.symm))
        exact ⟨⟨hin, x1⟩, x2⟩
/-- the reference's row -/
theorem M_row (h : MRw n M al en hs kn fl rg K P R ps pn rs rn) (b : AB al hs kn fl rg K) (hA : A < 2 ^ 31) (x : Int32) : p_M_row M x (nI A) ∧ ((∃ j, j < P ∧ x = nI (ps j) ∧ pn j = A / 4096 ∧ j_M_row M x (nI A) = nI j) ∨ ((∀ j, j < P → ¬ (x = nI (ps j) ∧ pn j = A / 4096)) ∧ j_M_row M x (nI A) = -1)) := by
  unfold p_M_row j_M_row
  have e0 : (0 : Int32) = nI 0 := rfl
  rw [e0, if_pos (nI_le (Nat.zero_le _) hA), if_pos (nI_le (Nat.zero_le _) hA), h.1.2.1, nI_clamp (by have := h.2.1.1; omega)]
  exact row_h h b hA x (P + 1) 0 (Nat.zero_le _) (by omega) (fun j hj => by omega)
/-- .. of a space that lives -/
theorem M_rowk (h : MRw n M al en hs kn fl rg K P R ps pn rs rn) (b : AB al hs kn fl rg K) (hA : A < 2 ^ 31) (hk : k < 16) : p_M_row M (nI k) (nI A) ∧ ((hs k (A / 4096) = true ∧ ∃ j, j < P ∧ ps j = k ∧ pn j = A / 4096 ∧ j_M_row M (nI k) (nI A) = nI j) ∨ (hs k (A / 4096) = false ∧ j_M_row M (nI k) (nI A) = -1)) := by
  obtain ⟨q1, q2⟩ := M_row h b hA (nI k)
  refine ⟨q1, ?_⟩
  rcases q2 with ⟨j, a1, a2, a3, a4⟩ | ⟨a1, a2⟩
  · have a5 := (h.2.2.2.2.1 j a1).2.2.2.2
    have : ps j = k := ((nI_eq (by omega) (by have := (b.1 _ _ a5).1; omega)).mp a2).symm
    rw [this, a3] at a5
    exact Or.inl ⟨a5, j, a1, this, a3, a4⟩
  · refine Or.inr ⟨?_, a2⟩
    cases z : hs k (A / 4096) with
    | false => rfl
    | true =>
      obtain ⟨i, i1, i2, i3⟩ := h.2.2.2.2.2.2.1 _ _ z
      exact absurd ⟨by rw [i2], i3⟩ (a1 i i1)
theorem sh_r (h : MRw n M al en hs kn fl rg K P R ps pn rs rn) (b : AB al hs kn fl rg K) (hK : K < 2 ^ 30) (hκ : κ < 2 ^ 30) : ∀ (m i : Nat), i ≤ P → P - i < m → p_M_sharers_h4 m M (nI κ) (nI (cnt i (fun i => decide (kn (ps i) (pn i) = κ)))) (nI i) ∧ j_M_sharers_h4 m M (nI κ) (nI (cnt i (fun i => decide (kn (ps i) (pn i) = κ)))) (nI i) = nI (cnt P (fun i => decide (kn (ps i) (pn i) = κ))) := by
  obtain ⟨⟨h1, h2, h3, h4⟩, ⟨h5, h6⟩, h7, h8, h9, h10, h11, -⟩ := h
  intro m
  induction m with
  | zero => intro i _ h; exact absurd h (Nat.not_lt_zero _)
  | succ m ih =>
    intro i hi hm
    rw [j_M_sharers_h4, p_M_sharers_h4, h2]
    by_cases c : i = P
    · subst c
      rw [if_pos (nI_le (Nat.le_refl _) (by omega)), if_pos (nI_le (Nat.le_refl _) (by omega))]
      exact ⟨trivial, rfl⟩
    · rw [if_neg (nI_ge (by omega) (by omega)), if_neg (nI_ge (by omega) (by omega)), nI_clamp (by omega), nI_1, nI_1]
      obtain ⟨a1, a2, a3, a4, a5⟩ := h9 i (by omega)
      have hb := (b.1 _ _ a5).2.2.2.2
      have hin : vp_in (nI i) 128 := vp_in_nI (by omega) (by decide)
      have hi1 := ih (i + 1) (by omega) (by omega)
      rw [cnt] at hi1
      rw [a4]
      by_cases e : kn (ps i) (pn i) = κ
      · rw [if_pos (decide_eq_true e)] at hi1
        rw [if_pos (by rw [e]), if_pos (by rw [e])]
        exact ⟨⟨hin, hi1.1⟩, hi1.2⟩
      · rw [if_neg (by rw [decide_eq_true_iff]; exact e)] at hi1
        have e2 : ¬ nI (kn (ps i) (pn i)) = nI κ := fun z => e ((nI_eq (by omega) (by omega)).mp z)
        rw [if_neg e2, if_neg e2]
        exact ⟨⟨hin, hi1.1⟩, hi1.2⟩
/-- the reference's sharers -/
theorem M_sharers (h : MRw n M al en hs kn fl rg K P R ps pn rs rn) (b : AB al hs kn fl rg K) (hK : K < 2 ^ 30) (hpk : ∀ k p, hs k p = true → pk (kn k p) = p) (hp : hs k p = true) : p_M_sharers M (nI (kn k p)) ∧ j_M_sharers M (nI (kn k p)) = nI (shr hs kn pk (kn k p)) := by
  have hb := (b.1 _ _ hp).2.2.2.2
  obtain ⟨q1, q2⟩ := sh_r h b hK (κ := kn k p) (by omega) (P + 1) 0 (Nat.zero_le _) (by omega)
  unfold p_M_sharers j_M_sharers
  rw [h.1.2.1, nI_clamp (by have := h.2.1.1; omega)]
  refine ⟨q1, ?_⟩
  have e0 : nI (cnt 0 (fun i => decide (kn (ps i) (pn i) = kn k p))) = 0 := rfl
  rw [e0, nI_0] at q2
  rw [q2]
  congr 1
  apply Nat.le_antisymm
  · refine cnt_rel (fun i y => ps i = y ∧ kn (ps i) (pn i) = kn k p ∧ i < P) (fun i hi e => ?_) (fun i j y hi hj a a' => ?_)
    · have e' := of_decide_eq_true e
      have a5 := (h.2.2.2.2.1 i hi).2.2.2.2
      refine ⟨ps i, (b.1 _ _ a5).1, ?_, rfl, e', hi⟩
      have : pk (kn k p) = pn i := by rw [← e']; exact hpk _ _ a5
      rw [this, a5, e']
      simp
    · have x1 := hpk _ _ (h.2.2.2.2.1 i hi).2.2.2.2
      have x2 := hpk _ _ (h.2.2.2.2.1 j hj).2.2.2.2
      rw [a.2.1] at x1
      rw [a'.2.1] at x2
      exact h.2.2.2.2.2.1 i j hi hj (a.1.trans a'.1.symm) (x1.symm.trans x2)
  · refine cnt_rel (fun y i => ps i = y) (fun y hy e => ?_) (fun y y' i _ _ a a' => a.symm.trans a')
    rw [Bool.and_eq_true] at e
    obtain ⟨i, i1, i2, i3⟩ := h.2.2.2.2.2.2.1 _ _ e.1
    refine ⟨i, i1, decide_eq_true ?_, i2⟩
    rw [i2, i3]
    exact of_decide_eq_true e.2
/-- the first row of its kin -/
def fst' (kn : Nat → Nat → Nat) (ps pn : Nat → Nat) (i : Nat) : Bool := decide (∀ j, j < i → kn (ps j) (pn j) ≠ kn (ps i) (pn i))
theorem fi_r (h : MRw n M al en hs kn fl rg K P R ps pn rs rn) (b : AB al hs kn fl rg K) (hK : K < 2 ^ 30) {i : Nat} (hi : i < P) : ∀ (m j : Nat), j ≤ i → i - j < m → (∀ x, x < j → kn (ps x) (pn x) ≠ kn (ps i) (pn i)) → p_M_firstOfKin_h2 m M (nI i) (nI j) ∧ j_M_firstOfKin_h2 m M (nI i) (nI j) = if fst' kn ps pn i = true then 1 else 0 := by
  obtain ⟨⟨h1, h2, h3, h4⟩, ⟨h5, h6⟩, h7, h8, h9, h10, h11, -⟩ := h
  intro m
  induction m with
  | zero => intro j _ h; exact absurd h (Nat.not_lt_zero _)
  | succ m ih =>
    intro j hj hm h0
    rw [j_M_firstOfKin_h2, p_M_firstOfKin_h2]
    by_cases c : j = i
    · subst c
      rw [if_pos (nI_le (Nat.le_refl _) (by omega)), if_pos (nI_le (Nat.le_refl _) (by omega)), if_pos (show fst' kn ps pn j = true from decide_eq_true h0)]
      exact ⟨trivial, rfl⟩
    · rw [if_neg (nI_ge (by omega) (by omega)), if_neg (nI_ge (by omega) (by omega)), nI_clamp (by omega), nI_clamp (by omega), nI_1]
      obtain ⟨a1, a2, a3, a4, a5⟩ := h9 j (by omega)
      obtain ⟨c1, c2, c3, c4, c5⟩ := h9 i (by omega)
      have hb := (b.1 _ _ a5).2.2.2.2
      have hb' := (b.1 _ _ c5).2.2.2.2
      have hin : vp_in (nI i) 128 := vp_in_nI (by omega) (by decide)
      have hjn : vp_in (nI j) 128 := vp_in_nI (by omega) (by decide)
      rw [a4, c4]
      by_cases e : kn (ps j) (pn j) = kn (ps i) (pn i)
      · rw [if_pos (by rw [e]), if_pos (by rw [e]), if_neg]
        · exact ⟨⟨hjn, hin, trivial⟩, rfl⟩
        · intro z
          exact (of_decide_eq_true z) j (by omega) e
      · have e2 : ¬ nI (kn (ps j) (pn j)) = nI (kn (ps i) (pn i)) := fun z => e ((nI_eq (by omega) (by omega)).mp z)
        rw [if_neg e2, if_neg e2]
        obtain ⟨x1, x2⟩ := ih (j + 1) (by omega) (by omega) (fun x hx => by
          by_cases y : x = j
          · rw [y]; exact e
          · exact h0 x (by omega))
        exact ⟨⟨hjn, hin, x1⟩, x2⟩
theorem M_first (h : MRw n M al en hs kn fl rg K P R ps pn rs rn) (b : AB al hs kn fl rg K) (hK : K < 2 ^ 30) {i : Nat} (hi : i < P) : p_M_firstOfKin M (nI i) ∧ j_M_firstOfKin M (nI i) = if fst' kn ps pn i = true then 1 else 0 := by
  unfold p_M_firstOfKin j_M_firstOfKin
  rw [nI_clamp (by have := h.2.1.1; omega)]
  exact fi_r h b hK hi (i + 1) 0 (Nat.zero_le _) (by omega) (fun x hx => by omega)
theorem ff_38 (h : MRw n M al en hs kn fl rg K P R ps pn rs rn) (b : AB al hs kn fl rg K) (hK : K < 2 ^ 30) (a : Nat) : ∀ (m i : Nat), i ≤ P → P - i < m → p_M_freeFrames_h38 m M (nI (a + (cnt P (fst' kn ps pn) - cnt i (fst' kn ps pn)))) (nI i) ∧ j_M_freeFrames_h38 m M (nI (a + (cnt P (fst' kn ps pn) - cnt i (fst' kn ps pn)))) (nI i) = nI a := by
  have h2 := h.1.2.1
  have h5 := h.2.1.1
  intro m
  induction m with
  | zero => intro i _ h; exact absurd h (Nat.not_lt_zero _)
  | succ m ih =>
    intro i hi hm
    rw [j_M_freeFrames_h38, p_M_freeFrames_h38, h2]
    by_cases c : i = P
    · subst c
      rw [if_pos (nI_le (Nat.le_refl _) (by omega)), if_pos (nI_le (Nat.le_refl _) (by omega)), Nat.sub_self]
      exact ⟨trivial, rfl⟩
    · rw [if_neg (nI_ge (by omega) (by omega)), if_neg (nI_ge (by omega) (by omega)), nI_1]
      obtain ⟨f1, f2⟩ := M_first h b hK (show i < P by omega)
      have hi1 := ih (i + 1) (by omega) (by omega)
      have hcm := cnt_ge (f := fst' kn ps pn) (show i + 1 ≤ P by omega)
      rw [cnt] at hi1 hcm
      rw [f2]
      by_cases g : fst' kn ps pn i = true
      · rw [if_pos g] at hi1 hcm ⊢
        rw [if_neg (by decide), if_neg (by decide)]
        rw [show a + (cnt P (fst' kn ps pn) - cnt i (fst' kn ps pn)) = (a + (cnt P (fst' kn ps pn) - (cnt i (fst' kn ps pn) + 1))) + 1 by omega, pk_m1]
        exact ⟨⟨f1, hi1.1⟩, hi1.2⟩
      · rw [if_neg g] at hi1 hcm ⊢
        rw [if_pos rfl, if_pos rfl]
        rw [Nat.add_zero] at hi1
        exact ⟨⟨f1, hi1.1⟩, hi1.2⟩
theorem ff_12 (h : MRw n M al en hs kn fl rg K P R ps pn rs rn) (b : AB al hs kn fl rg K) (hK : K < 2 ^ 30) (a : Nat) : ∀ (m i : Nat), i ≤ 16 → 16 - i < m → p_M_freeFrames_h12 m M (nI (a + cnt P (fst' kn ps pn) + (cnt 16 al - cnt i al))) (nI i) ∧ j_M_freeFrames_h12 m M (nI (a + cnt P (fst' kn ps pn) + (cnt 16 al - cnt i al))) (nI i) = nI a := by
  have e16 : (16 : Int32) = nI 16 := rfl
  have h2 := h.1.2.1
  have h5 := h.2.1.1
  intro m
  induction m with
  | zero => intro i _ h; exact absurd h (Nat.not_lt_zero _)
  | succ m ih =>
    intro i hi hm
    rw [j_M_freeFrames_h12, p_M_freeFrames_h12, e16]
    by_cases c : i = 16
    · subst c
      rw [if_pos (nI_le (Nat.le_refl _) (by omega)), if_pos (nI_le (Nat.le_refl _) (by omega)), Nat.sub_self, h2, nI_clamp (by omega)]
      have := ff_38 h b hK a (P + 1) 0 (Nat.zero_le _) (by omega)
      exact this
    · rw [if_neg (nI_ge (by omega) (by omega)), if_neg (nI_ge (by omega) (by omega)), nI_clamp (by omega), nI_1, h.2.2.1 i (by omega)]
      have hi1 := ih (i + 1) (by omega) (by omega)
      have hcm := cnt_ge (f := al) (show i + 1 ≤ 16 by omega)
      have hcs : cnt (i + 1) al = cnt i al + (if al i = true then 1 else 0) := rfl
      rw [hcs] at hi1 hcm
      by_cases g : al i = true
      · rw [if_pos g] at hi1 hcm ⊢
        rw [if_neg (by decide), if_neg (by decide)]
        rw [show a + cnt P (fst' kn ps pn) + (cnt 16 al - cnt i al) = (a + cnt P (fst' kn ps pn) + (cnt 16 al - (cnt i al + 1))) + 1 by omega, pk_m1]
        exact hi1
      · rw [if_neg g] at hi1 hcm ⊢
        rw [if_pos rfl, if_pos rfl]
        exact hi1
theorem M_regs (h : MRw n M al en hs kn fl rg K P R ps pn rs rn) (b : AB al hs kn fl rg K) : R = regs rg := by
  obtain ⟨h1, h2, h3, h4, h5, h6, h7, h8, h9, h10⟩ := h
  have hR : cnt R (fun _ => true) = R := by
    clear h1 h2 h8 h9 h10
    induction R with
    | zero => rfl
    | succ R ih => rw [cnt, ih, if_pos rfl]
  apply Nat.le_antisymm
  · rw [← hR]
    refine cnt_rel (fun i y => rs i = y / 256 ∧ rn i = y % 256) (fun i hi _ => ?_) (fun i j y hi hj a a' => h9 i j hi hj (a.1.trans a'.1.symm) (a.2.trans a'.2.symm))
    have a := (h8 i hi).2.2
    obtain ⟨b1, b2, b3⟩ := b.2 _ _ a
    refine ⟨256 * rs i + rn i, by omega, ?_, by omega, by omega⟩
    show rg ((256 * rs i + rn i) / 256) ((256 * rs i + rn i) % 256) = true
    rw [show (256 * rs i + rn i) / 256 = rs i by omega, show (256 * rs i + rn i) % 256 = rn i by omega]
    exact a
  · have : regs rg ≤ cnt R (fun _ => true) := by
      refine cnt_rel (fun y i => rs i = y / 256 ∧ rn i = y % 256) (fun y hy e => ?_) (fun y y' i _ _ a a' => by omega)
      obtain ⟨i, i1, i2, i3⟩ := h10 _ _ e
      exact ⟨i, i1, rfl, i2, i3⟩
    omega
theorem M_kins (h : MRw n M al en hs kn fl rg K P R ps pn rs rn) (b : AB al hs kn fl rg K) (hpk : ∀ k p, hs k p = true → pk (kn k p) = p) : cnt P (fst' kn ps pn) = cnt K (lvs hs kn pk) := by
  obtain ⟨h1, h2, h3, h4, h5, h6, h7, h8, h9, h10⟩ := h
  apply Nat.le_antisymm
  · refine cnt_rel (fun i y => kn (ps i) (pn i) = y ∧ fst' kn ps pn i = true) (fun i hi e => ?_) (fun i j y hi hj a a' => ?_)
    · have a5 := (h5 i hi).2.2.2.2
      obtain ⟨b1, b2, b3, b4, b5⟩ := b.1 _ _ a5
      exact ⟨_, b5, decide_eq_true (shr_pos a5 b1 (hpk _ _ a5)), rfl, e⟩
    · rcases Nat.lt_trichotomy i j with c | c | c
      · exact absurd (a.1.trans a'.1.symm) (of_decide_eq_true a'.2 i c)
      · exact c
      · exact absurd (a'.1.trans a.1.symm) (of_decide_eq_true a.2 j c)
  · refine cnt_rel (fun y i => kn (ps i) (pn i) = y) (fun y hy e => ?_) (fun y y' i _ _ a a' => a.symm.trans a')
    obtain ⟨k', hk', z⟩ := cnt_some (of_decide_eq_true e)
    rw [Bool.and_eq_true] at z
    obtain ⟨i, i1, i2, i3⟩ := h7 _ _ z.1
    have hki : kn (ps i) (pn i) = y := by rw [i2, i3]; exact of_decide_eq_true z.2
    obtain ⟨i0, ⟨w1, w2⟩, w3⟩ := pk_least (fun i => i < P ∧ kn (ps i) (pn i) = y) ⟨i, i1, hki⟩
    refine ⟨i0, w1, decide_eq_true (fun j hj z2 => w3 j hj ⟨by omega, z2.trans w2⟩), w2⟩
/-- the reference's freeFrames -/
theorem M_free {V : VS} {B : Nat → Nat → Int32} {bf : Nat → Int32} {rf : Nat → Nat} {tf : Nat → Nat → Nat} {kf : Nat → Nat} {ow : Nat → Nat × Nat × Nat} (c : CG n V al en hs hs kn fl rg rg K B bf rf tf kf pk ow) (h : MRw n M al en hs kn fl rg K P R ps pn rs rn) (hK : K < 2 ^ 30) : p_M_freeFrames M ∧ j_M_freeFrames M = nI (cnt n (fre V)) := by
  obtain ⟨b, hpk⟩ := CG_AB c
  have e1 := M_regs h b
  have e2 := M_kins h b hpk
  have e3 := c.2.2.2.1.2
  have := ff_12 h b hK (cnt n (fre V)) 17 0 (Nat.zero_le _) (by omega)
  unfold p_M_freeFrames j_M_freeFrames
  rw [h.1.1, h.1.2.2.1, pk_sub (by omega), show n - R = cnt n (fre V) + cnt P (fst' kn ps pn) + (cnt 16 al - cnt 0 al) by rw [cnt]; omega]
  exact this
theorem hr_h (h : MRw n M al en hs kn fl rg K P R ps pn rs rn) (b : AB al hs kn fl rg K) (hk : k < 16) (hr : r < 256) : ∀ (m i : Nat), i ≤ R → R - i < m → (∀ j, j < i → ¬ (rs j = k ∧ rn j = r)) → p_M_hasRegion_h2 m M (nI k) (nI r) (nI i) ∧ j_M_hasRegion_h2 m M (nI k) (nI r) (nI i) = if rg k r = true then 1 else 0 := by
  obtain ⟨⟨h1, h2, h3, h4⟩, ⟨h5, h6⟩, h7, h8, h9, h10, h11, h12, h13, h14⟩ := h
  intro m
  induction m with
  | zero => intro i _ h; exact absurd h (Nat.not_lt_zero _)
  | succ m ih =>
    intro i hi hm h0
    rw [j_M_hasRegion_h2, p_M_hasRegion_h2, h3]
    by_cases c : i = R
    · subst c
      rw [if_pos (nI_le (Nat.le_refl _) (by omega)), if_pos (nI_le (Nat.le_refl _) (by omega)), if_neg]
      · exact ⟨trivial, rfl⟩
      · intro z
        obtain ⟨j, j1, j2, j3⟩ := h14 _ _ z
        exact h0 j j1 ⟨j2, j3⟩
    · rw [if_neg (nI_ge (by omega) (by omega)), if_neg (nI_ge (by omega) (by omega)), nI_clamp (by omega), nI_1]
      obtain ⟨a1, a2, a3⟩ := h12 i (by omega)
      obtain ⟨b1, b2, b3⟩ := b.2 _ _ a3
      have hin : vp_in (nI i) 32 := vp_in_nI (by omega) (by decide)
      rw [a1, a2]
      have hstep : ¬ (rs i = k ∧ rn i = r) → ∀ j, j < i + 1 → ¬ (rs j = k ∧ rn j = r) := fun z j hj => by
        by_cases e : j = i
        · rw [e]; exact z
        · exact h0 j (by omega)
      by_cases d1 : rs i = k
      · have d1' : nI (rs i) = nI k := by rw [d1]
        rw [if_pos d1', if_pos d1']
        by_cases d2 : rn i = r
        · have d2' : nI (rn i) = nI r := by rw [d2]
          rw [if_pos d2', if_pos d2', if_pos (show rg k r = true by rw [← d1, ← d2]; exact a3)]
          exact ⟨⟨hin, trivial⟩, rfl⟩
        · have d3 : ¬ nI (rn i) = nI r := fun z => d2 ((nI_eq (by omega) (by omega)).mp z)
          rw [if_neg d3, if_neg d3]
          obtain ⟨x1, x2⟩ := ih (i + 1) (by omega) (by omega) (hstep (fun z => d2 z.2))
          exact ⟨⟨hin, x1⟩, x2⟩
      · have d3 : ¬ nI (rs i) = nI k := fun z => d1 ((nI_eq (by omega) (by omega)).mp z)
        rw [if_neg d3, if_neg d3]
        obtain ⟨x1, x2⟩ := ih (i + 1) (by omega) (by omega) (hstep (fun z => d1 z.1))
        exact ⟨⟨hin, x1⟩, x2⟩
theorem M_hasR (h : MRw n M al en hs kn fl rg K P R ps pn rs rn) (b : AB al hs kn fl rg K) (hk : k < 16) (hr : r < 256) : p_M_hasRegion M (nI k) (nI r) ∧ j_M_hasRegion M (nI k) (nI r) = if rg k r = true then 1 else 0 := by
  unfold p_M_hasRegion j_M_hasRegion
  rw [h.1.2.2.1, nI_clamp (by have := h.2.1.2; omega)]
  exact hr_h h b hk hr (R + 1) 0 (Nat.zero_le _) (by omega) (fun j hj => by omega)
theorem mu_h (h : MRw n M al en hs kn fl rg K P R ps pn rs rn) : ∀ (m i : Nat), i ≤ 16 → 16 - i < m → (∀ j, j < i → al j = true) → (∃ k, k < 16 ∧ al k = false ∧ (∀ j, j < k → al j = true) ∧ j_M_unused_h2 m M (nI i) = nI k) ∨ ((∀ j, j < 16 → al j = true) ∧ j_M_unused_h2 m M (nI i) = -1) := by
  have e16 : (16 : Int32) = nI 16 := rfl
  intro m
  induction m with
  | zero => intro j _ h; exact absurd h (Nat.not_lt_zero _)
  | succ m ih =>
    intro i hi hm h0
    rw [j_M_unused_h2, e16]
    by_cases c : i = 16
    · subst c
      rw [if_pos (nI_le (Nat.le_refl _) (by decide))]
      exact Or.inr ⟨h0, rfl⟩
    · rw [if_neg (nI_ge (by omega) (by decide)), nI_clamp (by omega), nI_1, h.2.2.1 i (by omega)]
      cases a : al i with
      | false =>
        rw [if_neg (show ¬ false = true by decide), if_pos rfl]
        exact Or.inl ⟨i, by omega, a, h0, rfl⟩
      | true =>
        rw [if_pos rfl, if_neg (by decide)]
        exact ih (i + 1) (by omega) (by omega) (fun j hj => by
          by_cases e : j = i
          · rw [e]; exact a
          · exact h0 j (by omega))
theorem M_unused (h : MRw n M al en hs kn fl rg K P R ps pn rs rn) : (∃ k, k < 16 ∧ al k = false ∧ (∀ j, j < k → al j = true) ∧ j_M_unused M = nI k) ∨ ((∀ j, j < 16 → al j = true) ∧ j_M_unused M = -1) := by
  have := mu_h h 17 0 (by omega) (by omega) (fun j hj => by omega)
  rw [nI_0] at this
  exact this
/-- both name the same number -/
theorem unused2 {x y : Int32} (h1 : (∃ k, k < 16 ∧ al k = false ∧ (∀ j, j < k → al j = true) ∧ x = nI k) ∨ ((∀ j, j < 16 → al j = true) ∧ x = -1)) (h2 : (∃ k, k < 16 ∧ al k = false ∧ (∀ j, j < k → al j = true) ∧ y = nI k) ∨ ((∀ j, j < 16 → al j = true) ∧ y = -1)) : (x = -1 ∧ y = -1) ∨ ∃ k, k < 16 ∧ al k = false ∧ x = nI k ∧ y = nI k := by
  rcases h1 with ⟨k, a1, a2, a3, a4⟩ | ⟨a1, a2⟩
  · rcases h2 with ⟨k', b1, b2, b3, b4⟩ | ⟨b1, b2⟩
    · have : k = k' := by
        rcases Nat.lt_trichotomy k k' with c | c | c
        · have := b3 k c
          rw [a2] at this
          cases this
        · exact c
        · have := a3 k' c
          rw [b2] at this
          cases this
      subst this
      exact Or.inr ⟨k, a1, a2, a4, b4⟩
    · have := b1 k a1
      rw [a2] at this
      cases this
  · rcases h2 with ⟨k', b1, b2, b3, b4⟩ | ⟨b1, b2⟩
    · have := a1 k' b1
      rw [b2] at this
      cases this
    · exact Or.inl ⟨a2, b2⟩
end MT
