/-! counting -/
def cnt : Nat → (Nat → Bool) → Nat
  | 0, _ => 0
  | N + 1, f => cnt N f + (if f N = true then 1 else 0)
theorem cnt_congr {N : Nat} {f g : Nat → Bool} (h : ∀ i, i < N → f i = g i) : cnt N f = cnt N g := by
  induction N with
  | zero => rfl
  | succ N ih => rw [cnt, cnt, ih (fun i hi => h i (by omega)), h N (by omega)]
theorem cnt_le (N : Nat) (f : Nat → Bool) : cnt N f ≤ N := by
  induction N with
  | zero => exact Nat.le_refl _
  | succ N ih =>
    rw [cnt]
    split <;> omega
theorem cnt_on {N : Nat} {f : Nat → Bool} {i : Nat} (hi : i < N) (h : f i = false) : cnt N (va_up f i true) = cnt N f + 1 := by
  induction N with
  | zero => omega
  | succ N ih =>
    rw [cnt, cnt]
    by_cases e : i = N
    · subst e
      rw [va_up_self, h, cnt_congr (g := f) (fun j hj => va_up_ne _ _ (by omega))]
      simp
    · rw [ih (by omega), va_up_ne _ _ (fun q => e q.symm)]
      omega
theorem cnt_off {N : Nat} {f : Nat → Bool} {i : Nat} (hi : i < N) (h : f i = true) : cnt N (va_up f i false) + 1 = cnt N f := by
  induction N with
  | zero => omega
  | succ N ih =>
    rw [cnt, cnt]
    by_cases e : i = N
    · subst e
      rw [va_up_self, h, cnt_congr (g := f) (fun j hj => va_up_ne _ _ (by omega))]
      simp
    · have := ih (by omega)
      rw [va_up_ne _ _ (fun q => e q.symm)]
      omega
theorem cnt_some {N : Nat} {f : Nat → Bool} (h : 0 < cnt N f) : ∃ i, i < N ∧ f i = true := by
  induction N with
  | zero => exact absurd h (Nat.lt_irrefl _)
  | succ N ih =>
    by_cases e : f N = true
    · exact ⟨N, by omega, e⟩
    · rw [cnt, if_neg e] at h
      obtain ⟨i, hi, q⟩ := ih h
      exact ⟨i, by omega, q⟩
theorem cnt_none {N : Nat} {f : Nat → Bool} (h : cnt N f = 0) : ∀ i, i < N → f i = false := by
  intro i hi
  cases e : f i with
  | false => rfl
  | true =>
    have := cnt_off hi e
    omega
theorem cnt_0 {N : Nat} {f : Nat → Bool} (h : ∀ i, i < N → f i = false) : cnt N f = 0 := by
  rcases Nat.eq_zero_or_pos (cnt N f) with q | q
  · exact q
  · obtain ⟨i, hi, e⟩ := cnt_some q
    rw [h i hi] at e
    cases e
theorem cnt_pos {N : Nat} {f : Nat → Bool} {i : Nat} (hi : i < N) (h : f i = true) : 0 < cnt N f := by
  have := cnt_off hi h
  omega
theorem cnt_mono {N : Nat} {f g : Nat → Bool} (h : ∀ i, i < N → f i = true → g i = true) : cnt N f ≤ cnt N g := by
  induction N with
  | zero => exact Nat.le_refl _
  | succ N ih =>
    rw [cnt, cnt]
    have h1 := ih (fun i hi => h i (by omega))
    by_cases e : f N = true
    · rw [if_pos e, if_pos (h N (by omega) e)]
      omega
    · rw [if_neg e]
      omega
/-- one to one into another set: no more of them -/
theorem cnt_inj {P K : Nat} : ∀ {Q : Nat → Bool} {L : Nat → Bool} (g : Nat → Nat), (∀ p, p < P → Q p = true → g p < K ∧ L (g p) = true) → (∀ p q, p < P → q < P → Q p = true → Q q = true → g p = g q → p = q) → cnt P Q ≤ cnt K L := by
  induction P with
  | zero => intro Q L g _ _; exact Nat.zero_le _
  | succ P ih =>
    intro Q L g h hi
    rw [cnt]
    by_cases e : Q P = true
    · rw [if_pos e]
      obtain ⟨h1, h2⟩ := h P (by omega) e
      have h3 := ih (Q := Q) (L := va_up L (g P) false) g (fun p hp hq => by
        obtain ⟨a, b⟩ := h p (by omega) hq
        refine ⟨a, ?_⟩
        rw [va_up_ne _ _ (fun z => by have := hi p P (by omega) (by omega) hq e z; omega)]
        exact b) (fun p q hp hq a b c => hi p q (by omega) (by omega) a b c)
      have := cnt_off h1 h2
      omega
    · rw [if_neg e]
      exact ih g (fun p hp => h p (by omega)) (fun p q hp hq => hi p q (by omega) (by omega))
/-! entries of tables: a frame's number and flags -/
theorem en_dec : ∀ f, f < 32 → ∀ l, l < 16 → j_V_entryOf (nI f) (nI l) = nI (16 * (f + 1) + l) ∧ j_V_frameOf (nI (16 * (f + 1) + l)) = nI f ∧ j_V_flagsOf (nI (16 * (f + 1) + l)) = nI l ∧ nI (16 * (f + 1) + l) &&& 8 = nI l &&& 8 ∧ nI (16 * (f + 1) + l) &&& 1 = nI l &&& 1 ∧ nI (16 * (f + 1) + l) &&& 2 = nI l &&& 2 ∧ nI (16 * (f + 1) + l) &&& 4 = nI l &&& 4 := by decide +kernel
theorem en_0 : j_V_frameOf 0 = -1 := by decide
theorem ju_nI {a : Nat} (ha : a < 2 ^ 32) (s : Int32) (k : Nat) (hs : ((s.toUInt32 &&& Int32.toUInt32 31).toBitVec % 32).toNat = k) : ju (nI a) s = nI (a / 2 ^ k) := pk_ushrN ha s k hs
theorem ju22 {a : Nat} (ha : a < 2 ^ 32) : ju (nI a) 22 = nI (a / 4194304) := ju_nI ha 22 22 (by decide)
theorem ju12N {a : Nat} (ha : a < 2 ^ 32) : ju (nI a) 12 = nI (a / 4096) := ju_nI ha 12 12 (by decide)
theorem slot_nI {a : Nat} (ha : a < 2 ^ 32) : j_S_slotOf (nI a) = nI (a / 4096 % 1024) := by
  unfold j_S_slotOf
  rw [ju12N ha]
  exact pk_andN (n := a / 4096) (by omega) (m := 1023) 10 (by decide)
theorem div4096 {a : Nat} (ha : a < 2 ^ 31) : nI a / 4096 = nI (a / 4096) := pk_div (d := 4096) ha (by decide) (by decide)
theorem div1024 {a : Nat} (ha : a < 2 ^ 31) : nI a / 1024 = nI (a / 1024) := pk_div (d := 1024) ha (by decide) (by decide)
/-- the words of a frame, read -/
theorem word_nI {n : Nat} {V : VS} {f j : Nat} (hn : n ≤ 32) (hf : f < n) (hj : j < 1024) : j_F_word n V (nI f) (nI j) = v_words V f j := by
  unfold j_F_word
  have e : (1024 : Int32) = nI 1024 := by decide
  rw [if_neg (nI_pos (by omega)), if_neg (nI_ge hf (by omega)), if_neg (nI_pos (by omega)), e, if_neg (nI_ge hj (by decide)), nI_clamp (by omega), nI_clamp (by omega)]
theorem word_m1 {n : Nat} {V : VS} {x : Int32} : j_F_word n V (-1) x = 0 := by
  unfold j_F_word
  rw [if_pos (by decide)]
theorem setW_nI {n : Nat} {V : VS} {f j : Nat} {x : Int32} (hn : n ≤ 32) (hf : f < n) (hj : j < 1024) : j_F_setWord n V (nI f) (nI j) x = s_word V f j x := by
  unfold j_F_setWord
  have e : (1024 : Int32) = nI 1024 := by decide
  rw [if_neg (nI_pos (by omega)), if_neg (nI_ge hf (by omega)), if_neg (nI_pos (by omega)), e, if_neg (nI_ge hj (by decide)), nI_clamp (by omega), nI_clamp (by omega)]
theorem setW_m1 {n : Nat} {V : VS} {x y : Int32} : j_F_setWord n V (-1) x y = V := by
  unfold j_F_setWord
  rw [if_pos (by decide)]
theorem isF_nI {n f : Nat} (hn : n ≤ 32) (hf : f < n) : j_F_isFrame n (nI f) = 1 := by
  unfold j_F_isFrame
  rw [if_neg (nI_pos (by omega)), if_neg (nI_ge hf (by omega))]
theorem isF_m1 {n : Nat} : j_F_isFrame n (-1) = 0 := by
  unfold j_F_isFrame
  rw [if_pos (by decide)]
/-- the vault's take: the least free frame -/
theorem take_h {n : Nat} {V : VS} (hn : n ≤ 32) : ∀ (t i : Nat), i ≤ n → n - i < t → (∀ j, j < i → v_hold V j ≠ 0) →
    (∃ f, f < n ∧ v_hold V f = 0 ∧ j_F_take_h2 n t V (nI i) = (nI f, s_row (s_spare (s_hold V f 1) (v_spare V - 1)) f (fun _ => 0))) ∨ ((∀ j, j < n → v_hold V j ≠ 0) ∧ j_F_take_h2 n t V (nI i) = (-1, V)) := by
  intro t
  induction t with
  | zero => intro i _ h; exact absurd h (Nat.not_lt_zero _)
  | succ t ih =>
    intro i hi hf hlo
    rw [j_F_take_h2]
    by_cases c1 : nI n ≤ nI i
    · have e : i = n := by
        rcases Nat.lt_or_ge i n with q | q
        · exact absurd c1 (nI_ge q (by omega))
        · omega
      rw [if_pos c1]
      exact Or.inr ⟨fun j hj => hlo j (by omega), rfl⟩
    · have hB : i < n := by
        rcases Nat.lt_or_ge i n with q | q
        · exact q
        · exact absurd (nI_le q (by omega)) c1
      rw [if_neg c1, nI_clamp (by omega)]
      by_cases c2 : v_hold V i = 0
      · rw [if_pos c2]
        exact Or.inl ⟨i, hB, c2, rfl⟩
      · rw [if_neg c2, nI_1]
        exact ih (i + 1) (by omega) (by omega) (fun j hj => by
          by_cases e : j = i
          · subst e
            exact c2
          · exact hlo j (by omega))
theorem take_c {n : Nat} {V : VS} (hn : n ≤ 32) : (∃ f, f < n ∧ v_hold V f = 0 ∧ j_F_take n V = (nI f, s_row (s_spare (s_hold V f 1) (v_spare V - 1)) f (fun _ => 0))) ∨ ((∀ j, j < n → v_hold V j ≠ 0) ∧ j_F_take n V = (-1, V)) := by
  unfold j_F_take
  have h := take_h (V := V) hn (n + 1) 0 (Nat.zero_le _) (by omega) (fun j hj => absurd hj (Nat.not_lt_zero _))
  rw [nI_0] at h
  exact h
