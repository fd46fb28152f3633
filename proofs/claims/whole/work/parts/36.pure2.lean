/-! the reference's log: the byte of a place after d deeds -/
abbrev rch (much k : Int32) : Prop := ¬ k < 0 ∧ ¬ much ≤ k
def byt (w k : Int32) : Int32 := (ju w (8 * k)) &&& 255
def LB (M : MS) : Nat → Int32 → Int32 → Int32
  | 0, _, _ => 0
  | d + 1, p, a =>
    if p = -1 then
      if m_deed M d = 6 ∧ rch (m_much M d) (a - m_where M d) then m_what M d
      else if m_deed M d = 5 ∧ ¬ m_much M d ≤ a then LB M d (m_who M d) (m_where M d + a)
      else LB M d p a
    else if m_who M d = p then
      if m_deed M d = 1 then LB M d (m_what M d) a
      else if m_deed M d = 2 ∧ rch (m_much M d) (a - m_where M d) then 0
      else if m_deed M d = 3 ∧ rch (m_much M d) (a - m_where M d) then byt (m_what M d) (a - m_where M d)
      else if m_deed M d = 4 ∧ rch (m_much M d) (a - m_where M d) then LB M d (-1) (a - m_where M d)
      else LB M d p a
    else LB M d p a
theorem h39_0 {M : MS} {x3 x4 x6 k : Int32} {d : Nat} (hd : d < 2 ^ 31) : (j_M_byteOf_h39 M x3 x4 (nI d) x6 k = 0) = ¬ rch (m_much M d) k := by
  unfold j_M_byteOf_h39 rch
  rw [nI_clamp hd]
  by_cases h1 : k < 0
  · simp [h1]
  · by_cases h2 : m_much M d ≤ k
    · simp [h1, h2]
    · have : ¬ (1 : Int32) = 0 := by decide
      simp [h1, h2, this]
set_option maxHeartbeats 4000000 in
theorem LB_h {M : MS} : ∀ (d f : Nat) (p a : Int32), d < f → d < 2 ^ 31 → j_M_byteOf_h13 f M p a (nI d - 1) = LB M d p a := by
  intro d
  induction d with
  | zero =>
    intro f p a hf _
    obtain ⟨f, rfl⟩ : ∃ g, f = g + 1 := ⟨f - 1, by omega⟩
    rw [j_M_byteOf_h13, if_pos (by decide)]
    rfl
  | succ d ih =>
    intro f p a hf hd
    obtain ⟨f, rfl⟩ : ∃ g, f = g + 1 := ⟨f - 1, by omega⟩
    have hs : nI d + (-1) = nI d - 1 := (Int32.sub_eq_add_neg _ _).symm
    have ih' : ∀ p a, j_M_byteOf_h13 f M p a (nI d - 1) = LB M d p a := fun p a => ih f p a (by omega) (by omega)
    have e1 : ¬ (6 : Int32) = 5 := by decide
    have e2 : ¬ (1 : Int32) = 2 := by decide
    have e3 : ¬ (1 : Int32) = 3 := by decide
    have e4 : ¬ (1 : Int32) = 4 := by decide
    have e5 : ¬ (2 : Int32) = 1 := by decide
    have e6 : ¬ (2 : Int32) = 3 := by decide
    have e7 : ¬ (2 : Int32) = 4 := by decide
    have e8 : ¬ (3 : Int32) = 1 := by decide
    have e9 : ¬ (3 : Int32) = 2 := by decide
    have e10 : ¬ (3 : Int32) = 4 := by decide
    have e11 : ¬ (4 : Int32) = 1 := by decide
    have e12 : ¬ (4 : Int32) = 2 := by decide
    have e13 : ¬ (4 : Int32) = 3 := by decide
    have e14 : ¬ (5 : Int32) = 6 := by decide
    rw [j_M_byteOf_h13, nI_pred, if_neg (nI_pos (by omega)), LB]
    simp only [h39_0 (show d < 2 ^ 31 by omega), nI_clamp (show d < 2 ^ 31 by omega), hs, ih']
    by_cases hp : p = -1
    · by_cases r : rch (m_much M d) (a - m_where M d)
      · by_cases k6 : m_deed M d = 6
        · simp [hp, k6, r, e1]
        · by_cases k5 : m_deed M d = 5
          · by_cases z : m_much M d ≤ a
            · simp only [hp, k6, k5, z, e14, if_true, if_false, and_false, false_and, not_true_eq_false]
            · simp only [hp, k6, k5, z, e14, if_true, if_false, and_false, false_and, true_and, not_false_eq_true]
          · simp only [hp, k6, k5, if_true, if_false, false_and]
      · by_cases k6 : m_deed M d = 6
        · simp only [hp, k6, r, e1, if_true, if_false, and_false, false_and, not_false_eq_true]
        · by_cases k5 : m_deed M d = 5
          · by_cases z : m_much M d ≤ a
            · simp only [hp, k6, k5, z, e14, if_true, if_false, and_false, false_and, not_true_eq_false]
            · simp only [hp, k6, k5, z, e14, if_true, if_false, and_false, false_and, true_and, not_false_eq_true]
          · simp only [hp, k6, k5, if_true, if_false, false_and]
    · by_cases hw : m_who M d = p
      · by_cases r : rch (m_much M d) (a - m_where M d)
        · by_cases k1 : m_deed M d = 1
          · simp only [hp, hw, k1, r, e2, e3, e4, if_true, if_false, false_and]
          · by_cases k2 : m_deed M d = 2
            · simp only [hp, hw, k2, e5, e6, e7, if_true, if_false, false_and, true_and]
              rw [if_neg (fun q => q r), if_pos r]
            · by_cases k3 : m_deed M d = 3
              · simp only [hp, hw, k3, e8, e9, e10, if_true, if_false, false_and, true_and, byt]
                rw [if_neg (fun q => q r), if_pos r]
              · by_cases k4 : m_deed M d = 4
                · simp only [hp, hw, k4, e11, e12, e13, if_true, if_false, false_and, true_and]
                  rw [if_neg (fun q => q r), if_pos r]
                · simp only [hp, hw, k1, k2, k3, k4, if_true, if_false, false_and]
        · by_cases k1 : m_deed M d = 1
          · simp only [hp, hw, k1, r, e2, e3, e4, if_true, if_false, false_and]
          · by_cases k2 : m_deed M d = 2
            · simp only [hp, hw, k2, r, e5, e6, e7, if_true, if_false, and_false, false_and, not_false_eq_true]
            · by_cases k3 : m_deed M d = 3
              · simp only [hp, hw, k3, r, e8, e9, e10, if_true, if_false, and_false, false_and, not_false_eq_true]
              · by_cases k4 : m_deed M d = 4
                · simp only [hp, hw, k4, r, e11, e12, e13, if_true, if_false, and_false, false_and, not_false_eq_true]
                · simp only [hp, hw, k1, k2, k3, k4, if_true, if_false, false_and]
      · simp only [hp, hw, if_false]
theorem byteOf_LB {M : MS} {d : Nat} (h : m_deeds M = nI d) (hd : d < 2 ^ 31) (p a : Int32) : j_M_byteOf M p a = LB M d p a := by
  unfold j_M_byteOf
  rw [h, nI_clamp hd]
  exact LB_h d (d + 1) p a (by omega) hd
set_option maxHeartbeats 4000000 in
theorem pB_h {M : MS} : ∀ (d f : Nat) (p a : Int32), d ≤ 1536 → p_M_byteOf_h13 f M p a (nI d - 1) := by
  intro d
  induction d with
  | zero =>
    intro f p a _
    cases f with
    | zero => exact trivial
    | succ f =>
      rw [p_M_byteOf_h13, if_pos (by decide)]
      exact trivial
  | succ d ih =>
    intro f p a hd
    cases f with
    | zero => exact trivial
    | succ f =>
      have hs : nI d + (-1) = nI d - 1 := (Int32.sub_eq_add_neg _ _).symm
      have ih' : ∀ p a, p_M_byteOf_h13 f M p a (nI d - 1) := fun p a => ih f p a (by omega)
      have hv : vp_in (nI d) 1536 := vp_in_nI (by omega) (by decide)
      rw [p_M_byteOf_h13, nI_pred, if_neg (nI_pos (by omega))]
      simp only [hs]
      refine ⟨hv, ?_, ?_⟩
      · unfold p_M_byteOf_h39
        split
        · exact trivial
        · exact ⟨hv, trivial⟩
      · repeat' split
        all_goals first | exact trivial | exact ih' _ _
theorem pB {M : MS} {d : Nat} (h : m_deeds M = nI d) (hd : d ≤ 1536) (p a : Int32) : p_M_byteOf M p a := by
  unfold p_M_byteOf
  rw [h]
  exact ⟨nI_pos (by omega), pB_h d _ p a hd⟩
/-- a deed more -/
theorem LB_note {M M' : MS} {d : Nat} (h : ∀ i, i < d → m_deed M' i = m_deed M i ∧ m_who M' i = m_who M i ∧ m_where M' i = m_where M i ∧ m_much M' i = m_much M i ∧ m_what M' i = m_what M i) : ∀ (e : Nat) (p a : Int32), e ≤ d → LB M' e p a = LB M e p a := by
  intro e
  induction e with
  | zero => intro p a _; rfl
  | succ e ih =>
    intro p a he
    obtain ⟨h1, h2, h3, h4, h5⟩ := h e (by omega)
    rw [LB, LB, h1, h2, h3, h4, h5]
    simp only [ih _ _ (show e ≤ d by omega)]
