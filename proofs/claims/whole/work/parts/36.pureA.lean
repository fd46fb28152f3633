/-! the log -/
def MLg (M : MS) (d : Nat) (B : Nat → Nat → Int32) (bf : Nat → Int32) : Prop :=
  m_deeds M = nI d ∧ d ≤ 1536 ∧ (∀ k, k < 16 → ∀ A, A < 2 ^ 30 → LB M d (nI k) (nI A) = B k A) ∧ (∀ j, j < 512 → LB M d (-1) (nI j) = bf j)
theorem rch_nI {A W m : Nat} (hA : A < 2 ^ 30) (hW : W < 2 ^ 30) (hm : m < 2 ^ 30) : rch (nI m) (nI A - nI W) ↔ W ≤ A ∧ A < W + m := by
  unfold rch
  by_cases c : W ≤ A
  · rw [pk_sub c]
    refine ⟨fun z => ⟨c, ?_⟩, fun z => ⟨nI_pos (by omega), nI_ge (by omega) (by omega)⟩⟩
    have := z.2
    rw [nI_leI (by omega) (by omega)] at this
    omega
  · refine ⟨fun z => absurd (pk_sneg hW (by omega)) z.1, fun z => absurd z.1 c⟩
/-- no more than so many different places -/
def BD (N : Nat) (hs : Nat → Nat → Bool) : Prop := ∀ (P : Nat) (ps pn : Nat → Nat), (∀ i, i < P → hs (ps i) (pn i) = true) → (∀ i j, i < P → j < P → ps i = ps j → pn i = pn j → i = j) → P ≤ N
section MT
variable {n : Nat} {M M' : MS} {al : Nat → Bool} {en : Nat → Nat} {hs : Nat → Nat → Bool} {kn fl : Nat → Nat → Nat} {rg : Nat → Nat → Bool} {K P R d : Nat} {ps pn rs rn pk : Nat → Nat} {k p l r q A κ : Nat} {B : Nat → Nat → Int32} {bf : Nat → Int32}
theorem ML_same (h : MLg M d B bf) (e0 : m_deeds M' = m_deeds M) (e1 : m_deed M' = m_deed M) (e2 : m_who M' = m_who M) (e3 : m_where M' = m_where M) (e4 : m_much M' = m_much M) (e5 : m_what M' = m_what M) : MLg M' d B bf := by
  have hL : ∀ p a, LB M' d p a = LB M d p a := fun p a => LB_note (d := d) (fun i _ => ⟨by rw [e1], by rw [e2], by rw [e3], by rw [e4], by rw [e5]⟩) d p a (Nat.le_refl _)
  exact ⟨by rw [e0]; exact h.1, h.2.1, fun k hk A hA => by rw [hL]; exact h.2.2.1 k hk A hA, fun j hj => by rw [hL]; exact h.2.2.2 j hj⟩
theorem note_f (h : MLg M d B bf) (hd : d < 1536) (a1 a2 a3 a4 a5 : Int32) : p_M_note M a1 a2 a3 a4 a5 ∧ m_deeds (j_M_note M a1 a2 a3 a4 a5) = nI (d + 1) ∧ (∀ p a, LB (j_M_note M a1 a2 a3 a4 a5) d p a = LB M d p a) ∧ m_deed (j_M_note M a1 a2 a3 a4 a5) d = a1 ∧ m_who (j_M_note M a1 a2 a3 a4 a5) d = a2 ∧ m_where (j_M_note M a1 a2 a3 a4 a5) d = a3 ∧ m_much (j_M_note M a1 a2 a3 a4 a5) d = a4 ∧ m_what (j_M_note M a1 a2 a3 a4 a5) d = a5 := by
  have h1 := h.1
  have hc : (m_deeds M).toNatClampNeg = d := by rw [h1, nI_clamp (by omega)]
  have g1 : m_deed (j_M_note M a1 a2 a3 a4 a5) = upd (m_deed M) d a1 := by rw [← hc]; rfl
  have g2 : m_who (j_M_note M a1 a2 a3 a4 a5) = upd (m_who M) d a2 := by rw [← hc]; rfl
  have g3 : m_where (j_M_note M a1 a2 a3 a4 a5) = upd (m_where M) d a3 := by rw [← hc]; rfl
  have g4 : m_much (j_M_note M a1 a2 a3 a4 a5) = upd (m_much M) d a4 := by rw [← hc]; rfl
  have g5 : m_what (j_M_note M a1 a2 a3 a4 a5) = upd (m_what M) d a5 := by rw [← hc]; rfl
  refine ⟨⟨by rw [h1]; exact vp_in_nI hd (by decide), trivial⟩, ?_, fun p a => LB_note (d := d) (fun i hi => ⟨by rw [g1, pk_un (by omega)], by rw [g2, pk_un (by omega)], by rw [g3, pk_un (by omega)], by rw [g4, pk_un (by omega)], by rw [g5, pk_un (by omega)]⟩) d p a (Nat.le_refl _), by rw [g1, pk_us], by rw [g2, pk_us], by rw [g3, pk_us], by rw [g4, pk_us], by rw [g5, pk_us]⟩
  show m_deeds M + 1 = _
  rw [h1, nI_1]
/-- a copy of a space -/
theorem ML_1 (h : MLg M d B bf) (hd : d < 1536) (hk : k < 16) (hq : q < 16) : p_M_note M 1 (nI k) 0 0 (nI q) ∧ MLg (j_M_note M 1 (nI k) 0 0 (nI q)) (d + 1) (cpy B k q) bf := by
  obtain ⟨n1, n2, n3, n4, n5, n6, n7, n8⟩ := note_f h hd 1 (nI k) 0 0 (nI q)
  refine ⟨n1, n2, by omega, fun k' hk' A hA => ?_, fun j hj => ?_⟩
  · rw [LB, n4, n5, n8, if_neg (nI_m1 (by omega))]
    simp only [n3]
    by_cases e : k' = k
    · subst e
      rw [if_pos rfl, if_pos trivial, cpy_s]
      exact h.2.2.1 q hq A hA
    · rw [if_neg (fun z => e ((nI_eq (by omega) (by omega)).mp z).symm), cpy_n e]
      exact h.2.2.1 k' hk' A hA
  · rw [LB, n4, if_pos rfl, if_neg (fun z => absurd z.1 (by decide)), if_neg (fun z => absurd z.1 (by decide)), n3]
    exact h.2.2.2 j hj
/-- a page of zeros -/
theorem ML_2 (h : MLg M d B bf) (hd : d < 1536) (hk : k < 16) (hp : p < 2 ^ 18) : p_M_note M 2 (nI k) (nI (p * 4096)) 4096 0 ∧ MLg (j_M_note M 2 (nI k) (nI (p * 4096)) 4096 0) (d + 1) (zpg B k p) bf := by
  obtain ⟨n1, n2, n3, n4, n5, n6, n7, n8⟩ := note_f h hd 2 (nI k) (nI (p * 4096)) 4096 0
  refine ⟨n1, n2, by omega, fun k' hk' A hA => ?_, fun j hj => ?_⟩
  · rw [LB, n4, n5, n6, n7, if_neg (nI_m1 (by omega))]
    simp only [n3]
    unfold zpg
    by_cases e : k' = k
    · subst e
      rw [if_pos rfl, if_neg (by decide)]
      have hr := rch_nI (A := A) (W := p * 4096) (m := 4096) hA (by omega) (by decide)
      by_cases g : A / 4096 = p
      · rw [if_pos ⟨trivial, hr.mpr (by omega)⟩, if_pos ⟨rfl, g⟩]
      · rw [if_neg (fun z => g (by have := hr.mp z.2; omega)), if_neg (fun z => absurd z.1 (by decide)), if_neg (fun z => absurd z.1 (by decide)), if_neg (fun z => g z.2)]
        exact h.2.2.1 k' hk' A hA
    · rw [if_neg (fun z => e ((nI_eq (by omega) (by omega)).mp z).symm), if_neg (fun z => e z.1)]
      exact h.2.2.1 k' hk' A hA
  · rw [LB, n4, if_pos rfl, if_neg (fun z => absurd z.1 (by decide)), if_neg (fun z => absurd z.1 (by decide)), n3]
    exact h.2.2.2 j hj
/-- bytes of a number -/
def wrb (B : Nat → Nat → Int32) (k A0 w : Nat) (f : Nat → Int32) : Nat → Nat → Int32 := fun k' A => if k' = k ∧ A0 ≤ A ∧ A < A0 + w then f (A - A0) else B k' A
theorem ML_3 (h : MLg M d B bf) (hd : d < 1536) (hk : k < 16) {A0 w : Nat} (hA0 : A0 < 2 ^ 30) (hw : w ≤ 4) (x : Int32) : p_M_note M 3 (nI k) (nI A0) (nI w) x ∧ MLg (j_M_note M 3 (nI k) (nI A0) (nI w) x) (d + 1) (wrb B k A0 w (fun i => byt x (nI i))) bf := by
  obtain ⟨n1, n2, n3, n4, n5, n6, n7, n8⟩ := note_f h hd 3 (nI k) (nI A0) (nI w) x
  refine ⟨n1, n2, by omega, fun k' hk' A hA => ?_, fun j hj => ?_⟩
  · rw [LB, n4, n5, n6, n7, n8, if_neg (nI_m1 (by omega))]
    simp only [n3]
    unfold wrb
    by_cases e : k' = k
    · subst e
      rw [if_pos rfl, if_neg (by decide), if_neg (fun z => absurd z.1 (by decide))]
      have hr := rch_nI (A := A) (W := A0) (m := w) hA (by omega) (by omega)
      by_cases g : A0 ≤ A ∧ A < A0 + w
      · rw [if_pos ⟨trivial, hr.mpr g⟩, if_pos ⟨rfl, g⟩, pk_sub g.1]
      · rw [if_neg (fun z => g (hr.mp z.2)), if_neg (fun z => absurd z.1 (by decide)), if_neg (fun z => g z.2)]
        exact h.2.2.1 k' hk' A hA
    · rw [if_neg (fun z => e ((nI_eq (by omega) (by omega)).mp z).symm), if_neg (fun z => e z.1)]
      exact h.2.2.1 k' hk' A hA
  · rw [LB, n4, if_pos rfl, if_neg (fun z => absurd z.1 (by decide)), if_neg (fun z => absurd z.1 (by decide)), n3]
    exact h.2.2.2 j hj
theorem ML_4 (h : MLg M d B bf) (hd : d < 1536) (hk : k < 16) {A0 w : Nat} (hA0 : A0 < 2 ^ 30) (hw : w ≤ 512) (x : Int32) : p_M_note M 4 (nI k) (nI A0) (nI w) x ∧ MLg (j_M_note M 4 (nI k) (nI A0) (nI w) x) (d + 1) (wrb B k A0 w bf) bf := by
  obtain ⟨n1, n2, n3, n4, n5, n6, n7, n8⟩ := note_f h hd 4 (nI k) (nI A0) (nI w) x
  refine ⟨n1, n2, by omega, fun k' hk' A hA => ?_, fun j hj => ?_⟩
  · rw [LB, n4, n5, n6, n7, n8, if_neg (nI_m1 (by omega))]
    simp only [n3]
    unfold wrb
    by_cases e : k' = k
    · subst e
      rw [if_pos rfl, if_neg (by decide), if_neg (fun z => absurd z.1 (by decide)), if_neg (fun z => absurd z.1 (by decide))]
      have hr := rch_nI (A := A) (W := A0) (m := w) hA (by omega) (by omega)
      by_cases g : A0 ≤ A ∧ A < A0 + w
      · rw [if_pos ⟨trivial, hr.mpr g⟩, if_pos ⟨rfl, g⟩, pk_sub g.1]
        exact h.2.2.2 _ (by omega)
      · rw [if_neg (fun z => g (hr.mp z.2)), if_neg (fun z => g z.2)]
        exact h.2.2.1 k' hk' A hA
    · rw [if_neg (fun z => e ((nI_eq (by omega) (by omega)).mp z).symm), if_neg (fun z => e z.1)]
      exact h.2.2.1 k' hk' A hA
  · rw [LB, n4, if_pos rfl, if_neg (fun z => absurd z.1 (by decide)), if_neg (fun z => absurd z.1 (by decide)), n3]
    exact h.2.2.2 j hj
/-- bytes that came into the buffer -/
def cmb (bf : Nat → Int32) (w : Nat) (f : Nat → Int32) : Nat → Int32 := fun j => if j < w then f j else bf j
theorem ML_5 (h : MLg M d B bf) (hd : d < 1536) (hk : k < 16) {A0 w : Nat} (hw : w ≤ 512) (hA0 : A0 + w ≤ 2 ^ 30) (x : Int32) : p_M_note M 5 (nI k) (nI A0) (nI w) x ∧ MLg (j_M_note M 5 (nI k) (nI A0) (nI w) x) (d + 1) B (cmb bf w (fun j => B k (A0 + j))) := by
  obtain ⟨n1, n2, n3, n4, n5, n6, n7, n8⟩ := note_f h hd 5 (nI k) (nI A0) (nI w) x
  refine ⟨n1, n2, by omega, fun k' hk' A hA => ?_, fun j hj => ?_⟩
  · rw [LB, n4, n5, if_neg (nI_m1 (by omega))]
    simp only [n3]
    rw [if_neg (show ¬ (5 : Int32) = 1 by decide), if_neg (c := (5 : Int32) = 2 ∧ _) (fun z => absurd z.1 (by decide)), if_neg (c := (5 : Int32) = 3 ∧ _) (fun z => absurd z.1 (by decide)), if_neg (c := (5 : Int32) = 4 ∧ _) (fun z => absurd z.1 (by decide)), ite_self]
    exact h.2.2.1 k' hk' A hA
  · rw [LB, n4, n5, n6, n7, if_pos rfl, if_neg (fun z => absurd z.1 (by decide)), n3, n3]
    unfold cmb
    by_cases g : j < w
    · rw [if_pos ⟨rfl, nI_ge g (by omega)⟩, if_pos g, nI_add]
      exact h.2.2.1 k hk _ (by omega)
    · rw [if_neg (fun z => z.2 (nI_le (by omega) (by omega))), if_neg g]
      exact h.2.2.2 j hj
theorem ML_6 (h : MLg M d B bf) (hd : d < 1536) {j0 : Nat} (hj0 : j0 < 512) (x : Int32) : p_M_note M 6 (-1) (nI j0) 1 x ∧ MLg (j_M_note M 6 (-1) (nI j0) 1 x) (d + 1) B (upd bf j0 x) := by
  obtain ⟨n1, n2, n3, n4, n5, n6, n7, n8⟩ := note_f h hd 6 (-1) (nI j0) 1 x
  refine ⟨n1, n2, by omega, fun k' hk' A hA => ?_, fun j hj => ?_⟩
  · rw [LB, n5, if_neg (nI_m1 (by omega)), if_neg (fun z => nI_m1 (show k' < 2 ^ 31 by omega) z.symm), n3]
    exact h.2.2.1 k' hk' A hA
  · rw [LB, n4, n6, n7, n8, if_pos rfl, n3, n3]
    have hr := rch_nI (A := j) (W := j0) (m := 1) (by omega) (by omega) (by decide)
    by_cases g : j = j0
    · subst g
      rw [if_pos ⟨rfl, hr.mpr (by omega)⟩, pk_us]
    · rw [if_neg (fun z => g (by have := hr.mp z.2; omega)), if_neg (fun z => absurd z.1 (by decide)), pk_un g]
      exact h.2.2.2 j hj
/-! rows -/
theorem N_rows (h : MRw n M al en hs kn fl rg K P R ps pn rs rn) (a1 a2 a3 a4 a5 : Int32) : MRw n (j_M_note M a1 a2 a3 a4 a5) al en hs kn fl rg K P R ps pn rs rn := h
theorem T_rows (h : MRw n M al en hs kn fl rg K P R ps pn rs rn) (x : Int32) : MRw n (t_trap M x) al en hs kn fl rg K P R ps pn rs rn := h
theorem T_log (h : MLg M d B bf) (x : Int32) : MLg (t_trap M x) d B bf := ML_same h rfl rfl rfl rfl rfl rfl
set_option maxHeartbeats 1000000 in
/-- a page's row more -/
theorem M_add (h : MRw n M al en hs kn fl rg K P R ps pn rs rn) (b : AB al hs kn fl rg K) (hk : k < 16) (hp : p < 2 ^ 18) (h0 : hs k p = false)
    (hBD : BD 128 (up2 hs k p true)) (hBR : BD 32 (up2 rg k (p / 1024) true)) :
    p_M_add M (nI k) (nI p) (nI l) (nI κ) ∧ (∃ R' rs' rn', MRw n (j_M_add M (nI k) (nI p) (nI l) (nI κ)) al en (up2 hs k p true) (up2 kn k p κ) (up2 fl k p l) (up2 rg k (p / 1024) true) K (P + 1) R' (va_up ps P k) (va_up pn P p) rs' rn') ∧ (∀ d B bf, MLg M d B bf → MLg (j_M_add M (nI k) (nI p) (nI l) (nI κ)) d B bf) ∧ m_trap (j_M_add M (nI k) (nI p) (nI l) (nI κ)) = m_trap M := by
  have hr : p / 1024 < 256 := by omega
  obtain ⟨q1, q2⟩ := M_hasR h b hk hr
  obtain ⟨⟨h1, h2, h3, h4⟩, ⟨h5, h6⟩, h7, h8, h9, h10, h11, h12, h13, h14⟩ := h
  have hnew : ∀ i, i < P → ¬ (ps i = k ∧ pn i = p) := fun i hi z => by
    have := (h9 i hi).2.2.2.2
    rw [z.1, z.2, h0] at this
    cases this
  have hx : ∀ i, i < P + 1 → (i = P ∧ va_up ps P k i = k ∧ va_up pn P p i = p) ∨ (i < P ∧ va_up ps P k i = ps i ∧ va_up pn P p i = pn i) := fun i hi => by
    by_cases e : i = P
    · subst e
      exact Or.inl ⟨rfl, va_up_self _ _ _, va_up_self _ _ _⟩
    · exact Or.inr ⟨by omega, va_up_ne _ _ e, va_up_ne _ _ e⟩
  have hin : ∀ i j, i < P + 1 → j < P + 1 → va_up ps P k i = va_up ps P k j → va_up pn P p i = va_up pn P p j → i = j := fun i j hi hj a a' => by
    rcases hx i hi with ⟨x1, x2, x3⟩ | ⟨x1, x2, x3⟩
    · rcases hx j hj with ⟨y1, y2, y3⟩ | ⟨y1, y2, y3⟩
      · omega
      · rw [x2, y2] at a
        rw [x3, y3] at a'
        exact absurd ⟨a.symm, a'.symm⟩ (hnew j y1)
    · rcases hx j hj with ⟨y1, y2, y3⟩ | ⟨y1, y2, y3⟩
      · rw [x2, y2] at a
        rw [x3, y3] at a'
        exact absurd ⟨a, a'⟩ (hnew i x1)
      · rw [x2, y2] at a
        rw [x3, y3] at a'
        exact h10 i j x1 y1 a a'
  have hon : ∀ i, i < P + 1 → up2 hs k p true (va_up ps P k i) (va_up pn P p i) = true := fun i hi => by
    rcases hx i hi with ⟨x1, x2, x3⟩ | ⟨x1, x2, x3⟩
    · rw [x2, x3, up2_s]
    · rw [x2, x3, up2_n (hnew i x1)]
      exact (h9 i x1).2.2.2.2
  have hP : P + 1 ≤ 128 := hBD (P + 1) _ _ hon hin
  have hcP : (m_pages M).toNatClampNeg = P := by rw [h2, nI_clamp (by omega)]
  have hcR : (m_regions M).toNatClampNeg = R := by rw [h3, nI_clamp (by omega)]
  have hcomp : ∀ k' p', up2 hs k p true k' p' = true → ∃ i, i < P + 1 ∧ va_up ps P k i = k' ∧ va_up pn P p i = p' := fun k' p' a => by
    by_cases e : k' = k ∧ p' = p
    · exact ⟨P, by omega, by rw [va_up_self, e.1], by rw [va_up_self, e.2]⟩
    · rw [up2_n e] at a
      obtain ⟨i, i1, i2, i3⟩ := h11 _ _ a
      exact ⟨i, by omega, by rw [va_up_ne _ _ (by omega)]; exact i2, by rw [va_up_ne _ _ (by omega)]; exact i3⟩
  have hrow : ∀ (F : MS), m_ps F = upd (m_ps M) P (nI k) → m_pn F = upd (m_pn M) P (nI p) → m_pf F = upd (m_pf M) P (nI l) → m_pk F = upd (m_pk M) P (nI κ) → ∀ i, i < P + 1 → m_ps F i = nI (va_up ps P k i) ∧ m_pn F i = nI (va_up pn P p i) ∧ m_pf F i = nI (up2 fl k p l (va_up ps P k i) (va_up pn P p i)) ∧ m_pk F i = nI (up2 kn k p κ (va_up ps P k i) (va_up pn P p i)) ∧ up2 hs k p true (va_up ps P k i) (va_up pn P p i) = true := fun F f1 f2 f3 f4 i hi => by
    refine ⟨?_, ?_, ?_, ?_, hon i hi⟩
    all_goals rcases hx i hi with ⟨x1, x2, x3⟩ | ⟨x1, x2, x3⟩
    · rw [x1, f1, pk_us, va_up_self]
    · rw [x2, f1, pk_un (by omega)]; exact (h9 i x1).1
    · rw [x1, f2, pk_us, va_up_self]
    · rw [x3, f2, pk_un (by omega)]; exact (h9 i x1).2.1
    · rw [x2, x3, up2_s, x1, f3, pk_us]
    · rw [x2, x3, up2_n (hnew i x1), f3, pk_un (by omega)]; exact (h9 i x1).2.2.1
    · rw [x2, x3, up2_s, x1, f4, pk_us]
    · rw [x2, x3, up2_n (hnew i x1), f4, pk_un (by omega)]; exact (h9 i x1).2.2.2.1
  have hinP : vp_in (m_pages M) 128 := by rw [h2]; exact vp_in_nI (by omega) (by decide)
  unfold p_M_add j_M_add
  rw [div1024 (by omega)]
  by_cases g : rg k (p / 1024) = true
  · have e1 : ¬ j_M_hasRegion M (nI k) (nI (p / 1024)) = 0 := by rw [q2, if_pos g]; decide
    rw [if_neg e1, if_neg e1, up2_id g, hcP]
    refine ⟨⟨q1, hinP, trivial⟩, ⟨R, rs, rn, ⟨h1, ?_, h3, h4⟩, ⟨hP, h6⟩, h7, h8, hrow _ rfl rfl rfl rfl, hin, hcomp, h12, h13, h14⟩, fun d B bf hL => ML_same hL rfl rfl rfl rfl rfl rfl, rfl⟩
    show m_pages M + 1 = _
    rw [h2, nI_1]
  · have g' : rg k (p / 1024) = false := by simpa using g
    have e1 : j_M_hasRegion M (nI k) (nI (p / 1024)) = 0 := by rw [q2, if_neg g]
    have hnewR : ∀ i, i < R → ¬ (rs i = k ∧ rn i = p / 1024) := fun i hi z => by
      have := (h12 i hi).2.2
      rw [z.1, z.2, g'] at this
      cases this
    have hxR : ∀ i, i < R + 1 → (i = R ∧ va_up rs R k i = k ∧ va_up rn R (p / 1024) i = p / 1024) ∨ (i < R ∧ va_up rs R k i = rs i ∧ va_up rn R (p / 1024) i = rn i) := fun i hi => by
      by_cases e : i = R
      · subst e
        exact Or.inl ⟨rfl, va_up_self _ _ _, va_up_self _ _ _⟩
      · exact Or.inr ⟨by omega, va_up_ne _ _ e, va_up_ne _ _ e⟩
    have hinR : ∀ i j, i < R + 1 → j < R + 1 → va_up rs R k i = va_up rs R k j → va_up rn R (p / 1024) i = va_up rn R (p / 1024) j → i = j := fun i j hi hj a a' => by
      rcases hxR i hi with ⟨x1, x2, x3⟩ | ⟨x1, x2, x3⟩
      · rcases hxR j hj with ⟨y1, y2, y3⟩ | ⟨y1, y2, y3⟩
        · omega
        · rw [x2, y2] at a
          rw [x3, y3] at a'
          exact absurd ⟨a.symm, a'.symm⟩ (hnewR j y1)
      · rcases hxR j hj with ⟨y1, y2, y3⟩ | ⟨y1, y2, y3⟩
        · rw [x2, y2] at a
          rw [x3, y3] at a'
          exact absurd ⟨a, a'⟩ (hnewR i x1)
        · rw [x2, y2] at a
          rw [x3, y3] at a'
          exact h13 i j x1 y1 a a'
    have honR : ∀ i, i < R + 1 → up2 rg k (p / 1024) true (va_up rs R k i) (va_up rn R (p / 1024) i) = true := fun i hi => by
      rcases hxR i hi with ⟨x1, x2, x3⟩ | ⟨x1, x2, x3⟩
      · rw [x2, x3, up2_s]
      · rw [x2, x3, up2_n (hnewR i x1)]
        exact (h12 i x1).2.2
    have hRb : R + 1 ≤ 32 := hBR (R + 1) _ _ honR hinR
    rw [if_pos e1, if_pos e1, hcR]
    refine ⟨⟨q1, by rw [h3]; exact vp_in_nI (by omega) (by decide), hinP, trivial⟩, ⟨R + 1, va_up rs R k, va_up rn R (p / 1024), ⟨h1, ?_, ?_, h4⟩, ⟨hP, hRb⟩, h7, h8, ?_, hin, hcomp, fun i hi => ?_, hinR, fun k' r' a => ?_⟩, fun d B bf hL => ML_same hL rfl rfl rfl rfl rfl rfl, rfl⟩
    · show m_pages M + 1 = _
      rw [h2, nI_1]
    · show m_regions M + 1 = _
      rw [h3, nI_1]
    · have hcP2 : (m_pages (t_regions (t_rn (t_rs M R (nI k)) R (nI (p / 1024))) (m_regions M + 1))).toNatClampNeg = P := hcP
      exact hrow _ (by rw [← hcP]; rfl) (by rw [← hcP]; rfl) (by rw [← hcP]; rfl) (by rw [← hcP]; rfl)
    · show upd (m_rs M) R (nI k) i = _ ∧ upd (m_rn M) R (nI (p / 1024)) i = _ ∧ _
      refine ⟨?_, ?_, honR i hi⟩
      all_goals rcases hxR i hi with ⟨x1, x2, x3⟩ | ⟨x1, x2, x3⟩
      · rw [x2, x1, pk_us]
      · rw [x2, pk_un (by omega)]; exact (h12 i x1).1
      · rw [x3, x1, pk_us]
      · rw [x3, pk_un (by omega)]; exact (h12 i x1).2.1
    · by_cases e : k' = k ∧ r' = p / 1024
      · exact ⟨R, by omega, by rw [va_up_self, e.1], by rw [va_up_self, e.2]⟩
      · rw [up2_n e] at a
        obtain ⟨i, i1, i2, i3⟩ := h14 _ _ a
        exact ⟨i, by omega, by rw [va_up_ne _ _ (by omega)]; exact i2, by rw [va_up_ne _ _ (by omega)]; exact i3⟩
end MT
