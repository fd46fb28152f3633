section MT
variable {n : Nat} {M M' : MS} {al : Nat → Bool} {en : Nat → Nat} {hs : Nat → Nat → Bool} {kn fl : Nat → Nat → Nat} {rg : Nat → Nat → Bool} {K P R d : Nat} {ps pn rs rn pk : Nat → Nat} {k p l r q A κ a : Nat} {B : Nat → Nat → Int32} {bf : Nat → Int32}
/-- earlier rows of the same region -/
def erl (ps pn : Nat → Nat) (q i j : Nat) : Nat := cnt j (fun y => decide (ps y = q ∧ pn y / 1024 = pn i / 1024))
theorem pe_28 (h : MRw n M al en hs kn fl rg K P R ps pn rs rn) (b : AB al hs kn fl rg K) (hq : q < 16) (x2 : Int32) {i : Nat} (hi : i < P) : ∀ (m j : Nat), j ≤ i → i - j < m → p_M_peopled_h28 m M (nI q) x2 (nI i) (if erl ps pn q i j = 0 then 1 else 0) (nI j) ∧ j_M_peopled_h28 m M (nI q) x2 (nI i) (if erl ps pn q i j = 0 then 1 else 0) (nI j) = if erl ps pn q i i = 0 then 1 else 0 := by
  obtain ⟨⟨h1, h2, h3, h4⟩, ⟨h5, h6⟩, h7, h8, h9, h10, h11, -⟩ := h
  intro m
  induction m with
  | zero => intro j _ h; exact absurd h (Nat.not_lt_zero _)
  | succ m ih =>
    intro j hj hm
    rw [j_M_peopled_h28, p_M_peopled_h28]
    by_cases c : j = i
    · subst c
      rw [if_pos (nI_le (Nat.le_refl _) (by omega)), if_pos (nI_le (Nat.le_refl _) (by omega))]
      exact ⟨trivial, rfl⟩
    · rw [if_neg (nI_ge (by omega) (by omega)), if_neg (nI_ge (by omega) (by omega)), nI_clamp (by omega), nI_clamp (by omega), nI_1]
      obtain ⟨a1, a2, a3, a4, a5⟩ := h9 j (by omega)
      obtain ⟨c1, c2, c3, c4, c5⟩ := h9 i (by omega)
      have hb := (b.1 _ _ a5)
      have hb' := (b.1 _ _ c5)
      have hin : vp_in (nI i) 128 := vp_in_nI (by omega) (by decide)
      have hjn : vp_in (nI j) 128 := vp_in_nI (by omega) (by decide)
      have hi1 := ih (j + 1) (by omega) (by omega)
      have hst : erl ps pn q i (j + 1) = erl ps pn q i j + (if decide (ps j = q ∧ pn j / 1024 = pn i / 1024) = true then 1 else 0) := rfl
      rw [a1, a2, c2, div1024 (by omega), div1024 (by omega)]
      by_cases d1 : ps j = q
      · have d1' : nI (ps j) = nI q := by rw [d1]
        rw [if_pos d1', if_pos d1']
        by_cases d2 : pn j / 1024 = pn i / 1024
        · have d2' : nI (pn j / 1024) = nI (pn i / 1024) := by rw [d2]
          rw [if_pos (decide_eq_true ⟨d1, d2⟩)] at hst
          rw [if_pos d2', if_pos d2']
          rw [if_neg (show ¬ erl ps pn q i (j + 1) = 0 by omega)] at hi1
          exact ⟨⟨hjn, hin, hi1.1⟩, hi1.2⟩
        · have d2' : ¬ nI (pn j / 1024) = nI (pn i / 1024) := fun z => d2 ((nI_eq (by omega) (by omega)).mp z)
          rw [if_neg (by rw [decide_eq_true_iff]; exact fun z => d2 z.2), Nat.add_zero] at hst
          rw [if_neg d2', if_neg d2']
          rw [hst] at hi1
          exact ⟨⟨hjn, hin, hi1.1⟩, hi1.2⟩
      · have d1' : ¬ nI (ps j) = nI q := fun z => d1 ((nI_eq (by omega) (by omega)).mp z)
        rw [if_neg (by rw [decide_eq_true_iff]; exact fun z => d1 z.1), Nat.add_zero] at hst
        rw [if_neg d1', if_neg d1']
        rw [hst] at hi1
        exact ⟨⟨hjn, hi1.1⟩, hi1.2⟩
def peo (ps pn : Nat → Nat) (q i : Nat) : Bool := decide (ps i = q ∧ erl ps pn q i i = 0)
theorem pe_4 (h : MRw n M al en hs kn fl rg K P R ps pn rs rn) (b : AB al hs kn fl rg K) (hq : q < 16) : ∀ (m i : Nat), i ≤ P → P - i < m → p_M_peopled_h4 m M (nI q) (nI (cnt i (peo ps pn q))) (nI i) ∧ j_M_peopled_h4 m M (nI q) (nI (cnt i (peo ps pn q))) (nI i) = nI (cnt P (peo ps pn q)) := by
  have hh := h
  obtain ⟨⟨h1, h2, h3, h4⟩, ⟨h5, h6⟩, h7, h8, h9, h10, h11, -⟩ := hh
  intro m
  induction m with
  | zero => intro j _ h; exact absurd h (Nat.not_lt_zero _)
  | succ m ih =>
    intro i hi hm
    rw [j_M_peopled_h4, p_M_peopled_h4, h2]
    by_cases c : i = P
    · subst c
      rw [if_pos (nI_le (Nat.le_refl _) (by omega)), if_pos (nI_le (Nat.le_refl _) (by omega))]
      exact ⟨trivial, rfl⟩
    · rw [if_neg (nI_ge (by omega) (by omega)), if_neg (nI_ge (by omega) (by omega)), nI_clamp (by omega), nI_1, nI_1]
      obtain ⟨a1, a2, a3, a4, a5⟩ := h9 i (by omega)
      have hb := (b.1 _ _ a5)
      have hin : vp_in (nI i) 128 := vp_in_nI (by omega) (by decide)
      have hi1 := ih (i + 1) (by omega) (by omega)
      have hst : cnt (i + 1) (peo ps pn q) = cnt i (peo ps pn q) + (if peo ps pn q i = true then 1 else 0) := rfl
      obtain ⟨x1, x2⟩ := pe_28 h b hq (nI (cnt i (peo ps pn q))) (show i < P by omega) (i + 1) 0 (Nat.zero_le _) (by omega)
      have e0 : (if erl ps pn q i 0 = 0 then (1 : Int32) else 0) = 1 := rfl
      rw [e0, nI_0] at x1 x2
      rw [a1]
      by_cases d1 : ps i = q
      · have d1' : nI (ps i) = nI q := by rw [d1]
        rw [if_pos d1', if_pos d1', x2]
        by_cases d2 : erl ps pn q i i = 0
        · rw [if_pos (show peo ps pn q i = true from decide_eq_true ⟨d1, d2⟩)] at hst
          rw [if_pos d2, if_neg (by decide), if_neg (by decide)]
          rw [hst] at hi1
          exact ⟨⟨hin, x1, hi1.1⟩, hi1.2⟩
        · rw [if_neg (show ¬ peo ps pn q i = true by unfold peo; rw [decide_eq_true_iff]; exact fun z => d2 z.2), Nat.add_zero] at hst
          rw [if_neg d2, if_pos rfl, if_pos rfl]
          rw [hst] at hi1
          exact ⟨⟨hin, x1, hi1.1⟩, hi1.2⟩
      · have d1' : ¬ nI (ps i) = nI q := fun z => d1 ((nI_eq (by omega) (by omega)).mp z)
        rw [if_neg (show ¬ peo ps pn q i = true by unfold peo; rw [decide_eq_true_iff]; exact fun z => d1 z.1), Nat.add_zero] at hst
        rw [if_neg d1', if_neg d1']
        rw [hst] at hi1
        exact ⟨⟨hin, hi1.1⟩, hi1.2⟩
/-- the reference's peopled -/
theorem M_peopled (h : MRw n M al en hs kn fl rg K P R ps pn rs rn) (b : AB al hs kn fl rg K) (hq : q < 16) : p_M_peopled M (nI q) ∧ j_M_peopled M (nI q) = nI (cnt 256 (hpi hs q)) := by
  obtain ⟨x1, x2⟩ := pe_4 h b hq (P + 1) 0 (Nat.zero_le _) (by omega)
  unfold p_M_peopled j_M_peopled
  rw [h.1.2.1, nI_clamp (by have := h.2.1.1; omega)]
  have e0 : nI (cnt 0 (peo ps pn q)) = 0 := rfl
  rw [e0, nI_0] at x2
  rw [e0, nI_0] at x1
  refine ⟨x1, ?_⟩
  rw [x2]
  congr 1
  obtain ⟨⟨h1, h2, h3, h4⟩, ⟨h5, h6⟩, h7, h8, h9, h10, h11, -⟩ := h
  have hno : ∀ i j, i < j → peo ps pn q j = true → ps i = q → pn i / 1024 = pn j / 1024 → False := fun i j hij e a a' => by
    have := (of_decide_eq_true e).2
    have z := cnt_none this i hij
    exact absurd ⟨a, a'⟩ (of_decide_eq_false z)
  apply Nat.le_antisymm
  · refine cnt_rel (fun i y => pn i / 1024 = y ∧ peo ps pn q i = true) (fun i hi e => ?_) (fun i j y hi hj x x' => ?_)
    · have e' := of_decide_eq_true e
      have a5 := (h9 i hi).2.2.2.2
      obtain ⟨b1, b2, b3, b4, b5⟩ := b.1 _ _ a5
      rw [e'.1] at a5
      exact ⟨pn i / 1024, by omega, hpi_t.mpr ⟨_, rfl, a5⟩, rfl, e⟩
    · rcases Nat.lt_trichotomy i j with c | c | c
      · exact absurd (hno i j c x'.2 (of_decide_eq_true x.2).1 (x.1.trans x'.1.symm)) id
      · exact c
      · exact absurd (hno j i c x.2 (of_decide_eq_true x'.2).1 (x'.1.trans x.1.symm)) id
  · refine cnt_rel (fun y i => pn i / 1024 = y) (fun y hy e => ?_) (fun y y' i _ _ x x' => x.symm.trans x')
    obtain ⟨p, p1, p2⟩ := hpi_t.mp e
    obtain ⟨i, i1, i2, i3⟩ := h11 _ _ p2
    obtain ⟨i0, ⟨w1, w2, w3⟩, w4⟩ := pk_least (fun i => i < P ∧ ps i = q ∧ pn i / 1024 = y) ⟨i, i1, i2, by rw [i3]; exact p1⟩
    refine ⟨i0, w1, decide_eq_true ⟨w2, cnt_0 (fun j hj => decide_eq_false (fun z => w4 j hj ⟨by omega, z.1, z.2.trans w3⟩))⟩, w3⟩
set_option maxHeartbeats 2000000 in
/-- the reference's rows of a copy -/
theorem fo_h (hk : k < 16) (hq : q < 16) (hkq : q ≠ k) (hs0 : ∀ p, hs k p = false) (rg0 : ∀ r, rg k r = false) (b : AB al hs kn fl (fun k' r => rg k' r) K) (hkn : ∀ p, kn k p = kn q p) (hfl : ∀ p, fl k p = fl q p) (hak : al k = true) (hP : P ≤ 128)
    (h9 : ∀ i, i < P → hs (ps i) (pn i) = true) (h10 : ∀ i j, i < P → j < P → ps i = ps j → pn i = pn j → i = j) (h11 : ∀ k p, hs k p = true → ∃ i, i < P ∧ ps i = k ∧ pn i = p)
    (hBD : BD 128 (cpy hs k q)) (hBR : BD 32 (cpr rg hs k q)) (hd : d < 1536) : ∀ (m i : Nat) (M' : MS) (hs' rg' : Nat → Nat → Bool) (P' R' : Nat) (ps' pn' rs' rn' : Nat → Nat), i ≤ P → P - i < m → MRw n M' al en hs' kn fl rg' K P' R' ps' pn' rs' rn' → P ≤ P' → (∀ x, x < P → ps' x = ps x ∧ pn' x = pn x) →
      (∀ k' p, k' ≠ k → hs' k' p = hs k' p) → (∀ p, hs' k p = true ↔ ∃ j, j < i ∧ ps j = q ∧ pn j = p) → (∀ k' r, k' ≠ k → rg' k' r = rg k' r) → (∀ r, rg' k r = true ↔ ∃ j, j < i ∧ ps j = q ∧ pn j / 1024 = r) → MLg M' d B bf →
      p_M_fork_h63 m M' (nI q) (nI k) (nI P) (nI i) ∧ (j_M_fork_h63 m M' (nI q) (nI k) (nI P) (nI i)).1 = nI k ∧ (∃ P2 R2 ps2 pn2 rs2 rn2, MRw n (j_M_fork_h63 m M' (nI q) (nI k) (nI P) (nI i)).2 al en (cpy hs k q) kn fl (cpr rg hs k q) K P2 R2 ps2 pn2 rs2 rn2) ∧ MLg (j_M_fork_h63 m M' (nI q) (nI k) (nI P) (nI i)).2 (d + 1) (cpy B k q) bf ∧ m_trap (j_M_fork_h63 m M' (nI q) (nI k) (nI P) (nI i)).2 = m_trap M' := by
  intro m
  induction m with
  | zero => intro i _ _ _ _ _ _ _ _ _ _ h; exact absurd h (Nat.not_lt_zero _)
  | succ m ih =>
    intro i M' hs' rg' P' R' ps' pn' rs' rn' hi hm h hPP hsame H1 H2 G1 G2 hL
    rw [j_M_fork_h63, p_M_fork_h63]
    by_cases c : i = P
    · subst c
      rw [if_pos (nI_le (Nat.le_refl _) (by omega)), if_pos (nI_le (Nat.le_refl _) (by omega))]
      have e1 : hs' = cpy hs k q := by
        funext k' p
        by_cases e : k' = k
        · rw [e, cpy_s]
          apply Bool.eq_iff_iff.mpr
          rw [H2]
          refine ⟨fun ⟨j, j1, j2, j3⟩ => ?_, fun z => ?_⟩
          · have := h9 j j1
            rw [j2, j3] at this
            exact this
          · obtain ⟨j, j1, j2, j3⟩ := h11 _ _ z
            exact ⟨j, j1, j2, j3⟩
        · rw [cpy_n e, H1 _ _ e]
      have e2 : rg' = cpr rg hs k q := by
        funext k' r
        by_cases e : k' = k
        · rw [e, cpr_s]
          apply Bool.eq_iff_iff.mpr
          rw [G2, hpi_t]
          refine ⟨fun ⟨j, j1, j2, j3⟩ => ?_, fun ⟨p, p1, p2⟩ => ?_⟩
          · have := h9 j j1
            rw [j2] at this
            exact ⟨pn j, j3, this⟩
          · obtain ⟨j, j1, j2, j3⟩ := h11 _ _ p2
            exact ⟨j, j1, j2, by rw [j3]; exact p1⟩
        · rw [cpr_n e, G1 _ _ e]
      obtain ⟨l1, l2⟩ := ML_1 hL hd hk hq
      rw [e1, e2] at h
      exact ⟨⟨l1, trivial⟩, rfl, ⟨P', R', ps', pn', rs', rn', N_rows h _ _ _ _ _⟩, l2, rfl⟩
    · have hiP : i < P := by omega
      rw [if_neg (nI_ge (by omega) (by omega)), if_neg (nI_ge (by omega) (by omega)), nI_clamp (by omega), nI_1]
      obtain ⟨a1, a2, a3, a4, a5⟩ := h.2.2.2.2.1 i (by omega)
      obtain ⟨s1, s2⟩ := hsame i hiP
      rw [s1, s2] at a3 a4 a5
      rw [s1] at a1
      rw [s2] at a2
      have ho := h9 i hiP
      obtain ⟨b1, b2, b3, b4, b5⟩ := b.1 _ _ ho
      have hin : vp_in (nI i) 128 := vp_in_nI (by omega) (by decide)
      by_cases d1 : ps i = q
      · have d1' : m_ps M' i = nI q := by rw [a1, d1]
        rw [if_pos d1', if_pos d1']
        rw [d1] at a3 a4 a5 b3 b4 b5 ho
        have hnew : hs' k (pn i) = false := by
          cases z : hs' k (pn i) with
          | false => rfl
          | true =>
            obtain ⟨j, j1, j2, j3⟩ := (H2 _).mp z
            have := h10 j i (by omega) hiP (j2.trans d1.symm) j3
            omega
        have b' : AB al hs' kn fl rg' K := by
          refine ⟨fun k' p z => ?_, fun k' r z => ?_⟩
          · by_cases e : k' = k
            · subst e
              obtain ⟨j, j1, j2, j3⟩ := (H2 _).mp z
              have := h9 j (by omega)
              rw [j2, j3] at this
              obtain ⟨y1, y2, y3, y4, y5⟩ := b.1 _ _ this
              rw [hfl, hkn]
              exact ⟨hk, y2, (G2 _).mpr ⟨j, j1, j2, by rw [j3]⟩, y4, y5⟩
            · rw [H1 _ _ e] at z
              rw [G1 _ _ e]
              exact b.1 _ _ z
          · by_cases e : k' = k
            · subst e
              obtain ⟨j, j1, j2, j3⟩ := (G2 _).mp z
              have := (b.1 _ _ (h9 j (by omega))).2.1
              exact ⟨hk, by omega, hak⟩
            · rw [G1 _ _ e] at z
              exact b.2 _ _ z
        have hsub : ∀ k' p, up2 hs' k (pn i) true k' p = true → cpy hs k q k' p = true := fun k' p z => by
          by_cases e : k' = k
          · subst e
            rw [cpy_s]
            by_cases e2 : p = pn i
            · rw [e2]; exact ho
            · rw [up2_n (fun z2 => e2 z2.2)] at z
              obtain ⟨j, j1, j2, j3⟩ := (H2 _).mp z
              have := h9 j (by omega)
              rw [j2, j3] at this
              exact this
          · rw [up2_n (fun z2 => e z2.1), H1 _ _ e] at z
            rw [cpy_n e]
            exact z
        have hsubR : ∀ k' r, up2 rg' k (pn i / 1024) true k' r = true → cpr rg hs k q k' r = true := fun k' r z => by
          by_cases e : k' = k
          · subst e
            rw [cpr_s]
            apply hpi_t.mpr
            by_cases e2 : r = pn i / 1024
            · exact ⟨pn i, e2.symm, ho⟩
            · rw [up2_n (fun z2 => e2 z2.2)] at z
              obtain ⟨j, j1, j2, j3⟩ := (G2 _).mp z
              have := h9 j (by omega)
              rw [j2] at this
              exact ⟨pn j, j3, this⟩
          · rw [up2_n (fun z2 => e z2.1), G1 _ _ e] at z
            rw [cpr_n e]
            exact z
        obtain ⟨m1, ⟨R2, rs2, rn2, m2⟩, m3, m4⟩ := M_add (l := fl q (pn i)) (κ := kn q (pn i)) h b' hk b2 hnew (BD_mono hBD hsub) (BD_mono hBR hsubR)
        rw [up2_id (hkn _), up2_id (hfl _)] at m2
        rw [a2, a3, a4]
        obtain ⟨r1, r2, r3, r4, r5⟩ := ih (i + 1) _ _ _ _ _ _ _ _ _ (by omega) (by omega) m2 (by omega) (fun x hx => by
          rw [va_up_ne _ _ (by omega), va_up_ne _ _ (by omega)]
          exact hsame x hx) (fun k' p e => by rw [up2_n (fun z => e z.1)]; exact H1 _ _ e) (fun p => by
          by_cases e : p = pn i
          · rw [e, up2_s]
            exact ⟨fun _ => ⟨i, by omega, d1, rfl⟩, fun _ => rfl⟩
          · rw [up2_n (fun z => e z.2), H2]
            refine ⟨fun ⟨j, j1, j2, j3⟩ => ⟨j, by omega, j2, j3⟩, fun ⟨j, j1, j2, j3⟩ => ⟨j, ?_, j2, j3⟩⟩
            by_cases e2 : j = i
            · rw [e2] at j3
              exact absurd j3.symm e
            · omega) (fun k' r e => by rw [up2_n (fun z => e z.1)]; exact G1 _ _ e) (fun r => by
          by_cases e : r = pn i / 1024
          · rw [e, up2_s]
            exact ⟨fun _ => ⟨i, by omega, d1, rfl⟩, fun _ => rfl⟩
          · rw [up2_n (fun z => e z.2), G2]
            refine ⟨fun ⟨j, j1, j2, j3⟩ => ⟨j, by omega, j2, j3⟩, fun ⟨j, j1, j2, j3⟩ => ⟨j, ?_, j2, j3⟩⟩
            by_cases e2 : j = i
            · rw [e2] at j3
              exact absurd j3.symm e
            · omega) (m3 _ _ _ hL)
        exact ⟨⟨hin, m1, r1⟩, r2, r3, r4, by rw [r5, m4]⟩
      · have d1' : ¬ m_ps M' i = nI q := fun z => d1 ((nI_eq (by omega) (by omega)).mp (a1.symm.trans z))
        rw [if_neg d1', if_neg d1']
        obtain ⟨r1, r2, r3, r4, r5⟩ := ih (i + 1) M' hs' rg' P' R' ps' pn' rs' rn' (by omega) (by omega) h hPP hsame H1 (fun p => by
          rw [H2]
          refine ⟨fun ⟨j, j1, j2, j3⟩ => ⟨j, by omega, j2, j3⟩, fun ⟨j, j1, j2, j3⟩ => ⟨j, ?_, j2, j3⟩⟩
          by_cases e2 : j = i
          · rw [e2] at j2
            exact absurd j2 d1
          · omega) G1 (fun r => by
          rw [G2]
          refine ⟨fun ⟨j, j1, j2, j3⟩ => ⟨j, by omega, j2, j3⟩, fun ⟨j, j1, j2, j3⟩ => ⟨j, ?_, j2, j3⟩⟩
          by_cases e2 : j = i
          · rw [e2] at j2
            exact absurd j2 d1
          · omega) hL
        exact ⟨⟨hin, r1⟩, r2, r3, r4, r5⟩
end MT
