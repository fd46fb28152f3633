theorem cnt_or {N : Nat} {f g : Nat → Bool} : cnt N (fun i => f i || g i) ≤ cnt N f + cnt N g := by
  induction N with
  | zero => exact Nat.le_refl _
  | succ N ih =>
    rw [cnt, cnt, cnt]
    cases f N <;> cases g N <;> simp <;> omega
theorem cnt_all {N : Nat} {f : Nat → Bool} (h : ∀ i, i < N → f i = true) : cnt N f = N := by
  induction N with
  | zero => rfl
  | succ N ih => rw [cnt, ih (fun i hi => h i (by omega)), if_pos (h N (by omega))]
theorem t128 : ∀ t, t ≤ 16 → t * (32 - 2 * t) ≤ 128 := by decide
theorem BD_mono {N : Nat} {f g : Nat → Nat → Bool} (h : BD N g) (hfg : ∀ k p, f k p = true → g k p = true) : BD N f := fun P ps pn a b => h P ps pn (fun i hi => hfg _ _ (a i hi)) b
section MT
variable {n : Nat} {M M' : MS} {al : Nat → Bool} {en : Nat → Nat} {hs : Nat → Nat → Bool} {kn fl : Nat → Nat → Nat} {rg : Nat → Nat → Bool} {K P R d : Nat} {ps pn rs rn pk : Nat → Nat} {k p l r q A κ a : Nat} {B : Nat → Nat → Int32} {bf : Nat → Int32}
set_option maxHeartbeats 1000000 in
theorem CG_BD {V : VS} {rf : Nat → Nat} {tf : Nat → Nat → Nat} {kf : Nat → Nat} {ow : Nat → Nat × Nat × Nat} (c : CG n V al en hs hs kn fl rg rg K B bf rf tf kf pk ow) (hn : n ≤ 32) : BD 128 hs ∧ BD 32 rg := by
  obtain ⟨b, hpk⟩ := CG_AB c
  have e3 := c.2.2.2.1.2
  refine ⟨fun P ps pn h5 h6 => ?_, fun R rs rn h8 h9 => ?_⟩
  · have hA : ∀ m, cnt P (fun i => decide (ps i < m)) ≤ cnt m (fun k => decide (0 < cnt P (fun i => decide (ps i = k)))) * cnt K (lvs hs kn pk) := by
      intro m
      induction m with
      | zero => rw [cnt_0 (fun i _ => decide_eq_false (Nat.not_lt_zero _))]; exact Nat.zero_le _
      | succ m ih =>
        have h1 : cnt P (fun i => decide (ps i < m + 1)) ≤ cnt P (fun i => decide (ps i < m)) + cnt P (fun i => decide (ps i = m)) := by
          have e : cnt P (fun i => decide (ps i < m + 1)) = cnt P (fun i => decide (ps i < m) || decide (ps i = m)) := cnt_congr (fun i _ => by
            rw [← Bool.decide_or, decide_eq_decide]
            omega)
          rw [e]
          exact cnt_or
        rw [cnt, Nat.add_mul]
        by_cases e : 0 < cnt P (fun i => decide (ps i = m))
        · rw [if_pos (decide_eq_true e), Nat.one_mul]
          have h2 : cnt P (fun i => decide (ps i = m)) ≤ cnt K (lvs hs kn pk) := by
            refine cnt_rel (fun i y => kn (ps i) (pn i) = y ∧ ps i = m) (fun i hi z => ?_) (fun i j y hi hj x x' => ?_)
            · have a5 := h5 i hi
              obtain ⟨b1, b2, b3, b4, b5⟩ := b.1 _ _ a5
              exact ⟨_, b5, decide_eq_true (shr_pos a5 b1 (hpk _ _ a5)), rfl, of_decide_eq_true z⟩
            · have x1 := hpk _ _ (h5 i hi)
              have x2 := hpk _ _ (h5 j hj)
              rw [x.1] at x1
              rw [x'.1] at x2
              exact h6 i j hi hj (x.2.trans x'.2.symm) (x1.symm.trans x2)
          omega
        · rw [if_neg (by rw [decide_eq_true_iff]; exact e)]
          omega
    have h16 := hA 16
    rw [cnt_all (fun i hi => decide_eq_true (b.1 _ _ (h5 i hi)).1)] at h16
    have ht1 : cnt 16 (fun k => decide (0 < cnt P (fun i => decide (ps i = k)))) ≤ cnt 16 al := cnt_mono (fun k _ z => by
      obtain ⟨i, hi, e⟩ := cnt_some (of_decide_eq_true z)
      have := (b.2 _ _ (b.1 _ _ (h5 i hi)).2.2.1).2.2
      rw [of_decide_eq_true e] at this
      exact this)
    have ht2 : cnt 16 (fun k => decide (0 < cnt P (fun i => decide (ps i = k)))) ≤ regs rg := by
      refine cnt_rel (fun k y => y / 256 = k) (fun k hk z => ?_) (fun k k' y _ _ x x' => x.symm.trans x')
      obtain ⟨i, hi, e⟩ := cnt_some (of_decide_eq_true z)
      have e' := of_decide_eq_true e
      obtain ⟨b1, b2, b3, b4, b5⟩ := b.1 _ _ (h5 i hi)
      rw [e'] at b3
      refine ⟨256 * k + pn i / 1024, by omega, ?_, by omega⟩
      show rg ((256 * k + pn i / 1024) / 256) ((256 * k + pn i / 1024) % 256) = true
      rw [show (256 * k + pn i / 1024) / 256 = k by omega, show (256 * k + pn i / 1024) % 256 = pn i / 1024 by omega]
      exact b3
    have ht3 := cnt_le 16 (fun k => decide (0 < cnt P (fun i => decide (ps i = k))))
    have h128 := t128 _ ht3
    have hmul := Nat.mul_le_mul_left (cnt 16 (fun k => decide (0 < cnt P (fun i => decide (ps i = k))))) (show cnt K (lvs hs kn pk) ≤ 32 - 2 * cnt 16 (fun k => decide (0 < cnt P (fun i => decide (ps i = k)))) by omega)
    exact Nat.le_trans h16 (Nat.le_trans hmul h128)
  · have hR : cnt R (fun _ => true) = R := cnt_all (fun _ _ => rfl)
    have : cnt R (fun _ => true) ≤ regs rg := by
      refine cnt_rel (fun i y => rs i = y / 256 ∧ rn i = y % 256) (fun i hi _ => ?_) (fun i j y hi hj a a' => h9 i j hi hj (a.1.trans a'.1.symm) (a.2.trans a'.2.symm))
      have a := h8 i hi
      obtain ⟨b1, b2, b3⟩ := b.2 _ _ a
      refine ⟨256 * rs i + rn i, by omega, ?_, by omega, by omega⟩
      show rg ((256 * rs i + rn i) / 256) ((256 * rs i + rn i) % 256) = true
      rw [show (256 * rs i + rn i) / 256 = rs i by omega, show (256 * rs i + rn i) % 256 = rn i by omega]
      exact a
    omega
/-! rows less -/
def mrow (M : MS) (x : Nat) : Int32 × Int32 × Int32 × Int32 := (m_ps M x, m_pn M x, m_pf M x, m_pk M x)
def SameP (M M' : MS) : Prop := (∀ s, s ≠ 2 → M'.1 s = M.1 s) ∧ (∀ a, a < 2 ∨ 5 < a → M'.2 a = M.2 a)
theorem mput (M' : MS) (i j x : Nat) : mrow (t_pk (t_pf (t_pn (t_ps M' j (m_ps M' i)) j (m_pn M' i)) j (m_pf M' i)) j (m_pk M' i)) x = if x = j then mrow M' i else mrow M' x := by
  show (upd (m_ps M') j (m_ps M' i) x, upd (m_pn M') j (m_pn M' i) x, upd (m_pf M') j (m_pf M' i) x, upd (m_pk M') j (m_pk M' i) x) = _
  by_cases e : x = j
  · rw [if_pos e, e, pk_us, pk_us, pk_us, pk_us]
    rfl
  · rw [if_neg e, pk_un e, pk_un e, pk_un e, pk_un e]
    rfl
theorem SameP_put {M M' : MS} (h : SameP M M') (j : Nat) (x1 x2 x3 x4 : Int32) : SameP M (t_pk (t_pf (t_pn (t_ps M' j x1) j x2) j x3) j x4) := by
  refine ⟨h.1, fun a ha => ?_⟩
  rw [← h.2 a ha]
  show va_up (va_up (va_up (va_up M'.2 2 _) 3 _) 4 _) 5 _ a = _
  rw [va_up_ne _ _ (by omega), va_up_ne _ _ (by omega), va_up_ne _ _ (by omega), va_up_ne _ _ (by omega)]
set_option maxHeartbeats 1000000 in
theorem rp_h (h : MRw n M al en hs kn fl rg K P R ps pn rs rn) (b : AB al hs kn fl rg K) (hk : k < 16) (ha : a ≤ 2 ^ 30) : ∀ (m i j : Nat) (M' : MS) (g : Nat → Nat), i ≤ P → P - i < m → j ≤ i → m_pages M' = nI P → SameP M M' →
    (∀ x, x < j → g x < i ∧ ¬ (ps (g x) = k ∧ a ≤ pn (g x) * 4096) ∧ mrow M' x = mrow M (g x)) → (∀ x y, x < j → y < j → g x = g y → x = y) → (∀ y, y < i → ¬ (ps y = k ∧ a ≤ pn y * 4096) → ∃ x, x < j ∧ g x = y) → (∀ x, i ≤ x → mrow M' x = mrow M x) →
    p_M_removePages_h5 m M' (nI k) (nI a) (nI j) (nI i) ∧ ∃ (j' : Nat) (g' : Nat → Nat), j' ≤ P ∧ m_pages (j_M_removePages_h5 m M' (nI k) (nI a) (nI j) (nI i)) = nI j' ∧ SameP M (j_M_removePages_h5 m M' (nI k) (nI a) (nI j) (nI i)) ∧
      (∀ x, x < j' → g' x < P ∧ ¬ (ps (g' x) = k ∧ a ≤ pn (g' x) * 4096) ∧ mrow (j_M_removePages_h5 m M' (nI k) (nI a) (nI j) (nI i)) x = mrow M (g' x)) ∧ (∀ x y, x < j' → y < j' → g' x = g' y → x = y) ∧ (∀ y, y < P → ¬ (ps y = k ∧ a ≤ pn y * 4096) → ∃ x, x < j' ∧ g' x = y) := by
  obtain ⟨⟨h1, h2, h3, h4⟩, ⟨h5, h6⟩, h7, h8, h9, h10, h11, -⟩ := h
  intro m
  induction m with
  | zero => intro i _ _ _ _ h; exact absurd h (Nat.not_lt_zero _)
  | succ m ih =>
    intro i j M' g hi hm hj hpg hsm k1 k2 k3 k4
    rw [j_M_removePages_h5, p_M_removePages_h5, hpg]
    by_cases c : i = P
    · subst c
      rw [if_pos (nI_le (Nat.le_refl _) (by omega)), if_pos (nI_le (Nat.le_refl _) (by omega))]
      refine ⟨trivial, j, g, hj, rfl, ⟨fun s hs' => ?_, hsm.2⟩, k1, k2, k3⟩
      rw [← hsm.1 s hs']
      show upd M'.1 2 _ s = _
      rw [pk_un hs']
    · have hiP : i < P := by omega
      rw [if_neg (nI_ge (by omega) (by omega)), if_neg (nI_ge (by omega) (by omega)), nI_clamp (by omega), nI_clamp (by omega), nI_1, nI_1]
      obtain ⟨a1, a2, a3, a4, a5⟩ := h9 i hiP
      obtain ⟨b1, b2, b3, b4, b5⟩ := b.1 _ _ a5
      have hin : vp_in (nI i) 128 := vp_in_nI (by omega) (by decide)
      have hjn : vp_in (nI j) 128 := vp_in_nI (by omega) (by decide)
      have hrow := k4 i (Nat.le_refl _)
      have f1 : m_ps M' i = nI (ps i) := (congrArg (fun t => t.1) hrow).trans a1
      have f2 : m_pn M' i = nI (pn i) := (congrArg (fun t => t.2.1) hrow).trans a2
      have hmul : nI (pn i) * 4096 = nI (pn i * 4096) := pk_mul _ 4096
      have keep : ¬ (ps i = k ∧ a ≤ pn i * 4096) → p_M_removePages_h5 m (t_pk (t_pf (t_pn (t_ps M' j (m_ps M' i)) j (m_pn M' i)) j (m_pf M' i)) j (m_pk M' i)) (nI k) (nI a) (nI (j + 1)) (nI (i + 1)) ∧ ∃ (j' : Nat) (g' : Nat → Nat), j' ≤ P ∧ m_pages (j_M_removePages_h5 m (t_pk (t_pf (t_pn (t_ps M' j (m_ps M' i)) j (m_pn M' i)) j (m_pf M' i)) j (m_pk M' i)) (nI k) (nI a) (nI (j + 1)) (nI (i + 1))) = nI j' ∧ SameP M (j_M_removePages_h5 m (t_pk (t_pf (t_pn (t_ps M' j (m_ps M' i)) j (m_pn M' i)) j (m_pf M' i)) j (m_pk M' i)) (nI k) (nI a) (nI (j + 1)) (nI (i + 1))) ∧
          (∀ x, x < j' → g' x < P ∧ ¬ (ps (g' x) = k ∧ a ≤ pn (g' x) * 4096) ∧ mrow (j_M_removePages_h5 m (t_pk (t_pf (t_pn (t_ps M' j (m_ps M' i)) j (m_pn M' i)) j (m_pf M' i)) j (m_pk M' i)) (nI k) (nI a) (nI (j + 1)) (nI (i + 1))) x = mrow M (g' x)) ∧ (∀ x y, x < j' → y < j' → g' x = g' y → x = y) ∧ (∀ y, y < P → ¬ (ps y = k ∧ a ≤ pn y * 4096) → ∃ x, x < j' ∧ g' x = y) := by
        intro hkp
        refine ih (i + 1) (j + 1) _ (va_up g j i) (by omega) (by omega) (by omega) hpg (SameP_put hsm _ _ _ _ _) (fun x hx => ?_) (fun x y hx hy z => ?_) (fun y hy z => ?_) (fun x hx => ?_)
        · rw [mput]
          by_cases e : x = j
          · rw [e, va_up_self, if_pos rfl]
            exact ⟨by omega, hkp, hrow⟩
          · rw [va_up_ne _ _ e, if_neg e]
            obtain ⟨y1, y2, y3⟩ := k1 x (by omega)
            exact ⟨by omega, y2, y3⟩
        · by_cases e : x = j
          · by_cases e' : y = j
            · omega
            · rw [e, va_up_self, va_up_ne _ _ e'] at z
              have := (k1 y (by omega)).1
              omega
          · by_cases e' : y = j
            · rw [e', va_up_self, va_up_ne _ _ e] at z
              have := (k1 x (by omega)).1
              omega
            · rw [va_up_ne _ _ e, va_up_ne _ _ e'] at z
              exact k2 x y (by omega) (by omega) z
        · by_cases e : y = i
          · exact ⟨j, by omega, by rw [va_up_self, e]⟩
          · obtain ⟨x, x1, x2⟩ := k3 y (by omega) z
            exact ⟨x, by omega, by rw [va_up_ne _ _ (by omega)]; exact x2⟩
        · rw [mput, if_neg (by omega)]
          exact k4 x (by omega)
      by_cases d1 : ps i = k
      · have d1' : m_ps M' i = nI k := by rw [f1, d1]
        rw [if_pos d1', if_pos d1']
        by_cases d2 : a ≤ pn i * 4096
        · have d2' : nI a ≤ m_pn M' i * 4096 := by rw [f2, hmul]; exact nI_le d2 (by omega)
          rw [if_pos d2', if_pos d2']
          obtain ⟨x1, x2⟩ := ih (i + 1) j M' g (by omega) (by omega) (by omega) hpg hsm (fun x hx => by
            obtain ⟨y1, y2, y3⟩ := k1 x hx
            exact ⟨by omega, y2, y3⟩) k2 (fun y hy z => by
            by_cases e : y = i
            · rw [e] at z
              exact absurd ⟨d1, d2⟩ z
            · exact k3 y (by omega) z) (fun x hx => k4 x (by omega))
          exact ⟨⟨hin, x1⟩, x2⟩
        · have d2' : ¬ nI a ≤ m_pn M' i * 4096 := by rw [f2, hmul]; exact nI_ge (by omega) (by omega)
          rw [if_neg d2', if_neg d2']
          obtain ⟨x1, x2⟩ := keep (fun z => d2 z.2)
          exact ⟨⟨hin, hjn, x1⟩, x2⟩
      · have d1' : ¬ m_ps M' i = nI k := fun z => d1 ((nI_eq (by omega) (by omega)).mp (f1.symm.trans z))
        rw [if_neg d1', if_neg d1']
        obtain ⟨x1, x2⟩ := keep (fun z => d1 z.1)
        exact ⟨⟨hin, hjn, x1⟩, x2⟩
set_option maxHeartbeats 1000000 in
/-- the reference's removePages -/
theorem M_remove (h : MRw n M al en hs kn fl rg K P R ps pn rs rn) (b : AB al hs kn fl rg K) (hk : k < 16) (ha : a ≤ 2 ^ 30) : p_M_removePages M (nI k) (nI a) ∧ (∃ P' ps' pn', MRw n (j_M_removePages M (nI k) (nI a)) al en (cut hs k ((a + 4095) / 4096) (2 ^ 18)) kn fl rg K P' R ps' pn' rs rn) ∧ (∀ d B bf, MLg M d B bf → MLg (j_M_removePages M (nI k) (nI a)) d B bf) ∧ m_trap (j_M_removePages M (nI k) (nI a)) = m_trap M := by
  have hP := h.2.1.1
  obtain ⟨q1, j, g, q2, q3, q4, q5, q6, q7⟩ := rp_h h b hk ha (P + 1) 0 0 M id (Nat.zero_le _) (by omega) (Nat.le_refl _) h.1.2.1 ⟨fun _ _ => rfl, fun _ _ => rfl⟩ (fun x hx => absurd hx (Nat.not_lt_zero _)) (fun x y hx => absurd hx (Nat.not_lt_zero _)) (fun y hy => absurd hy (Nat.not_lt_zero _)) (fun _ _ => rfl)
  unfold p_M_removePages j_M_removePages
  have hc : (m_pages M).toNatClampNeg = P := by rw [h.1.2.1, nI_clamp (by omega)]
  rw [hc]
  rw [nI_0] at q1 q3 q4 q5
  have hcut : ∀ i, i < P → (cut hs k ((a + 4095) / 4096) (2 ^ 18) (ps i) (pn i) = true ↔ ¬ (ps i = k ∧ a ≤ pn i * 4096)) := fun i hi => by
    have a5 := (h.2.2.2.2.1 i hi).2.2.2.2
    have hb := (b.1 _ _ a5).2.1
    by_cases e : ps i = k ∧ (a + 4095) / 4096 ≤ pn i ∧ pn i < 2 ^ 18
    · rw [e.1, cut_in e.2.1 e.2.2]
      refine ⟨fun z => (Bool.noConfusion z), fun z => absurd ⟨rfl, by omega⟩ z⟩
    · rw [cut_out e, a5]
      refine ⟨fun _ z => e ⟨z.1, by omega, hb⟩, fun _ => rfl⟩
  refine ⟨q1, ⟨j, fun x => ps (g x), fun x => pn (g x), ⟨?_, q3, ?_, ?_⟩, ⟨by omega, h.2.1.2⟩, ?_, ?_, fun x hx => ?_, fun x y hx hy z z' => ?_, fun k' p' z => ?_, ?_, h.2.2.2.2.2.2.2.2.1, h.2.2.2.2.2.2.2.2.2⟩, fun d B bf hL => ML_same hL (q4.1 5 (by decide)) (q4.2 8 (by decide)) (q4.2 9 (by decide)) (q4.2 10 (by decide)) (q4.2 11 (by decide)) (q4.2 12 (by decide)), q4.1 1 (by decide)⟩
  · exact (q4.1 0 (by decide)).trans h.1.1
  · exact (q4.1 4 (by decide)).trans h.1.2.2.1
  · exact (q4.1 3 (by decide)).trans h.1.2.2.2
  · intro k' hk'
    rw [← h.2.2.1 k' hk']
    exact congrFun (q4.2 0 (by decide)) k'
  · intro k' hk' ha'
    rw [← h.2.2.2.1 k' hk' ha']
    exact congrFun (q4.2 1 (by decide)) k'
  · obtain ⟨y1, y2, y3⟩ := q5 x hx
    obtain ⟨a1, a2, a3, a4, a5⟩ := h.2.2.2.2.1 (g x) y1
    exact ⟨(congrArg (fun t => t.1) y3).trans a1, (congrArg (fun t => t.2.1) y3).trans a2, (congrArg (fun t => t.2.2.1) y3).trans a3, (congrArg (fun t => t.2.2.2) y3).trans a4, (hcut _ y1).mpr y2⟩
  · exact q6 x y hx hy (h.2.2.2.2.2.1 _ _ (q5 x hx).1 (q5 y hy).1 z z')
  · have z1 : hs k' p' = true := by
      by_cases e : k' = k ∧ (a + 4095) / 4096 ≤ p' ∧ p' < 2 ^ 18
      · rw [e.1, cut_in e.2.1 e.2.2] at z
        cases z
      · rw [cut_out e] at z
        exact z
    obtain ⟨i, i1, i2, i3⟩ := h.2.2.2.2.2.2.1 _ _ z1
    rw [← i2, ← i3] at z
    obtain ⟨x, x1, x2⟩ := q7 i i1 ((hcut i i1).mp z)
    exact ⟨x, x1, (congrArg _ x2).trans i2, (congrArg _ x2).trans i3⟩
  · intro i hi
    obtain ⟨c1, c2, c3⟩ := h.2.2.2.2.2.2.2.1 i hi
    exact ⟨(congrFun (q4.2 6 (by decide)) i).trans c1, (congrFun (q4.2 7 (by decide)) i).trans c2, c3⟩
def rrow (M : MS) (x : Nat) : Int32 × Int32 := (m_rs M x, m_rn M x)
def SameR (M M' : MS) : Prop := (∀ s, s ≠ 4 → M'.1 s = M.1 s) ∧ (∀ a, a < 6 ∨ 7 < a → M'.2 a = M.2 a)
theorem rput (M' : MS) (i j x : Nat) : rrow (t_rn (t_rs M' j (m_rs M' i)) j (m_rn M' i)) x = if x = j then rrow M' i else rrow M' x := by
  show (upd (m_rs M') j (m_rs M' i) x, upd (m_rn M') j (m_rn M' i) x) = _
  by_cases e : x = j
  · rw [if_pos e, e, pk_us, pk_us]
    rfl
  · rw [if_neg e, pk_un e, pk_un e]
    rfl
theorem SameR_put {M M' : MS} (h : SameR M M') (j : Nat) (x1 x2 : Int32) : SameR M (t_rn (t_rs M' j x1) j x2) := by
  refine ⟨h.1, fun a ha => ?_⟩
  rw [← h.2 a ha]
  show va_up (va_up M'.2 6 _) 7 _ a = _
  rw [va_up_ne _ _ (by omega), va_up_ne _ _ (by omega)]
set_option maxHeartbeats 1000000 in
theorem rr_h (h : MRw n M al en hs kn fl rg K P R ps pn rs rn) (b : AB al hs kn fl rg K) (hk : k < 16) : ∀ (m i j : Nat) (M' : MS) (g : Nat → Nat), i ≤ R → R - i < m → j ≤ i → m_regions M' = nI R → SameR M M' →
    (∀ x, x < j → g x < i ∧ rs (g x) ≠ k ∧ rrow M' x = rrow M (g x)) → (∀ x y, x < j → y < j → g x = g y → x = y) → (∀ y, y < i → rs y ≠ k → ∃ x, x < j ∧ g x = y) → (∀ x, i ≤ x → rrow M' x = rrow M x) →
    p_M_removeRegions_h4 m M' (nI k) (nI j) (nI i) ∧ ∃ (j' : Nat) (g' : Nat → Nat), j' ≤ R ∧ m_regions (j_M_removeRegions_h4 m M' (nI k) (nI j) (nI i)) = nI j' ∧ SameR M (j_M_removeRegions_h4 m M' (nI k) (nI j) (nI i)) ∧
      (∀ x, x < j' → g' x < R ∧ rs (g' x) ≠ k ∧ rrow (j_M_removeRegions_h4 m M' (nI k) (nI j) (nI i)) x = rrow M (g' x)) ∧ (∀ x y, x < j' → y < j' → g' x = g' y → x = y) ∧ (∀ y, y < R → rs y ≠ k → ∃ x, x < j' ∧ g' x = y) := by
  obtain ⟨⟨h1, h2, h3, h4⟩, ⟨h5, h6⟩, h7, h8, h9, h10, h11, h12, -⟩ := h
  intro m
  induction m with
  | zero => intro i _ _ _ _ h; exact absurd h (Nat.not_lt_zero _)
  | succ m ih =>
    intro i j M' g hi hm hj hpg hsm k1 k2 k3 k4
    rw [j_M_removeRegions_h4, p_M_removeRegions_h4, hpg]
    by_cases c : i = R
    · subst c
      rw [if_pos (nI_le (Nat.le_refl _) (by omega)), if_pos (nI_le (Nat.le_refl _) (by omega))]
      refine ⟨trivial, j, g, hj, rfl, ⟨fun s hs' => ?_, hsm.2⟩, k1, k2, k3⟩
      rw [← hsm.1 s hs']
      show upd M'.1 4 _ s = _
      rw [pk_un hs']
    · have hiP : i < R := by omega
      rw [if_neg (nI_ge (by omega) (by omega)), if_neg (nI_ge (by omega) (by omega)), nI_clamp (by omega), nI_clamp (by omega), nI_1, nI_1]
      obtain ⟨a1, a2, a3⟩ := h12 i hiP
      obtain ⟨b1, b2, b3⟩ := b.2 _ _ a3
      have hin : vp_in (nI i) 32 := vp_in_nI (by omega) (by decide)
      have hjn : vp_in (nI j) 32 := vp_in_nI (by omega) (by decide)
      have hrow := k4 i (Nat.le_refl _)
      have f1 : m_rs M' i = nI (rs i) := (congrArg (fun t => t.1) hrow).trans a1
      by_cases d1 : rs i = k
      · have d1' : m_rs M' i = nI k := by rw [f1, d1]
        rw [if_pos d1', if_pos d1']
        obtain ⟨x1, x2⟩ := ih (i + 1) j M' g (by omega) (by omega) (by omega) hpg hsm (fun x hx => by
            obtain ⟨y1, y2, y3⟩ := k1 x hx
            exact ⟨by omega, y2, y3⟩) k2 (fun y hy z => by
            by_cases e : y = i
            · rw [e] at z
              exact absurd d1 z
            · exact k3 y (by omega) z) (fun x hx => k4 x (by omega))
        exact ⟨⟨hin, x1⟩, x2⟩
      · have d1' : ¬ m_rs M' i = nI k := fun z => d1 ((nI_eq (by omega) (by omega)).mp (f1.symm.trans z))
        rw [if_neg d1', if_neg d1']
        obtain ⟨x1, x2⟩ := ih (i + 1) (j + 1) (t_rn (t_rs M' j (m_rs M' i)) j (m_rn M' i)) (va_up g j i) (by omega) (by omega) (by omega) hpg (SameR_put hsm _ (m_rs M' i) (m_rn M' i)) (fun x hx => by
          rw [rput]
          by_cases e : x = j
          · rw [e, va_up_self, if_pos rfl]
            exact ⟨by omega, d1, hrow⟩
          · rw [va_up_ne _ _ e, if_neg e]
            obtain ⟨y1, y2, y3⟩ := k1 x (by omega)
            exact ⟨by omega, y2, y3⟩) (fun x y hx hy z => by
          by_cases e : x = j
          · by_cases e' : y = j
            · omega
            · rw [e, va_up_self, va_up_ne _ _ e'] at z
              have := (k1 y (by omega)).1
              omega
          · by_cases e' : y = j
            · rw [e', va_up_self, va_up_ne _ _ e] at z
              have := (k1 x (by omega)).1
              omega
            · rw [va_up_ne _ _ e, va_up_ne _ _ e'] at z
              exact k2 x y (by omega) (by omega) z) (fun y hy z => by
          by_cases e : y = i
          · exact ⟨j, by omega, by rw [va_up_self, e]⟩
          · obtain ⟨x, x1, x2⟩ := k3 y (by omega) z
            exact ⟨x, by omega, by rw [va_up_ne _ _ (by omega)]; exact x2⟩) (fun x hx => by
          rw [rput, if_neg (by omega)]
          exact k4 x (by omega))
        exact ⟨⟨hin, hjn, x1⟩, x2⟩
set_option maxHeartbeats 1000000 in
/-- the reference's removeRegions -/
theorem M_removeR (h : MRw n M al en hs kn fl rg K P R ps pn rs rn) (b : AB al hs kn fl rg K) (hk : k < 16) : p_M_removeRegions M (nI k) ∧ (∃ R' rs' rn', MRw n (j_M_removeRegions M (nI k)) al en hs kn fl (cutr rg k 256) K P R' ps pn rs' rn') ∧ (∀ d B bf, MLg M d B bf → MLg (j_M_removeRegions M (nI k)) d B bf) ∧ m_trap (j_M_removeRegions M (nI k)) = m_trap M := by
  have hP := h.2.1.2
  obtain ⟨q1, j, g, q2, q3, q4, q5, q6, q7⟩ := rr_h h b hk (R + 1) 0 0 M id (Nat.zero_le _) (by omega) (Nat.le_refl _) h.1.2.2.1 ⟨fun _ _ => rfl, fun _ _ => rfl⟩ (fun x hx => absurd hx (Nat.not_lt_zero _)) (fun x y hx => absurd hx (Nat.not_lt_zero _)) (fun y hy => absurd hy (Nat.not_lt_zero _)) (fun _ _ => rfl)
  unfold p_M_removeRegions j_M_removeRegions
  have hc : (m_regions M).toNatClampNeg = R := by rw [h.1.2.2.1, nI_clamp (by omega)]
  rw [hc]
  rw [nI_0] at q1 q3 q4 q5
  refine ⟨q1, ⟨j, fun x => rs (g x), fun x => rn (g x), ⟨?_, ?_, q3, ?_⟩, ⟨h.2.1.1, by omega⟩, ?_, ?_, ?_, h.2.2.2.2.2.1, h.2.2.2.2.2.2.1, fun x hx => ?_, fun x y hx hy z z' => ?_, fun k' r' z => ?_⟩, fun d B bf hL => ML_same hL (q4.1 5 (by decide)) (q4.2 8 (by decide)) (q4.2 9 (by decide)) (q4.2 10 (by decide)) (q4.2 11 (by decide)) (q4.2 12 (by decide)), q4.1 1 (by decide)⟩
  · exact (q4.1 0 (by decide)).trans h.1.1
  · exact (q4.1 2 (by decide)).trans h.1.2.1
  · exact (q4.1 3 (by decide)).trans h.1.2.2.2
  · intro k' hk'
    rw [← h.2.2.1 k' hk']
    exact congrFun (q4.2 0 (by decide)) k'
  · intro k' hk' ha'
    rw [← h.2.2.2.1 k' hk' ha']
    exact congrFun (q4.2 1 (by decide)) k'
  · intro i hi
    obtain ⟨c1, c2, c3, c4, c5⟩ := h.2.2.2.2.1 i hi
    exact ⟨(congrFun (q4.2 2 (by decide)) i).trans c1, (congrFun (q4.2 3 (by decide)) i).trans c2, (congrFun (q4.2 4 (by decide)) i).trans c3, (congrFun (q4.2 5 (by decide)) i).trans c4, c5⟩
  · obtain ⟨y1, y2, y3⟩ := q5 x hx
    obtain ⟨a1, a2, a3⟩ := h.2.2.2.2.2.2.2.1 (g x) y1
    exact ⟨(congrArg (fun t => t.1) y3).trans a1, (congrArg (fun t => t.2) y3).trans a2, by rw [cutr_out (fun z => y2 z.1)]; exact a3⟩
  · exact q6 x y hx hy (h.2.2.2.2.2.2.2.2.1 _ _ (q5 x hx).1 (q5 y hy).1 z z')
  · have z1 : rg k' r' = true ∧ k' ≠ k := by
      by_cases e : k' = k ∧ r' < 256
      · rw [e.1, cutr_in e.2] at z
        cases z
      · rw [cutr_out e] at z
        exact ⟨z, fun z2 => e ⟨z2, (b.2 _ _ z).2.1⟩⟩
    obtain ⟨i, i1, i2, i3⟩ := h.2.2.2.2.2.2.2.2.2 _ _ z1.1
    obtain ⟨x, x1, x2⟩ := q7 i i1 (by rw [i2]; exact z1.2)
    exact ⟨x, x1, (congrArg _ x2).trans i2, (congrArg _ x2).trans i3⟩
end MT
