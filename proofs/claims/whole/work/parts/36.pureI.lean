theorem numb_1 (f : Nat → Int32) : numb f 1 = f 0 := bi_ext (fun t ht => by
  rw [numb, numb, bi_or, bi_0, Nat.mul_zero, bi_shl (by decide) _ ht]
  simp)
theorem wrb_0 {B : Nat → Nat → Int32} {k A0 : Nat} {f : Nat → Int32} : wrb B k A0 0 f = B := by
  funext k' A
  unfold wrb
  rw [if_neg (by omega)]
theorem wrb_s {B : Nat → Nat → Int32} {k A0 i : Nat} {f g : Nat → Int32} (h : g 0 = f i) : wrb (wrb B k A0 i f) k (A0 + i) 1 g = wrb B k A0 (i + 1) f := by
  funext k' A
  unfold wrb
  by_cases c : k' = k ∧ A = A0 + i
  · rw [if_pos ⟨c.1, by omega, by omega⟩, if_pos ⟨c.1, by omega, by omega⟩, c.2, show A0 + i - (A0 + i) = 0 by omega, show A0 + i - A0 = i by omega, h]
  · rw [if_neg (by omega)]
    by_cases c2 : k' = k ∧ A0 ≤ A ∧ A < A0 + i
    · rw [if_pos c2, if_pos (by omega)]
    · rw [if_neg c2, if_neg (by omega)]
theorem wrb_z {B : Nat → Nat → Int32} {k A0 i p : Nat} {f : Nat → Int32} {z : Bool} (h : z = true → ∀ j, j < i → ¬ (A0 + j) / 4096 = p) : zpo z (wrb B k A0 i f) k p = wrb (zpo z B k p) k A0 i f := by
  unfold zpo
  cases z with
  | false => rfl
  | true =>
    have h' := h rfl
    rw [if_pos rfl, if_pos rfl]
    funext k' A
    unfold zpg wrb
    by_cases c : k' = k ∧ A0 ≤ A ∧ A < A0 + i
    · have := h' (A - A0) (by omega)
      rw [show A0 + (A - A0) = A by omega] at this
      rw [if_neg (fun y => this y.2), if_pos c, if_pos c]
    · rw [if_neg c, if_neg c]
theorem cmb_0 {bf f : Nat → Int32} : cmb bf 0 f = bf := by
  funext j
  unfold cmb
  rw [if_neg (by omega)]
theorem cmb_s {bf f : Nat → Int32} {i : Nat} : upd (cmb bf i f) i (f i) = cmb bf (i + 1) f := by
  funext j
  by_cases c : j = i
  · rw [c, pk_us]
    unfold cmb
    rw [if_pos (by omega)]
  · rw [pk_un c]
    unfold cmb
    by_cases c2 : j < i
    · rw [if_pos c2, if_pos (by omega)]
    · rw [if_neg c2, if_neg (by omega)]
theorem cmb_c {bf f g : Nat → Int32} {i : Nat} (h : ∀ j, j < i → f j = g j) : cmb bf i f = cmb bf i g := by
  funext j
  unfold cmb
  by_cases c2 : j < i
  · rw [if_pos c2, if_pos c2, h j c2]
  · rw [if_neg c2, if_neg c2]
theorem zpo_out {B : Nat → Nat → Int32} {k p k' A : Nat} {z : Bool} (h : z = true → ¬ A / 4096 = p) : zpo z B k p k' A = B k' A := by
  unfold zpo
  cases z with
  | false => rfl
  | true =>
    rw [if_pos rfl]
    unfold zpg
    rw [if_neg (fun y => h rfl y.2)]
section MT
variable {n : Nat} {al : Nat → Bool} {en : Nat → Nat} {k A0 w d0 K0 : Nat} {bf : Nat → Int32}
/-- the address of a walk's byte i -/
theorem walk_a {x2 : Int32} {i A : Nat} (hA0 : A0 = x2.toNatClampNeg) (hx : 0 < i → x2 = nI A0 ∧ A0 + i ≤ 2 ^ 30) (hA : A < 2 ^ 30) (hi : i ≤ 512) (e : x2 + nI i = nI A) : A = A0 + i ∧ x2 = nI A0 := by
  by_cases c : i = 0
  · subst c
    rw [nI_0, Int32.add_zero] at e
    rw [e, nI_clamp (by omega)] at hA0
    exact ⟨by omega, by rw [hA0]; exact e⟩
  · obtain ⟨a, b⟩ := hx (by omega)
    rw [a, nI_add, nI_eq (by omega) (by omega)] at e
    exact ⟨e.symm, a⟩
set_option maxHeartbeats 4000000 in
theorem out_h (hn : n ≤ 32) (hk : k < 16) (ha : al k = true) (hw : w ≤ 512) (hbf : ∀ j, j < 512 → byt (bf j) (nI 0) = bf j) {x2 : Int32} (hA0 : A0 = x2.toNatClampNeg) (hd0 : d0 ≤ 1533) (hK0 : K0 ≤ 2 ^ 20) : ∀ (m i : Nat) (V : VS) (M : MS) (hs : Nat → Nat → Bool) (kn fl : Nat → Nat → Nat) (rg : Nat → Nat → Bool) (K d : Nat) (kf pk : Nat → Nat) (B : Nat → Nat → Int32), i ≤ w → w - i < m → ST n V M al en hs kn fl rg K d (wrb B k A0 i bf) bf B bf kf pk → (∀ k p, hs k p = true → p * 4096 < en k) → (v_trap V = 0 ∧ m_trap M = 0) → (∀ j, j < i → hs k ((A0 + j) / 4096) = true) → (0 < i → x2 = nI A0 ∧ A0 + i ≤ 2 ^ 30) → (i = 0 → d ≤ d0) → (0 < i → d ≤ d0 + 1 + ((A0 + i - 1) / 4096 - A0 / 4096)) → K ≤ K0 + i →
    p_M_walk_h8 m M (nI k) x2 (nI w) 2 (nI i) ∧ ∃ i' hs' kn' fl' rg' K' d' kf' pk' B', i' ≤ w ∧ (j_V_out_h28 n m V k x2 (nI w) (nI i)).1 = nI i' ∧ (j_M_walk_h8 m M (nI k) x2 (nI w) 2 (nI i)).1 = nI i' ∧ ST n (j_V_out_h28 n m V k x2 (nI w) (nI i)).2 (j_M_walk_h8 m M (nI k) x2 (nI w) 2 (nI i)).2 al en hs' kn' fl' rg' K' d' (wrb B' k A0 i' bf) bf B' bf kf' pk' ∧ (∀ k p, hs' k p = true → p * 4096 < en k) ∧ v_trap (j_V_out_h28 n m V k x2 (nI w) (nI i)).2 = m_trap (j_M_walk_h8 m M (nI k) x2 (nI w) 2 (nI i)).2 ∧ (0 < i' → x2 = nI A0 ∧ A0 + i' ≤ 2 ^ 30) ∧ d' ≤ d0 + 2 ∧ K' ≤ K0 + 512 := by
  intro m
  induction m with
  | zero => intro i _ _ _ _ _ _ _ _ _ _ _ _ h; exact absurd h (Nat.not_lt_zero _)
  | succ m ih =>
    intro i V M hs kn fl rg K d kf pk B hi hm s hE ht hpr hx hd1 hd2 hK
    have hdb : d ≤ d0 + 2 := by
      by_cases y : i = 0
      · have := hd1 y
        omega
      · have := hd2 (by omega)
        omega
    rw [j_V_out_h28, j_M_walk_h8, p_M_walk_h8]
    by_cases c : i = w
    · subst c
      have z1 : nI i ≤ nI i := nI_le (Nat.le_refl _) (by omega)
      rw [if_pos z1, if_pos z1, if_pos z1]
      exact ⟨trivial, i, hs, kn, fl, rg, K, d, kf, pk, B, Nat.le_refl _, rfl, rfl, s, hE, ht.1.trans ht.2.symm, hx, hdb, by omega⟩
    · have hiw : i < w := by omega
      have z1 : ¬ nI w ≤ nI i := nI_ge hiw (by omega)
      have n1 : ¬ (1 : Int32) = 0 := by decide
      have hs0 := s
      obtain ⟨rf, tf, ow, P, R, ps, pn, rs, rn, c1, h1, g1⟩ := s
      rw [if_neg z1, if_neg z1, if_neg z1, M_lives1 h1 hk ha, if_neg n1, if_neg n1, nI_clamp (show i < 2 ^ 31 by omega), nI_1, c1.2.2.2.2.2.2.2.2.2.2 i (by omega)]
      obtain ⟨t1, t2⟩ := touch_c hn (by omega) (by omega) hk ha hs0 (x2 + nI i) 2 (Or.inr (Or.inl rfl))
      unfold j_V_write
      rcases t2 with ⟨t, y1, y2, y3⟩ | ⟨A, V', M', hs', kn', fl', rg', K', d', kf', pk', z, hA, e, y2, y3, ⟨rf', tf', ow', P', R', ps', pn', rs', rn', c2, h2, g2⟩, y5, y6, y7, y8, y9, y10, y11, y12, y13, y14, y15⟩
      · have n2 : ¬ t = 0 := by rcases y1 with rfl | rfl <;> decide
        rw [y2, y3]
        dsimp only
        rw [if_neg n2, if_neg n2, if_pos (show (-1 : Int32) = -1 from rfl), if_pos (show (0 : Int32) = 0 from rfl)]
        exact ⟨⟨t1, trivial⟩, i, hs, kn, fl, rg, K, d, kf, pk, B, by omega, rfl, rfl, ⟨rf, tf, ow, P, R, ps, pn, rs, rn, c1, T_rows h1 _, T_log g1 _⟩, hE, rfl, hx, hdb, by omega⟩
      · obtain ⟨rfl, hx2⟩ := walk_a hA0 hx hA (by omega) e
        have hKb : kf' (kn' k ((A0 + i) / 4096)) < n := by
          obtain ⟨x1, x2⟩ := CG_live c2 y5
          exact (c2.2.2.1 _ x1 x2).1
        have hm1 : ¬ nI (kf' (kn' k ((A0 + i) / 4096))) = -1 := nI_m1 (by omega)
        rw [y2, y3]
        dsimp only
        rw [if_pos (show (0 : Int32) = 0 from rfl), if_pos (show (0 : Int32) = 0 from rfl), if_neg hm1]
        dsimp only
        rw [if_neg n1]
        have hno : z = true → ∀ j, j < i → ¬ (A0 + j) / 4096 = (A0 + i) / 4096 := fun hz j hj y => by
          have a1 := (y9 hz).1
          have a2 := hpr j hj
          rw [y, a1] at a2
          cases a2
        rw [wrb_z hno] at c2
        obtain ⟨V2, v1, v2, v3, v4⟩ := C_write (w := 1) c2 hn y5 (y8 rfl) hA (Or.inl rfl) (Nat.mod_one _) (bf i)
        rw [wrb_s (f := bf) (by exact hbf i (by omega))] at v4
        have e1 : (1 : Int32) = nI 1 := rfl
        rw [e] at t1
        rw [e, e1, v1]
        obtain ⟨r1, r2⟩ := ih (i + 1) V2 (t_trap M' 0) hs' kn' fl' rg' K' d' kf' pk' (zpo z B k ((A0 + i) / 4096)) (by omega) (by omega) ⟨rf', tf', ow', P', R', ps', pn', rs', rn', v4, T_rows h2 _, T_log g2 _⟩ (fun k' p' y => by
          rcases y7 _ _ y with y | ⟨rfl, rfl⟩
          · exact hE _ _ y
          · cases w9 : hs k' ((A0 + i) / 4096) with
            | true => exact hE _ _ w9
            | false =>
              have := y15 w9
              omega) ⟨by rw [v2, y13]; exact ht.1, rfl⟩ (fun j hj => by
          by_cases y : j = i
          · rw [y]; exact y5
          · exact y6 _ _ (hpr j (by omega))) (fun _ => ⟨hx2, by omega⟩) (fun y => by omega) (fun _ => by
          by_cases y : i = 0
          · have := hd1 y
            cases z with
            | true => rw [(y9 rfl).2]; omega
            | false => rw [y10 rfl]; omega
          · have a1 := hd2 (by omega)
            cases z with
            | true =>
              have a2 := hno rfl (i - 1) (by omega)
              rw [(y9 rfl).2]
              omega
            | false => rw [y10 rfl]; omega) (by omega)
        exact ⟨⟨t1, r1⟩, r2⟩
/-- bytes of a page that is there -/
theorem B_byte {V : VS} {hs : Nat → Nat → Bool} {kn fl : Nat → Nat → Nat} {rg : Nat → Nat → Bool} {K : Nat} {B : Nat → Nat → Int32} {bf1 : Nat → Int32} {rf : Nat → Nat} {tf : Nat → Nat → Nat} {kf pk : Nat → Nat} {ow : Nat → Nat × Nat × Nat} {A : Nat} (c1 : CG n V al en hs hs kn fl rg rg K B bf1 rf tf kf pk ow) (hh : hs k (A / 4096) = true) : ∃ x j, j < 4 ∧ B k A = byt x (nI j) := by
  have := c1.2.2.2.2.2.2.2.2.1 k (A / 4096) hh (A % 4096) (by omega)
  rw [show 4096 * (A / 4096) + A % 4096 = A by omega] at this
  exact ⟨_, _, Nat.mod_lt _ (by decide), this.symm⟩
set_option maxHeartbeats 4000000 in
theorem rl_out {n c : Nat} {V : VS} {M : MS} (h : Rl n c V M) (hc : c < 512) (x1 x2 x3 : Int32) : p_M_out M x1 x2 x3 ∧ (j_V_out n V x1 x2 x3).1 = (j_M_out M x1 x2 x3).1 ∧ Rl n (c + 1) ((j_V_out n V x1 x2 x3).2) ((j_M_out M x1 x2 x3).2) := by
  obtain ⟨al, en, hs, kn, fl, rg, K, d, B, bf, kf, pk, hn, ht, s, hE, hb, hd, hK⟩ := h
  obtain ⟨rf, tf, ow, P, R, ps, pn, rs, rn, c1, h1, g1⟩ := s
  have nt : ∀ t : Int32, Rl n (c + 1) (s_trap V t) (t_trap M t) := fun t => ⟨al, en, hs, kn, fl, rg, K, d, B, bf, kf, pk, hn, rfl, ⟨rf, tf, ow, P, R, ps, pn, rs, rn, c1, T_rows h1 _, T_log g1 _⟩, hE, hb, by omega, by omega⟩
  unfold p_M_out j_V_out j_M_out
  by_cases q1 : x3 < 0
  · rw [if_pos q1, if_pos q1, if_pos q1]
    exact ⟨trivial, rfl, nt 0⟩
  · rw [if_neg q1, if_neg q1, if_neg q1]
    by_cases q2 : x3 ≤ 512
    · rw [if_pos q2, if_pos q2, if_pos q2]
      obtain ⟨w, hw, rfl⟩ := nI_of2 (n := 512) (M := 512) rfl q1 q2
      have hfind : j_V_find (s_trap V 0) x1 = j_V_find V x1 := rfl
      rw [hfind]
      have hM0 : MRw n (t_trap (t_trap M 0) 0) al en hs kn fl rg K P R ps pn rs rn := h1
      have g0 : MLg (t_trap (t_trap M 0) 0) d B bf := T_log (T_log g1 _) _
      unfold p_M_walk j_M_walk
      rw [nI_clamp (show w < 2 ^ 31 by omega)]
      rcases L_find c1 hn x1 with ⟨a1, a2⟩ | ⟨k, hk, rfl, ha, a2⟩
      · rw [a1, oc_n, j_V_out_h28N, j_M_walk_h8, p_M_walk_h8]
        have e0 : (0 : Int32) = nI 0 := rfl
        by_cases q3 : w = 0
        · subst q3
          have z1 : nI 0 ≤ 0 := by decide
          rw [if_pos z1, if_pos z1, if_pos z1]
          dsimp only
          rw [if_pos z1, if_pos z1]
          exact ⟨⟨trivial, trivial⟩, rfl, ⟨al, en, hs, kn, fl, rg, K, d, B, bf, kf, pk, hn, rfl, ⟨rf, tf, ow, P, R, ps, pn, rs, rn, c1, hM0, g0⟩, hE, hb, by omega, by omega⟩⟩
        · have z1 : ¬ nI w ≤ 0 := nI_nle (by omega) (by omega)
          have hl : j_M_lives (t_trap (t_trap M 0) 0) x1 = 0 := M_lives0 hM0 a2
          have z2 : (0 : Int32) ≤ 0 := by decide
          rw [if_neg z1, if_neg z1, if_neg z1, hl, if_pos rfl, if_pos rfl]
          dsimp only
          rw [if_pos z2, if_pos z2]
          exact ⟨⟨trivial, trivial⟩, rfl, ⟨al, en, hs, kn, fl, rg, K, d, B, bf, kf, pk, hn, rfl, ⟨rf, tf, ow, P, R, ps, pn, rs, rn, c1, hM0, T_log g0 _⟩, hE, hb, by omega, by omega⟩⟩
      · rw [a2, oc_s]
        have c0 : CG n (s_trap V 0) al en hs hs kn fl rg rg K (wrb B k x2.toNatClampNeg 0 bf) bf rf tf kf pk ow := by
          rw [wrb_0]
          exact c1
        obtain ⟨r1, i, hs', kn', fl', rg', K', d', kf', pk', B', i1, i2, i3, ⟨rf', tf', ow', P', R', ps', pn', rs', rn', c2, h2, g2⟩, i5, i6, i7, i8, i9⟩ := out_h (w := w) (bf := bf) (en := en) (d0 := d) (K0 := K) (x2 := x2) hn hk ha hw hb rfl (by omega) (by omega) (w + 1) 0 (s_trap V 0) (t_trap (t_trap M 0) 0) hs kn fl rg K d kf pk B (Nat.zero_le _) (by omega) ⟨rf, tf, ow, P, R, ps, pn, rs, rn, c0, hM0, g0⟩ hE ⟨rfl, rfl⟩ (fun j hj => absurd hj (Nat.not_lt_zero _)) (fun z => absurd z (Nat.lt_irrefl _)) (fun _ => Nat.le_refl _) (fun z => absurd z (Nat.lt_irrefl _)) (by omega)
        rw [nI_0] at r1 i2 i3 c2 h2 g2 i6
        rw [i3]
        by_cases q3 : i = 0
        · subst q3
          have z2 : nI 0 ≤ 0 := by decide
          rw [wrb_0] at c2
          rw [if_pos z2, if_pos z2]
          exact ⟨⟨r1, trivial⟩, i2, ⟨al, en, hs', kn', fl', rg', K', d', B', bf, kf', pk', hn, i6, ⟨rf', tf', ow', P', R', ps', pn', rs', rn', c2, h2, g2⟩, i5, hb, by omega, by omega⟩⟩
        · have z2 : ¬ nI i ≤ 0 := nI_nle (by omega) (by omega)
          obtain ⟨j1, j2⟩ := i7 (by omega)
          obtain ⟨u1, u2⟩ := ML_4 (A0 := x2.toNatClampNeg) (w := i) g2 (by omega) hk (by omega) (by omega) 0
          rw [← j1] at u1 u2
          rw [if_neg z2, if_neg z2]
          exact ⟨⟨r1, u1, trivial⟩, i2, ⟨al, en, hs', kn', fl', rg', K', d' + 1, _, bf, kf', pk', hn, i6, ⟨rf', tf', ow', P', R', ps', pn', rs', rn', c2, N_rows h2 _ _ _ _ _, u2⟩, i5, hb, by omega, by omega⟩⟩
    · rw [if_neg q2, if_neg q2, if_neg q2]
      exact ⟨trivial, rfl, nt 0⟩
end MT
