section MT
variable {n : Nat} {al : Nat → Bool} {en : Nat → Nat} {k A0 w d0 K0 : Nat} {bf : Nat → Int32}
theorem M_came {M : MS} {hs : Nat → Nat → Bool} {kn fl : Nat → Nat → Nat} {rg : Nat → Nat → Bool} {K P R d i : Nat} {ps pn rs rn : Nat → Nat} {B : Nat → Nat → Int32} {x2 : Int32} (g : MLg M d B bf) (h : MRw n M al en hs kn fl rg K P R ps pn rs rn) (hd : d < 1536) (hk : k < 16) (hi : i ≤ 512) (hx : 0 < i → x2 = nI A0 ∧ A0 + i ≤ 2 ^ 30) :
    p_M_came M (nI k) x2 (nI i) ∧ (∃ d', d' ≤ d + 1 ∧ MLg (j_M_came M (nI k) x2 (nI i)) d' B (cmb bf i (fun j => B k (A0 + j)))) ∧ MRw n (j_M_came M (nI k) x2 (nI i)) al en hs kn fl rg K P R ps pn rs rn ∧ m_trap (j_M_came M (nI k) x2 (nI i)) = m_trap M := by
  unfold p_M_came j_M_came
  by_cases c : i = 0
  · subst c
    have z : nI 0 ≤ 0 := by decide
    rw [if_pos z, if_pos z, cmb_0]
    exact ⟨trivial, ⟨d, by omega, g⟩, h, rfl⟩
  · have z : ¬ nI i ≤ 0 := nI_nle (by omega) (by omega)
    obtain ⟨rfl, a2⟩ := hx (by omega)
    obtain ⟨u1, u2⟩ := ML_5 (A0 := A0) (w := i) g hd hk hi a2 0
    rw [if_neg z, if_neg z]
    exact ⟨⟨u1, trivial⟩, ⟨d + 1, by omega, u2⟩, N_rows h _ _ _ _ _, rfl⟩
/-- the bytes that came are bytes -/
theorem cmb_b {V : VS} {hs : Nat → Nat → Bool} {kn fl : Nat → Nat → Nat} {rg : Nat → Nat → Bool} {K i : Nat} {B : Nat → Nat → Int32} {bf1 : Nat → Int32} {rf : Nat → Nat} {tf : Nat → Nat → Nat} {kf pk : Nat → Nat} {ow : Nat → Nat × Nat × Nat} (c1 : CG n V al en hs hs kn fl rg rg K B bf1 rf tf kf pk ow) (hpr : ∀ j, j < i → hs k ((A0 + j) / 4096) = true) (hb : ∀ j, j < 512 → byt (bf j) (nI 0) = bf j) : ∀ j, j < 512 → byt (cmb bf i (fun j => B k (A0 + j)) j) (nI 0) = cmb bf i (fun j => B k (A0 + j)) j := by
  intro j hj
  unfold cmb
  by_cases c : j < i
  · rw [if_pos c]
    obtain ⟨x, t, ht, e⟩ := B_byte c1 (hpr j c)
    show byt (B k (A0 + j)) (nI 0) = B k (A0 + j)
    rw [e]
    exact byt_byt ht x
  · rw [if_neg c]
    exact hb j hj
set_option maxHeartbeats 4000000 in
/-- one byte read, on both sides -/
theorem byte_c (hn : n ≤ 32) (hk : k < 16) (ha : al k = true) (hw : w ≤ 512) {x2 : Int32} (hA0 : A0 = x2.toNatClampNeg) (hd0 : d0 ≤ 1533) (hK0 : K0 ≤ 2 ^ 20) {i : Nat} {V : VS} {M : MS} {hs : Nat → Nat → Bool} {kn fl : Nat → Nat → Nat} {rg : Nat → Nat → Bool} {K d : Nat} {kf pk : Nat → Nat} {B : Nat → Nat → Int32} (hiw : i < w) (s : ST n V M al en hs kn fl rg K d B (cmb bf i (fun j => B k (A0 + j))) B bf kf pk) (hE : ∀ k p, hs k p = true → p * 4096 < en k) (ht : v_trap V = 0 ∧ m_trap M = 0) (hpr : ∀ j, j < i → hs k ((A0 + j) / 4096) = true) (hx : 0 < i → x2 = nI A0 ∧ A0 + i ≤ 2 ^ 30) (hd1 : i = 0 → d ≤ d0) (hd2 : 0 < i → d ≤ d0 + 1 + ((A0 + i - 1) / 4096 - A0 / 4096)) (hK : K ≤ K0 + i) :
    p_M_touch M (nI k) (x2 + nI i) 1 ∧ ((∃ t, ¬ t = 0 ∧ j_M_touch M (nI k) (x2 + nI i) 1 = (t, M) ∧ j_V_readByte n V k (x2 + nI i) = (-1, s_trap V t)) ∨
      ∃ V' M' hs' kn' fl' rg' K' d' kf' pk' B', j_M_touch M (nI k) (x2 + nI i) 1 = (0, M') ∧ j_V_readByte n V k (x2 + nI i) = (B' k (A0 + i), V') ∧ ¬ B' k (A0 + i) = -1 ∧ x2 + nI i = nI (A0 + i) ∧ A0 + i < 2 ^ 30 ∧ ST n (s_buf V' i (B' k (A0 + i))) (t_trap M' 0) al en hs' kn' fl' rg' K' d' B' (cmb bf (i + 1) (fun j => B' k (A0 + j))) B' bf kf' pk' ∧ (∀ k p, hs' k p = true → p * 4096 < en k) ∧ (v_trap (s_buf V' i (B' k (A0 + i))) = 0 ∧ m_trap (t_trap M' 0) = 0) ∧ (∀ j, j < i + 1 → hs' k ((A0 + j) / 4096) = true) ∧ (x2 = nI A0 ∧ A0 + (i + 1) ≤ 2 ^ 30) ∧ d' ≤ d0 + 1 + ((A0 + (i + 1) - 1) / 4096 - A0 / 4096) ∧ K' ≤ K0 + (i + 1)) := by
  have hdb : d ≤ d0 + 2 := by
    by_cases y : i = 0
    · have := hd1 y
      omega
    · have := hd2 (by omega)
      omega
  obtain ⟨t1, t2⟩ := touch_c hn (by omega) (by omega) hk ha s (x2 + nI i) 1 (Or.inl rfl)
  refine ⟨t1, ?_⟩
  unfold j_V_readByte
  rcases t2 with ⟨t, y1, y2, y3⟩ | ⟨A, V', M', hs', kn', fl', rg', K', d', kf', pk', z, hA, e, y2, y3, ⟨rf', tf', ow', P', R', ps', pn', rs', rn', c2, h2, g2⟩, y5, y6, y7, y8, y9, y10, y11, y12, y13, y14, y15⟩
  · have n2 : ¬ t = 0 := by rcases y1 with rfl | rfl <;> decide
    refine Or.inl ⟨t, n2, y2, ?_⟩
    rw [y3]
    dsimp only
    rw [if_pos (show (-1 : Int32) = -1 from rfl)]
  · obtain ⟨rfl, hx2⟩ := walk_a hA0 hx hA (by omega) e
    have hKb : kf' (kn' k ((A0 + i) / 4096)) < n := by
      obtain ⟨x1, x2⟩ := CG_live c2 y5
      exact (c2.2.2.1 _ x1 x2).1
    have hm1 : ¬ nI (kf' (kn' k ((A0 + i) / 4096))) = -1 := nI_m1 (by omega)
    have hno : z = true → ∀ j, j < i → ¬ (A0 + j) / 4096 = (A0 + i) / 4096 := fun hz j hj y => by
      have a1 := (y9 hz).1
      have a2 := hpr j hj
      rw [y, a1] at a2
      cases a2
    have hread := C_number (w := 1) c2 hn y5 hA (Or.inl rfl) (Nat.mod_one _)
    rw [numb_1] at hread
    have hcm : cmb bf i (fun j => B k (A0 + j)) = cmb bf i (fun j => zpo z B k ((A0 + i) / 4096) k (A0 + j)) := cmb_c (fun j hj => (zpo_out (fun hz => hno hz j hj)).symm)
    rw [hcm] at c2
    have c3 := S_buf (j := i) (x := zpo z B k ((A0 + i) / 4096) k (A0 + i)) c2
    rw [cmb_s (f := fun j => zpo z B k ((A0 + i) / 4096) k (A0 + j))] at c3
    refine Or.inr ⟨V', M', hs', kn', fl', rg', K', d', kf', pk', zpo z B k ((A0 + i) / 4096), y2, ?_, ?_, e, hA, ⟨rf', tf', ow', P', R', ps', pn', rs', rn', c3, T_rows h2 _, T_log g2 _⟩, fun k' p' y => ?_, ⟨y13.trans ht.1, rfl⟩, fun j hj => ?_, ⟨hx2, by omega⟩, ?_, by omega⟩
    · rw [y3]
      dsimp only
      rw [if_neg hm1, e]
      have e1 : (1 : Int32) = nI 1 := rfl
      rw [e1, hread, Nat.add_zero]
    · obtain ⟨x, t, ht2, e2⟩ := B_byte c2 y5
      rw [e2]
      exact byt_m1 ht2 x
    · rcases y7 _ _ y with y | ⟨rfl, rfl⟩
      · exact hE _ _ y
      · cases w9 : hs k' ((A0 + i) / 4096) with
        | true => exact hE _ _ w9
        | false =>
          have := y15 w9
          omega
    · by_cases y : j = i
      · rw [y]; exact y5
      · exact y6 _ _ (hpr j (by omega))
    · by_cases y : i = 0
      · have := hd1 y
        cases z with
        | true => rw [(y9 rfl).2]; omega
        | false => rw [y10 rfl]; omega
      · have a1 := hd2 (by omega)
        cases z with
        | true =>
          have a2 := hno rfl (i - 1) (by omega)
          rw [(y9 rfl).2]
          omega
        | false => rw [y10 rfl]; omega
set_option maxHeartbeats 4000000 in
theorem in_h (hn : n ≤ 32) (hk : k < 16) (ha : al k = true) (hw : w ≤ 512) {x2 : Int32} (hA0 : A0 = x2.toNatClampNeg) (hd0 : d0 ≤ 1533) (hK0 : K0 ≤ 2 ^ 20) : ∀ (m i : Nat) (V : VS) (M : MS) (hs : Nat → Nat → Bool) (kn fl : Nat → Nat → Nat) (rg : Nat → Nat → Bool) (K d : Nat) (kf pk : Nat → Nat) (B : Nat → Nat → Int32), i ≤ w → w - i < m → ST n V M al en hs kn fl rg K d B (cmb bf i (fun j => B k (A0 + j))) B bf kf pk → (∀ k p, hs k p = true → p * 4096 < en k) → (v_trap V = 0 ∧ m_trap M = 0) → (∀ j, j < i → hs k ((A0 + j) / 4096) = true) → (0 < i → x2 = nI A0 ∧ A0 + i ≤ 2 ^ 30) → (i = 0 → d ≤ d0) → (0 < i → d ≤ d0 + 1 + ((A0 + i - 1) / 4096 - A0 / 4096)) → K ≤ K0 + i →
    p_M_walk_h8 m M (nI k) x2 (nI w) 1 (nI i) ∧ ∃ i' hs' kn' fl' rg' K' d' kf' pk' B', i' ≤ w ∧ (j_V_in_h28 n m V k x2 (nI w) (nI i)).1 = nI i' ∧ (j_M_walk_h8 m M (nI k) x2 (nI w) 1 (nI i)).1 = nI i' ∧ ST n (j_V_in_h28 n m V k x2 (nI w) (nI i)).2 (j_M_walk_h8 m M (nI k) x2 (nI w) 1 (nI i)).2 al en hs' kn' fl' rg' K' d' B' (cmb bf i' (fun j => B' k (A0 + j))) B' bf kf' pk' ∧ (∀ k p, hs' k p = true → p * 4096 < en k) ∧ v_trap (j_V_in_h28 n m V k x2 (nI w) (nI i)).2 = m_trap (j_M_walk_h8 m M (nI k) x2 (nI w) 1 (nI i)).2 ∧ (∀ j, j < i' → hs' k ((A0 + j) / 4096) = true) ∧ (0 < i' → x2 = nI A0 ∧ A0 + i' ≤ 2 ^ 30) ∧ d' ≤ d0 + 2 ∧ K' ≤ K0 + 512 := by
  intro m
  induction m with
  | zero => intro i _ _ _ _ _ _ _ _ _ _ _ _ h; exact absurd h (Nat.not_lt_zero _)
  | succ m ih =>
    intro i V M hs kn fl rg K d kf pk B hi hm s hE ht hpr hx hd1 hd2 hK
    have hdb : d ≤ d0 + 2 := by
      by_cases y : i = 0
      · have := hd1 y
        omega
      · have := hd2 (by omega)
        omega
    rw [j_V_in_h28, j_M_walk_h8, p_M_walk_h8]
    by_cases c : i = w
    · subst c
      have z1 : nI i ≤ nI i := nI_le (Nat.le_refl _) (by omega)
      rw [if_pos z1, if_pos z1, if_pos z1]
      exact ⟨trivial, i, hs, kn, fl, rg, K, d, kf, pk, B, Nat.le_refl _, rfl, rfl, s, hE, ht.1.trans ht.2.symm, hpr, hx, hdb, by omega⟩
    · have hiw : i < w := by omega
      have z1 : ¬ nI w ≤ nI i := nI_ge hiw (by omega)
      have n1 : ¬ (1 : Int32) = 0 := by decide
      obtain ⟨t1, t2⟩ := byte_c (K0 := K0) (d0 := d0) hn hk ha hw hA0 hd0 hK0 hiw s hE ht hpr hx hd1 hd2 hK
      obtain ⟨rf, tf, ow, P, R, ps, pn, rs, rn, c1, h1, g1⟩ := s
      rw [if_neg z1, if_neg z1, if_neg z1, M_lives1 h1 hk ha, if_neg n1, if_neg n1, nI_clamp (show i < 2 ^ 31 by omega), nI_1]
      rcases t2 with ⟨t, n2, y2, y3⟩ | ⟨V', M', hs', kn', fl', rg', K', d', kf', pk', B', y2, y3, y4, y5, y6, s', y7, y8, y9, y10, y11, y12⟩
      · rw [y2, y3]
        dsimp only
        rw [if_neg n2, if_neg n2, if_pos (show (-1 : Int32) = -1 from rfl)]
        exact ⟨⟨t1, trivial⟩, i, hs, kn, fl, rg, K, d, kf, pk, B, by omega, rfl, rfl, ⟨rf, tf, ow, P, R, ps, pn, rs, rn, c1, T_rows h1 _, T_log g1 _⟩, hE, rfl, hpr, hx, hdb, by omega⟩
      · rw [y2, y3]
        dsimp only
        rw [if_pos (show (0 : Int32) = 0 from rfl), if_pos (show (0 : Int32) = 0 from rfl), if_neg y4]
        obtain ⟨r1, r2⟩ := ih (i + 1) _ _ hs' kn' fl' rg' K' d' kf' pk' B' (by omega) (by omega) s' y7 y8 y9 (fun _ => y10) (fun y => by omega) (fun _ => y11) y12
        exact ⟨⟨t1, r1⟩, r2⟩
set_option maxHeartbeats 4000000 in
theorem rl_in {n c : Nat} {V : VS} {M : MS} (h : Rl n c V M) (hc : c < 512) (x1 x2 x3 : Int32) : p_M_in M x1 x2 x3 ∧ (j_V_in n V x1 x2 x3).1 = (j_M_in M x1 x2 x3).1 ∧ Rl n (c + 1) ((j_V_in n V x1 x2 x3).2) ((j_M_in M x1 x2 x3).2) := by
  obtain ⟨al, en, hs, kn, fl, rg, K, d, B, bf, kf, pk, hn, ht, s, hE, hb, hd, hK⟩ := h
  obtain ⟨rf, tf, ow, P, R, ps, pn, rs, rn, c1, h1, g1⟩ := s
  have nt : ∀ t : Int32, Rl n (c + 1) (s_trap V t) (t_trap M t) := fun t => ⟨al, en, hs, kn, fl, rg, K, d, B, bf, kf, pk, hn, rfl, ⟨rf, tf, ow, P, R, ps, pn, rs, rn, c1, T_rows h1 _, T_log g1 _⟩, hE, hb, by omega, by omega⟩
  unfold p_M_in j_V_in j_M_in
  by_cases q1 : x3 < 0
  · rw [if_pos q1, if_pos q1, if_pos q1]
    exact ⟨trivial, rfl, nt 0⟩
  · rw [if_neg q1, if_neg q1, if_neg q1]
    by_cases q2 : x3 ≤ 512
    · rw [if_pos q2, if_pos q2, if_pos q2]
      obtain ⟨w, hw, rfl⟩ := nI_of2 (n := 512) (M := 512) rfl q1 q2
      have hfind : j_V_find (s_trap V 0) x1 = j_V_find V x1 := rfl
      rw [hfind]
      have hM0 : MRw n (t_trap (t_trap M 0) 0) al en hs kn fl rg K P R ps pn rs rn := h1
      have g0 : MLg (t_trap (t_trap M 0) 0) d B bf := T_log (T_log g1 _) _
      unfold p_M_walk j_M_walk
      rw [nI_clamp (show w < 2 ^ 31 by omega)]
      rcases L_find c1 hn x1 with ⟨a1, a2⟩ | ⟨k, hk, rfl, ha, a2⟩
      · rw [a1, oc_n, j_V_in_h28N, j_M_walk_h8, p_M_walk_h8]
        by_cases q3 : w = 0
        · subst q3
          have z1 : nI 0 ≤ 0 := by decide
          rw [if_pos z1, if_pos z1, if_pos z1]
          unfold p_M_came j_M_came
          dsimp only
          rw [if_pos z1, if_pos z1]
          exact ⟨⟨trivial, trivial, trivial⟩, rfl, ⟨al, en, hs, kn, fl, rg, K, d, B, bf, kf, pk, hn, rfl, ⟨rf, tf, ow, P, R, ps, pn, rs, rn, c1, hM0, g0⟩, hE, hb, by omega, by omega⟩⟩
        · have z1 : ¬ nI w ≤ 0 := nI_nle (by omega) (by omega)
          have hl : j_M_lives (t_trap (t_trap M 0) 0) x1 = 0 := M_lives0 hM0 a2
          have z2 : (0 : Int32) ≤ 0 := by decide
          rw [if_neg z1, if_neg z1, if_neg z1, hl, if_pos rfl, if_pos rfl]
          unfold p_M_came j_M_came
          dsimp only
          rw [if_pos z2, if_pos z2]
          exact ⟨⟨trivial, trivial, trivial⟩, rfl, ⟨al, en, hs, kn, fl, rg, K, d, B, bf, kf, pk, hn, rfl, ⟨rf, tf, ow, P, R, ps, pn, rs, rn, c1, hM0, T_log g0 _⟩, hE, hb, by omega, by omega⟩⟩
      · rw [a2, oc_s]
        have c0 : CG n (s_trap V 0) al en hs hs kn fl rg rg K B (cmb bf 0 (fun j => B k (x2.toNatClampNeg + j))) rf tf kf pk ow := by
          rw [cmb_0]
          exact c1
        obtain ⟨r1, i, hs', kn', fl', rg', K', d', kf', pk', B', i1, i2, i3, ⟨rf', tf', ow', P', R', ps', pn', rs', rn', c2, h2, g2⟩, i5, i6, i65, i7, i8, i9⟩ := in_h (w := w) (bf := bf) (en := en) (d0 := d) (K0 := K) (x2 := x2) hn hk ha hw rfl (by omega) (by omega) (w + 1) 0 (s_trap V 0) (t_trap (t_trap M 0) 0) hs kn fl rg K d kf pk B (Nat.zero_le _) (by omega) ⟨rf, tf, ow, P, R, ps, pn, rs, rn, c0, hM0, g0⟩ hE ⟨rfl, rfl⟩ (fun j hj => absurd hj (Nat.not_lt_zero _)) (fun z => absurd z (Nat.lt_irrefl _)) (fun _ => Nat.le_refl _) (fun z => absurd z (Nat.lt_irrefl _)) (by omega)
        rw [nI_0] at r1 i2 i3 c2 h2 g2 i6
        rw [i3]
        obtain ⟨u1, ⟨d'', u2, u3⟩, u4, u5⟩ := M_came (k := k) (A0 := x2.toNatClampNeg) g2 h2 (by omega) hk (show i ≤ 512 by omega) i7
        exact ⟨⟨r1, u1, trivial⟩, i2, ⟨al, en, hs', kn', fl', rg', K', d'', B', _, kf', pk', hn, i6.trans u5.symm, ⟨rf', tf', ow', P', R', ps', pn', rs', rn', c2, u4, u3⟩, i5, cmb_b c2 i65 hb, by omega, by omega⟩⟩
    · rw [if_neg q2, if_neg q2, if_neg q2]
      exact ⟨trivial, rfl, nt 0⟩
set_option maxHeartbeats 4000000 in
theorem text_h (hn : n ≤ 32) (hk : k < 16) (ha : al k = true) (hw : w ≤ 512) (hb : ∀ j, j < 512 → byt (bf j) (nI 0) = bf j) {x2 : Int32} (hA0 : A0 = x2.toNatClampNeg) (hd0 : d0 ≤ 1533) (hK0 : K0 ≤ 2 ^ 20) : ∀ (m i : Nat) (V : VS) (M : MS) (hs : Nat → Nat → Bool) (kn fl : Nat → Nat → Nat) (rg : Nat → Nat → Bool) (K d : Nat) (kf pk : Nat → Nat) (B : Nat → Nat → Int32), i ≤ w → w - i < m → ST n V M al en hs kn fl rg K d B (cmb bf i (fun j => B k (A0 + j))) B bf kf pk → (∀ k p, hs k p = true → p * 4096 < en k) → (v_trap V = 0 ∧ m_trap M = 0) → (∀ j, j < i → hs k ((A0 + j) / 4096) = true) → (0 < i → x2 = nI A0 ∧ A0 + i ≤ 2 ^ 30) → (i = 0 → d ≤ d0) → (0 < i → d ≤ d0 + 1 + ((A0 + i - 1) / 4096 - A0 / 4096)) → K ≤ K0 + i →
    p_M_text_h22 m M (nI k) x2 (nI w) (nI i) ∧ (j_V_text_h29 n m V k x2 (nI w) (nI i)).1 = (j_M_text_h22 m M (nI k) x2 (nI w) (nI i)).1 ∧ ∃ hs' kn' fl' rg' K' d' kf' pk' B' bf', ST n (j_V_text_h29 n m V k x2 (nI w) (nI i)).2 (j_M_text_h22 m M (nI k) x2 (nI w) (nI i)).2 al en hs' kn' fl' rg' K' d' B' bf' B' bf' kf' pk' ∧ (∀ k p, hs' k p = true → p * 4096 < en k) ∧ v_trap (j_V_text_h29 n m V k x2 (nI w) (nI i)).2 = m_trap (j_M_text_h22 m M (nI k) x2 (nI w) (nI i)).2 ∧ (∀ j, j < 512 → byt (bf' j) (nI 0) = bf' j) ∧ d' ≤ d0 + 3 ∧ K' ≤ K0 + 512 := by
  intro m
  induction m with
  | zero => intro i _ _ _ _ _ _ _ _ _ _ _ _ h; exact absurd h (Nat.not_lt_zero _)
  | succ m ih =>
    intro i V M hs kn fl rg K d kf pk B hi hm s hE ht hpr hx hd1 hd2 hK
    have hdb : d ≤ d0 + 2 := by
      by_cases y : i = 0
      · have := hd1 y
        omega
      · have := hd2 (by omega)
        omega
    rw [j_V_text_h29, j_M_text_h22, p_M_text_h22]
    by_cases c : i = w
    · subst c
      have z1 : nI i ≤ nI i := nI_le (Nat.le_refl _) (by omega)
      obtain ⟨rf, tf, ow, P, R, ps, pn, rs, rn, c1, h1, g1⟩ := s
      obtain ⟨u1, ⟨d'', u2, u3⟩, u4, u5⟩ := M_came (k := k) (A0 := A0) g1 h1 (by omega) hk (show i ≤ 512 by omega) hx
      rw [if_pos z1, if_pos z1, if_pos z1]
      exact ⟨⟨u1, trivial⟩, rfl, hs, kn, fl, rg, K, d'', kf, pk, B, _, ⟨rf, tf, ow, P, R, ps, pn, rs, rn, c1, u4, u3⟩, hE, (ht.1.trans ht.2.symm).trans u5.symm, cmb_b c1 hpr hb, by omega, by omega⟩
    · have hiw : i < w := by omega
      have z1 : ¬ nI w ≤ nI i := nI_ge hiw (by omega)
      have n1 : ¬ (1 : Int32) = 0 := by decide
      obtain ⟨t1, t2⟩ := byte_c (K0 := K0) (d0 := d0) hn hk ha hw hA0 hd0 hK0 hiw s hE ht hpr hx hd1 hd2 hK
      obtain ⟨rf, tf, ow, P, R, ps, pn, rs, rn, c1, h1, g1⟩ := s
      rw [if_neg z1, if_neg z1, if_neg z1, M_lives1 h1 hk ha, if_neg n1, if_neg n1, nI_clamp (show i < 2 ^ 31 by omega), nI_1]
      rcases t2 with ⟨t, n2, y2, y3⟩ | ⟨V', M', hs', kn', fl', rg', K', d', kf', pk', B', y2, y3, y4, y5, y6, s', y7, y8, y9, y10, y11, y12⟩
      · rw [y2, y3]
        dsimp only
        obtain ⟨u1, ⟨d'', u2, u3⟩, u4, u5⟩ := M_came (k := k) (A0 := A0) (T_log g1 t) (T_rows h1 t) (by omega) hk (show i ≤ 512 by omega) hx
        rw [if_neg n2, if_neg n2, if_pos (show (-1 : Int32) = -1 from rfl)]
        exact ⟨⟨t1, u1, trivial⟩, rfl, hs, kn, fl, rg, K, d'', kf, pk, B, _, ⟨rf, tf, ow, P, R, ps, pn, rs, rn, c1, u4, u3⟩, hE, u5.symm, cmb_b c1 hpr hb, by omega, by omega⟩
      · rw [y2, y3]
        dsimp only
        have hs2 := s'
        obtain ⟨rf', tf', ow', P', R', ps', pn', rs', rn', c2, h2, g2⟩ := s'
        have hby : j_M_byteOf (t_trap M' 0) (nI k) (x2 + nI i) = B' k (A0 + i) := by
          rw [byteOf_LB g2.1 (by have := g2.2.1; omega), y5]
          exact g2.2.2.1 k hk _ y6
        have hpb := pB g2.1 g2.2.1 (nI k) (x2 + nI i)
        rw [if_pos (show (0 : Int32) = 0 from rfl), if_pos (show (0 : Int32) = 0 from rfl), if_neg y4, hby]
        by_cases q0 : B' k (A0 + i) = 0
        · obtain ⟨u1, ⟨d'', u2, u3⟩, u4, u5⟩ := M_came (k := k) (A0 := A0) (i := i + 1) g2 h2 (by omega) hk (by omega) (fun _ => y10)
          rw [if_pos q0, if_pos q0, if_pos q0]
          exact ⟨⟨t1, hpb, u1, trivial⟩, rfl, hs', kn', fl', rg', K', d'', kf', pk', B', _, ⟨rf', tf', ow', P', R', ps', pn', rs', rn', c2, u4, u3⟩, y7, (y8.1.trans y8.2.symm).trans u5.symm, cmb_b c2 y9 hb, by omega, by omega⟩
        · rw [if_neg q0, if_neg q0, if_neg q0]
          obtain ⟨r1, r2⟩ := ih (i + 1) _ _ hs' kn' fl' rg' K' d' kf' pk' B' (by omega) (by omega) hs2 y7 y8 y9 (fun _ => y10) (fun y => by omega) (fun _ => y11) y12
          exact ⟨⟨t1, hpb, r1⟩, r2⟩
set_option maxHeartbeats 4000000 in
theorem rl_text {n c : Nat} {V : VS} {M : MS} (h : Rl n c V M) (hc : c < 512) (x1 x2 x3 : Int32) : p_M_text M x1 x2 x3 ∧ (j_V_text n V x1 x2 x3).1 = (j_M_text M x1 x2 x3).1 ∧ Rl n (c + 1) ((j_V_text n V x1 x2 x3).2) ((j_M_text M x1 x2 x3).2) := by
  obtain ⟨al, en, hs, kn, fl, rg, K, d, B, bf, kf, pk, hn, ht, s, hE, hb, hd, hK⟩ := h
  obtain ⟨rf, tf, ow, P, R, ps, pn, rs, rn, c1, h1, g1⟩ := s
  have nt : ∀ t : Int32, Rl n (c + 1) (s_trap V t) (t_trap M t) := fun t => ⟨al, en, hs, kn, fl, rg, K, d, B, bf, kf, pk, hn, rfl, ⟨rf, tf, ow, P, R, ps, pn, rs, rn, c1, T_rows h1 _, T_log g1 _⟩, hE, hb, by omega, by omega⟩
  unfold p_M_text j_V_text j_M_text
  by_cases q1 : x3 < 1
  · rw [if_pos q1, if_pos q1, if_pos q1]
    exact ⟨trivial, rfl, nt 0⟩
  · rw [if_neg q1, if_neg q1, if_neg q1]
    by_cases q2 : x3 ≤ 512
    · rw [if_pos q2, if_pos q2, if_pos q2]
      obtain ⟨w, hw, rfl⟩ := nI_of2 (n := 512) (M := 512) rfl (nn_of1 q1) q2
      have hw0 : 0 < w := by
        rcases Nat.eq_zero_or_pos w with z | z
        · subst z
          exact absurd (by decide) q1
        · exact z
      have hfind : j_V_find (s_trap V 0) x1 = j_V_find V x1 := rfl
      rw [hfind]
      have hM0 : MRw n (t_trap M 0) al en hs kn fl rg K P R ps pn rs rn := h1
      have g0 : MLg (t_trap M 0) d B bf := T_log g1 _
      rw [nI_clamp (show w < 2 ^ 31 by omega)]
      rcases L_find c1 hn x1 with ⟨a1, a2⟩ | ⟨k, hk, rfl, ha, a2⟩
      · rw [a1, oc_n, j_V_text_h29N, j_M_text_h22, p_M_text_h22]
        have z1 : ¬ nI w ≤ 0 := nI_nle (by omega) (by omega)
        have hl : j_M_lives (t_trap M 0) x1 = 0 := M_lives0 hM0 a2
        have z2 : (0 : Int32) ≤ 0 := by decide
        rw [if_neg z1, if_neg z1, if_neg z1, hl, if_pos rfl, if_pos rfl]
        unfold p_M_came j_M_came
        dsimp only
        rw [if_pos z2, if_pos z2]
        exact ⟨⟨trivial, trivial⟩, rfl, ⟨al, en, hs, kn, fl, rg, K, d, B, bf, kf, pk, hn, rfl, ⟨rf, tf, ow, P, R, ps, pn, rs, rn, c1, hM0, T_log g0 _⟩, hE, hb, by omega, by omega⟩⟩
      · rw [a2, oc_s]
        have c0 : CG n (s_trap V 0) al en hs hs kn fl rg rg K B (cmb bf 0 (fun j => B k (x2.toNatClampNeg + j))) rf tf kf pk ow := by
          rw [cmb_0]
          exact c1
        obtain ⟨r1, r2, hs', kn', fl', rg', K', d', kf', pk', B', bf', i4, i5, i6, i7, i8, i9⟩ := text_h (w := w) (bf := bf) (en := en) (d0 := d) (K0 := K) (x2 := x2) hn hk ha hw hb rfl (by omega) (by omega) (w + 1) 0 (s_trap V 0) (t_trap M 0) hs kn fl rg K d kf pk B (Nat.zero_le _) (by omega) ⟨rf, tf, ow, P, R, ps, pn, rs, rn, c0, hM0, g0⟩ hE ⟨rfl, rfl⟩ (fun j hj => absurd hj (Nat.not_lt_zero _)) (fun z => absurd z (Nat.lt_irrefl _)) (fun _ => Nat.le_refl _) (fun z => absurd z (Nat.lt_irrefl _)) (by omega)
        rw [nI_0] at r1 r2 i4 i6
        exact ⟨r1, r2, ⟨al, en, hs', kn', fl', rg', K', d', B', bf', kf', pk', hn, i6, i4, i5, i7, by omega, by omega⟩⟩
    · rw [if_neg q2, if_neg q2, if_neg q2]
      exact ⟨trivial, rfl, nt 0⟩
end MT
