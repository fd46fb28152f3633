section MT
variable {n : Nat} {V : VS} {M M' : MS} {al : Nat → Bool} {en : Nat → Nat} {hs : Nat → Nat → Bool} {kn fl : Nat → Nat → Nat} {rg : Nat → Nat → Bool} {K P R d c w : Nat} {ps pn rs rn pk kf rf : Nat → Nat} {tf : Nat → Nat → Nat} {ow : Nat → Nat × Nat × Nat} {k p l r q A κ a e : Nat} {B B1 B2 : Nat → Nat → Int32} {bf bf1 bf2 : Nat → Int32}
/-- straight or not, on both sides -/
theorem straight_c (x2 x3 : Int32) : (j_V_isStraight x2 x3 = 0 ∧ ∀ (M : MS) (x1 m : Int32), p_M_aimed M x1 x2 x3 m ∧ j_M_aimed M x1 x2 x3 m = (0, t_trap M 2)) ∨ ∃ w, (w = 1 ∨ w = 2 ∨ w = 4) ∧ x3 = nI w ∧ j_V_isStraight x2 x3 = 1 ∧ (∀ A, A < 2 ^ 31 → x2 = nI A → A % w = 0) ∧ ∀ (M : MS) (x1 m : Int32), ((j_M_lives M x1 = 0 ∨ p_M_touch M x1 x2 m) → p_M_aimed M x1 x2 x3 m) ∧ j_M_aimed M x1 x2 x3 m = if j_M_lives M x1 = 0 then (0, t_trap M 1) else if (j_M_touch M x1 x2 m).1 = 0 then (1, t_trap (j_M_touch M x1 x2 m).2 (j_M_touch M x1 x2 m).1) else (0, t_trap (j_M_touch M x1 x2 m).2 (j_M_touch M x1 x2 m).1) := by
  have n21 : ¬ (2 : Int32) = 1 := by decide
  have n41 : ¬ (4 : Int32) = 1 := by decide
  have n42 : ¬ (4 : Int32) = 2 := by decide
  have hp : ∀ (M : MS) (x1 m : Int32), (j_M_lives M x1 = 0 ∨ p_M_touch M x1 x2 m) → (if j_M_lives M x1 = 0 then True else p_M_touch M x1 x2 m ∧ True) := fun M x1 m z => by
    by_cases y : j_M_lives M x1 = 0
    · rw [if_pos y]
      exact trivial
    · rw [if_neg y]
      rcases z with z | z
      · exact absurd z y
      · exact ⟨z, trivial⟩
  have hrem : ∀ (w : Nat), 0 < w → w < 2 ^ 31 → x2 - x2 / nI w * nI w = 0 → ∀ A, A < 2 ^ 31 → x2 = nI A → A % w = 0 := fun w h0 hw z A hA e => by
    rw [e, pk_rem hA h0 hw] at z
    have hlt := Nat.mod_lt A h0
    by_cases y : A % w = 0
    · exact y
    · exact absurd z (nI_ne0 (by omega) (by omega))
  unfold j_V_isStraight p_M_aimed j_M_aimed
  by_cases c1 : x3 = 1
  · subst c1
    by_cases r : x2 - x2 / 1 * 1 = 0
    · refine Or.inr ⟨1, Or.inl rfl, rfl, ?_, hrem 1 (by decide) (by decide) r, fun M x1 m => ⟨fun z => ?_, ?_⟩⟩
      · rw [if_pos rfl, if_pos r]
      · rw [if_pos rfl, if_pos r]
        exact hp M x1 m z
      · rw [if_pos rfl, if_pos r]
    · refine Or.inl ⟨?_, fun M x1 m => ⟨?_, ?_⟩⟩
      · rw [if_pos rfl, if_neg r]
      · rw [if_pos rfl, if_neg r]
        exact trivial
      · rw [if_pos rfl, if_neg r]
  · by_cases c2 : x3 = 2
    · subst c2
      by_cases r : x2 - x2 / 2 * 2 = 0
      · refine Or.inr ⟨2, Or.inr (Or.inl rfl), rfl, ?_, hrem 2 (by decide) (by decide) r, fun M x1 m => ⟨fun z => ?_, ?_⟩⟩
        · rw [if_neg n21, if_pos rfl, if_pos r]
        · rw [if_neg n21, if_pos rfl, if_pos r]
          exact hp M x1 m z
        · rw [if_neg n21, if_pos rfl, if_pos r]
      · refine Or.inl ⟨?_, fun M x1 m => ⟨?_, ?_⟩⟩
        · rw [if_neg n21, if_pos rfl, if_neg r]
        · rw [if_neg n21, if_pos rfl, if_neg r]
          exact trivial
        · rw [if_neg n21, if_pos rfl, if_neg r]
    · by_cases c4 : x3 = 4
      · subst c4
        by_cases r : x2 - x2 / 4 * 4 = 0
        · refine Or.inr ⟨4, Or.inr (Or.inr rfl), rfl, ?_, hrem 4 (by decide) (by decide) r, fun M x1 m => ⟨fun z => ?_, ?_⟩⟩
          · rw [if_neg n41, if_neg n42, if_pos rfl, if_pos r]
          · rw [if_neg n41, if_neg n42, if_pos rfl, if_pos r]
            exact hp M x1 m z
          · rw [if_neg n41, if_neg n42, if_pos rfl, if_pos r]
        · refine Or.inl ⟨?_, fun M x1 m => ⟨?_, ?_⟩⟩
          · rw [if_neg n41, if_neg n42, if_pos rfl, if_neg r]
          · rw [if_neg n41, if_neg n42, if_pos rfl, if_neg r]
            exact trivial
          · rw [if_neg n41, if_neg n42, if_pos rfl, if_neg r]
      · refine Or.inl ⟨?_, fun M x1 m => ⟨?_, ?_⟩⟩
        · rw [if_neg c1, if_neg c2, if_neg c4]
        · rw [if_neg c1, if_neg c2, if_neg c4]
          exact trivial
        · rw [if_neg c1, if_neg c2, if_neg c4]
theorem num_h (g : MLg M d B bf) (hk : k < 16) (hA : A + w ≤ 2 ^ 30) (hw : w ≤ 4) : ∀ (m i : Nat), i ≤ w → w - i < m → p_M_number_h6 m M (nI k) (nI A) (nI w) (numb (fun i => B k (A + i)) i) (nI i) ∧ j_M_number_h6 m M (nI k) (nI A) (nI w) (numb (fun i => B k (A + i)) i) (nI i) = numb (fun i => B k (A + i)) w := by
  intro m
  induction m with
  | zero => intro j _ h; exact absurd h (Nat.not_lt_zero _)
  | succ m ih =>
    intro i hi hm
    rw [j_M_number_h6, p_M_number_h6]
    by_cases c : i = w
    · subst c
      rw [if_pos (nI_le (Nat.le_refl _) (by omega)), if_pos (nI_le (Nat.le_refl _) (by omega))]
      exact ⟨trivial, rfl⟩
    · rw [if_neg (nI_ge (by omega) (by omega)), if_neg (nI_ge (by omega) (by omega)), nI_add, byteOf_LB g.1 (by have := g.2.1; omega), g.2.2.1 k hk _ (by omega), mul8, nI_1]
      have hi1 := ih (i + 1) (by omega) (by omega)
      rw [numb] at hi1
      exact ⟨⟨pB g.1 g.2.1 _ _, hi1.1⟩, hi1.2⟩
/-- the reference's number -/
theorem M_number (g : MLg M d B bf) (hk : k < 16) (hA : A + w ≤ 2 ^ 30) (hw : w ≤ 4) : p_M_number M (nI k) (nI A) (nI w) ∧ j_M_number M (nI k) (nI A) (nI w) = numb (fun i => B k (A + i)) w := by
  unfold p_M_number j_M_number
  rw [nI_clamp (by omega)]
  have := num_h g hk hA hw (w + 1) 0 (Nat.zero_le _) (by omega)
  rw [numb, nI_0] at this
  exact this
/-- the vault's number -/
theorem C_number (c1 : CG n V al en hs hs kn fl rg rg K B bf rf tf kf pk ow) (hn : n ≤ 32) (hh : hs k (A / 4096) = true) (hA : A < 2 ^ 30) (hw : w = 1 ∨ w = 2 ∨ w = 4) (hs4 : A % w = 0) : j_F_read n V (nI (kf (kn k (A / 4096)))) (nI A) (nI w) = numb (fun i => B k (A + i)) w := by
  obtain ⟨hKx, hps⟩ := CG_live c1 hh
  have hf := (c1.2.2.1 _ hKx hps).1
  have ho : A % 4 + w ≤ 4 := by rcases hw with rfl | rfl | rfl <;> omega
  rw [L_read hn hf (by omega) hw ho]
  apply numb_congr
  intro i hi
  have hi4 : A % 4 + i < 4 := by omega
  rw [if_pos hi4]
  have := c1.2.2.2.2.2.2.2.2.1 k (A / 4096) hh (A % 4096 + i) (by omega)
  rw [show (A % 4096 + i) / 4 = A % 4096 / 4 by omega, show (A % 4096 + i) % 4 = A % 4 + i by omega, show 4096 * (A / 4096) + (A % 4096 + i) = A + i by omega] at this
  exact this
/-- the vault's write -/
theorem C_write (c1 : CG n V al en hs hs kn fl rg rg K B bf rf tf kf pk ow) (hn : n ≤ 32) (hh : hs k (A / 4096) = true) (h1 : shr hs kn pk (kn k (A / 4096)) = 1) (hA : A < 2 ^ 30) (hw : w = 1 ∨ w = 2 ∨ w = 4) (hs4 : A % w = 0) (v : Int32) :
    ∃ V', j_F_write n V (nI (kf (kn k (A / 4096)))) (nI A) (nI w) v = V' ∧ v_trap V' = v_trap V ∧ v_buf V' = v_buf V ∧ CG n V' al en hs hs kn fl rg rg K (wrb B k A w (fun i => byt v (nI i))) bf rf tf kf pk ow := by
  obtain ⟨hKx, hps⟩ := CG_live c1 hh
  have hf := (c1.2.2.1 _ hKx hps).1
  have ho : A % 4 + w ≤ 4 := by rcases hw with rfl | rfl | rfl <;> omega
  rw [L_write hn hf (by omega)]
  refine ⟨_, rfl, rfl, rfl, S_write (W := fun j => if j = A % 4096 / 4 then (v_words V (kf (kn k (A / 4096))) (A % 4096 / 4) &&& ((j_F_mask (nI w) <<< (nI (A % 4 * 8) &&& 31)) ^^^ (-1))) ||| ((v &&& j_F_mask (nI w)) <<< (nI (A % 4 * 8) &&& 31)) else v_words V (kf (kn k (A / 4096))) j) c1 hh h1 rfl rfl rfl rfl rfl (fun i j => ?_) (fun o ho' => ?_) (fun k' p' o hp' hne ho' => ?_)⟩
  · rw [w_word]
    by_cases e : i = kf (kn k (A / 4096))
    · rw [if_pos e]
      by_cases e2 : j = A % 4096 / 4
      · rw [if_pos ⟨e, e2⟩, if_pos e2]
      · rw [if_neg (fun z => e2 z.2), if_neg e2, e]
    · rw [if_neg (fun z => e z.1), if_neg e]
  · have hold := c1.2.2.2.2.2.2.2.2.1 k (A / 4096) hh o ho'
    unfold wrb
    by_cases e2 : o / 4 = A % 4096 / 4
    · rw [if_pos e2, write_byt hw ho (by omega)]
      by_cases e3 : A % 4 ≤ o % 4 ∧ o % 4 < A % 4 + w
      · rw [if_pos e3, if_pos ⟨rfl, by omega, by omega⟩, show 4096 * (A / 4096) + o - A = o % 4 - A % 4 by omega]
      · rw [if_neg e3, if_neg (by omega), ← hold, e2]
    · rw [if_neg e2, if_neg (by omega)]
      exact hold
  · unfold wrb
    rw [if_neg]
    intro z
    apply hne
    refine ⟨z.1, ?_⟩
    have h1 := z.2.1
    have h2 := z.2.2
    omega
theorem zpo_s (z : Bool) (B : Nat → Nat → Int32) (k p : Nat) : zpo z B k p = if z = true then zpg B k p else B := rfl
set_option maxHeartbeats 2000000 in
/-- numbers read, on both sides -/
theorem number_c {n c : Nat} {V : VS} {M : MS} (h : Rl n c V M) (hc : c < 512) (x1 x2 x3 m : Int32) (hm : m = 1 ∨ m = 2 ∨ m = 4) :
    p_M_aimed M x1 x2 x3 m ∧ (((j_M_aimed M x1 x2 x3 m).1 = 0 ∧ (j_V_number n V x1 x2 x3 m).1 = 0) ∨ (¬ (j_M_aimed M x1 x2 x3 m).1 = 0 ∧ p_M_number (j_M_aimed M x1 x2 x3 m).2 x1 x2 x3 ∧ (j_V_number n V x1 x2 x3 m).1 = j_M_number (j_M_aimed M x1 x2 x3 m).2 x1 x2 x3)) ∧ Rl n (c + 1) (j_V_number n V x1 x2 x3 m).2 (j_M_aimed M x1 x2 x3 m).2 := by
  obtain ⟨al, en, hs, kn, fl, rg, K, d, B, bf, kf, pk, hn, ht, s, hE, hb, hd, hK⟩ := h
  have hs0 := s
  obtain ⟨rf, tf, ow, P, R, ps, pn, rs, rn, c1, h1, g1⟩ := s
  have n1 : ¬ (1 : Int32) = 0 := by decide
  have nt : ∀ t : Int32, Rl n (c + 1) (s_trap (s_trap V 0) t) (t_trap M t) := fun t => ⟨al, en, hs, kn, fl, rg, K, d, B, bf, kf, pk, hn, rfl, ⟨rf, tf, ow, P, R, ps, pn, rs, rn, c1, T_rows h1 _, T_log g1 _⟩, hE, hb, by omega, by omega⟩
  unfold j_V_number
  rcases straight_c x2 x3 with ⟨q1, q2⟩ | ⟨w, hw, rfl, q1, q2, q3⟩
  · obtain ⟨q3, q4⟩ := q2 M x1 m
    rw [q1, if_pos rfl, q4]
    exact ⟨q3, Or.inl ⟨rfl, rfl⟩, nt 2⟩
  · obtain ⟨q4, q5⟩ := q3 M x1 m
    rw [q1, if_neg n1, q5]
    have hfind : j_V_find (s_trap V 0) x1 = j_V_find V x1 := rfl
    rw [hfind]
    rcases L_find c1 hn x1 with ⟨a1, a2⟩ | ⟨k, hk, rfl, ha, a2⟩
    · rw [a1, oc_n, M_lives0 h1 a2, if_pos rfl]
      exact ⟨q4 (Or.inl (M_lives0 h1 a2)), Or.inl ⟨rfl, rfl⟩, nt 1⟩
    · rw [a2, oc_s, M_lives1 h1 hk ha, if_neg n1]
      obtain ⟨t1, t2⟩ := touch_c (V := s_trap V 0) hn (by omega) (by omega) hk ha (⟨rf, tf, ow, P, R, ps, pn, rs, rn, c1, h1, g1⟩ : ST n (s_trap V 0) M al en hs kn fl rg K d B bf B bf kf pk) x2 m hm
      refine ⟨q4 (Or.inr t1), ?_⟩
      rcases t2 with ⟨t, y1, y2, y3⟩ | ⟨A, V', M', hs', kn', fl', rg', K', d', kf', pk', z, hA, rfl, y2, y3, ⟨rf', tf', ow', P', R', ps', pn', rs', rn', c2, h2, g2⟩, y5, y6, y7, y8, y9, y10, y11, y12, y13, y14, y15⟩
      · have n2 : ¬ t = 0 := by rcases y1 with rfl | rfl <;> decide
        rw [y2, y3]
        dsimp only
        rw [if_neg n2, if_pos (show (-1 : Int32) = -1 from rfl)]
        exact ⟨Or.inl ⟨rfl, rfl⟩, nt t⟩
      · have hKb : kf' (kn' k (A / 4096)) < n := by
          obtain ⟨x1, x2⟩ := CG_live c2 y5
          exact (c2.2.2.1 _ x1 x2).1
        have hm1 : ¬ nI (kf' (kn' k (A / 4096))) = -1 := nI_m1 (by omega)
        rw [y2, y3]
        show ((if (0 : Int32) = 0 then (1, t_trap M' 0) else _).1 = 0 ∧ (if nI (kf' (kn' k (A / 4096))) = -1 then _ else (j_F_read n V' (nI (kf' (kn' k (A / 4096)))) (nI A) (nI w), V')).1 = 0 ∨ ¬ (if (0 : Int32) = 0 then (1, t_trap M' 0) else _).1 = 0 ∧ p_M_number (if (0 : Int32) = 0 then (1, t_trap M' 0) else _).2 _ _ _ ∧ (if nI (kf' (kn' k (A / 4096))) = -1 then _ else (j_F_read n V' (nI (kf' (kn' k (A / 4096)))) (nI A) (nI w), V')).1 = j_M_number (if (0 : Int32) = 0 then (1, t_trap M' 0) else _).2 _ _ _) ∧ Rl n (c + 1) (if nI (kf' (kn' k (A / 4096))) = -1 then _ else (j_F_read n V' (nI (kf' (kn' k (A / 4096)))) (nI A) (nI w), V')).2 (if (0 : Int32) = 0 then (1, t_trap M' 0) else _).2
        rw [if_pos rfl, if_neg hm1]
        have hst := q2 A (by omega) rfl
        have g3 := T_log g2 0
        have hAw : A + w ≤ 2 ^ 30 := by rcases hw with rfl | rfl | rfl <;> omega
        obtain ⟨u1, u2⟩ := M_number g3 hk hAw (by rcases hw with rfl | rfl | rfl <;> omega)
        refine ⟨Or.inr ⟨n1, u1, ?_⟩, ⟨al, en, hs', kn', fl', rg', K', d', _, bf, kf', pk', hn, ?_, ⟨rf', tf', ow', P', R', ps', pn', rs', rn', c2, T_rows h2 _, g3⟩, fun k' p' y => ?_, hb, ?_, by omega⟩⟩
        · rw [u2]
          exact C_number c2 hn y5 hA hw hst
        · exact y13
        · rcases y7 _ _ y with y | ⟨rfl, rfl⟩
          · exact hE _ _ y
          · cases w9 : hs k' (A / 4096) with
            | true => exact hE _ _ w9
            | false =>
              have := y15 w9
              omega
        · cases z with
          | true => rw [(y9 rfl).2]; omega
          | false => rw [y10 rfl]; omega
theorem rl_load {n c : Nat} {V : VS} {M : MS} (h : Rl n c V M) (hc : c < 512) (x1 x2 x3 : Int32) : p_M_load M x1 x2 x3 ∧ (j_V_load n V x1 x2 x3).1 = (j_M_load M x1 x2 x3).1 ∧ Rl n (c + 1) ((j_V_load n V x1 x2 x3).2) ((j_M_load M x1 x2 x3).2) := by
  obtain ⟨q1, q2, q3⟩ := number_c h hc x1 x2 x3 1 (Or.inl rfl)
  unfold p_M_load j_V_load j_M_load
  rcases q2 with ⟨a1, a2⟩ | ⟨a1, a2, a3⟩
  · rw [if_pos a1, if_pos a1]
    exact ⟨⟨q1, trivial⟩, a2, q3⟩
  · rw [if_neg a1, if_neg a1]
    exact ⟨⟨q1, a2, trivial⟩, a3, q3⟩
theorem rl_fetch {n c : Nat} {V : VS} {M : MS} (h : Rl n c V M) (hc : c < 512) (x1 x2 : Int32) : p_M_fetch M x1 x2 ∧ (j_V_fetch n V x1 x2).1 = (j_M_fetch M x1 x2).1 ∧ Rl n (c + 1) ((j_V_fetch n V x1 x2).2) ((j_M_fetch M x1 x2).2) := by
  obtain ⟨q1, q2, q3⟩ := number_c h hc x1 x2 4 4 (Or.inr (Or.inr rfl))
  unfold p_M_fetch j_V_fetch j_M_fetch
  rcases q2 with ⟨a1, a2⟩ | ⟨a1, a2, a3⟩
  · rw [if_pos a1, if_pos a1]
    exact ⟨⟨q1, trivial⟩, a2, q3⟩
  · rw [if_neg a1, if_neg a1]
    exact ⟨⟨q1, a2, trivial⟩, a3, q3⟩
set_option maxHeartbeats 2000000 in
theorem rl_store {n c : Nat} {V : VS} {M : MS} (h : Rl n c V M) (hc : c < 512) (x1 x2 x3 x4 : Int32) : p_M_store M x1 x2 x3 x4 ∧ (j_V_store n V x1 x2 x3 x4).1 = (j_M_store M x1 x2 x3 x4).1 ∧ Rl n (c + 1) ((j_V_store n V x1 x2 x3 x4).2) ((j_M_store M x1 x2 x3 x4).2) := by
  obtain ⟨al, en, hs, kn, fl, rg, K, d, B, bf, kf, pk, hn, ht, s, hE, hb, hd, hK⟩ := h
  obtain ⟨rf, tf, ow, P, R, ps, pn, rs, rn, c1, h1, g1⟩ := s
  have n1 : ¬ (1 : Int32) = 0 := by decide
  have nt : ∀ t : Int32, Rl n (c + 1) (s_trap (s_trap V 0) t) (t_trap M t) := fun t => ⟨al, en, hs, kn, fl, rg, K, d, B, bf, kf, pk, hn, rfl, ⟨rf, tf, ow, P, R, ps, pn, rs, rn, c1, T_rows h1 _, T_log g1 _⟩, hE, hb, by omega, by omega⟩
  unfold p_M_store j_V_store j_M_store
  rcases straight_c x2 x3 with ⟨q1, q2⟩ | ⟨w, hw, rfl, q1, q2, q3⟩
  · obtain ⟨q3, q4⟩ := q2 M x1 2
    rw [q1, if_pos rfl, q4]
    exact ⟨⟨q3, trivial⟩, rfl, nt 2⟩
  · obtain ⟨q4, q5⟩ := q3 M x1 2
    rw [q1, if_neg n1, q5]
    have hfind : j_V_find (s_trap V 0) x1 = j_V_find V x1 := rfl
    rw [hfind]
    rcases L_find c1 hn x1 with ⟨a1, a2⟩ | ⟨k, hk, rfl, ha, a2⟩
    · rw [a1, oc_n, M_lives0 h1 a2, if_pos rfl]
      exact ⟨⟨q4 (Or.inl (M_lives0 h1 a2)), trivial⟩, rfl, nt 1⟩
    · rw [a2, oc_s, M_lives1 h1 hk ha, if_neg n1]
      obtain ⟨t1, t2⟩ := touch_c (V := s_trap V 0) hn (by omega) (by omega) hk ha (⟨rf, tf, ow, P, R, ps, pn, rs, rn, c1, h1, g1⟩ : ST n (s_trap V 0) M al en hs kn fl rg K d B bf B bf kf pk) x2 2 (Or.inr (Or.inl rfl))
      have hp := q4 (Or.inr t1)
      unfold j_V_write
      rcases t2 with ⟨t, y1, y2, y3⟩ | ⟨A, V', M', hs', kn', fl', rg', K', d', kf', pk', z, hA, rfl, y2, y3, ⟨rf', tf', ow', P', R', ps', pn', rs', rn', c2, h2, g2⟩, y5, y6, y7, y8, y9, y10, y11, y12, y13, y14, y15⟩
      · have n2 : ¬ t = 0 := by rcases y1 with rfl | rfl <;> decide
        rw [y2, y3]
        dsimp only
        rw [if_neg n2, if_pos (show (-1 : Int32) = -1 from rfl), if_pos (show (0 : Int32) = 0 from rfl), if_pos (show (0 : Int32) = 0 from rfl)]
        exact ⟨⟨hp, trivial⟩, rfl, nt t⟩
      · have hKb : kf' (kn' k (A / 4096)) < n := by
          obtain ⟨x1, x2⟩ := CG_live c2 y5
          exact (c2.2.2.1 _ x1 x2).1
        have hm1 : ¬ nI (kf' (kn' k (A / 4096))) = -1 := nI_m1 (by omega)
        rw [y2, y3]
        show (_ ∧ (if (if (0 : Int32) = 0 then (1, t_trap M' 0) else (0, t_trap M' 0)).1 = 0 then True else p_M_note (if (0 : Int32) = 0 then (1, t_trap M' 0) else (0, t_trap M' 0)).2 3 (nI k) (nI A) (nI w) x4 ∧ True)) ∧ (if nI (kf' (kn' k (A / 4096))) = -1 then _ else (1, j_F_write n V' (nI (kf' (kn' k (A / 4096)))) (nI A) (nI w) x4)).1 = (if (if (0 : Int32) = 0 then (1, t_trap M' 0) else (0, t_trap M' 0)).1 = 0 then _ else (1, j_M_note (if (0 : Int32) = 0 then (1, t_trap M' 0) else (0, t_trap M' 0)).2 3 (nI k) (nI A) (nI w) x4)).1 ∧ Rl n (c + 1) (if nI (kf' (kn' k (A / 4096))) = -1 then _ else (1, j_F_write n V' (nI (kf' (kn' k (A / 4096)))) (nI A) (nI w) x4)).2 (if (if (0 : Int32) = 0 then (1, t_trap M' 0) else (0, t_trap M' 0)).1 = 0 then _ else (1, j_M_note (if (0 : Int32) = 0 then (1, t_trap M' 0) else (0, t_trap M' 0)).2 3 (nI k) (nI A) (nI w) x4)).2
        rw [if_pos (show (0 : Int32) = 0 from rfl), if_neg n1, if_neg n1, if_neg hm1]
        have hst := q2 A (by omega) rfl
        have hd' : d' ≤ 3 * c + 1 := by
          cases z with
          | true => rw [(y9 rfl).2]; omega
          | false => rw [y10 rfl]; omega
        have g3 := T_log g2 0
        obtain ⟨u1, u2⟩ := ML_3 (A0 := A) (w := w) g3 (by omega) hk hA (by rcases hw with rfl | rfl | rfl <;> omega) x4
        obtain ⟨V2, v1, v2, v3, v4⟩ := C_write c2 hn y5 (y8 rfl) hA hw hst x4
        rw [v1]
        refine ⟨⟨hp, u1, trivial⟩, rfl, ⟨al, en, hs', kn', fl', rg', K', d' + 1, _, bf, kf', pk', hn, ?_, ⟨rf', tf', ow', P', R', ps', pn', rs', rn', v4, N_rows (T_rows h2 _) _ _ _ _ _, u2⟩, fun k' p' y => ?_, hb, by omega, by omega⟩⟩
        · rw [v2]
          exact y13
        · rcases y7 _ _ y with y | ⟨rfl, rfl⟩
          · exact hE _ _ y
          · cases w9 : hs k' (A / 4096) with
            | true => exact hE _ _ w9
            | false =>
              have := y15 w9
              omega
end MT
