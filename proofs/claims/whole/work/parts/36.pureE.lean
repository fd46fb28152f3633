def zpo (z : Bool) (B : Nat → Nat → Int32) (k p : Nat) : Nat → Nat → Int32 := if z = true then zpg B k p else B
/-- both sides -/
def ST (n : Nat) (V : VS) (M : MS) (al : Nat → Bool) (en : Nat → Nat) (hs : Nat → Nat → Bool) (kn fl : Nat → Nat → Nat) (rg : Nat → Nat → Bool) (K d : Nat) (B1 : Nat → Nat → Int32) (bf1 : Nat → Int32) (B2 : Nat → Nat → Int32) (bf2 : Nat → Int32) (kf pk : Nat → Nat) : Prop :=
  ∃ rf tf ow P R ps pn rs rn, CG n V al en hs hs kn fl rg rg K B1 bf1 rf tf kf pk ow ∧ MRw n M al en hs kn fl rg K P R ps pn rs rn ∧ MLg M d B2 bf2
section MT
variable {n : Nat} {V : VS} {M M' : MS} {al : Nat → Bool} {en : Nat → Nat} {hs : Nat → Nat → Bool} {kn fl : Nat → Nat → Nat} {rg : Nat → Nat → Bool} {K P R d : Nat} {ps pn rs rn pk kf rf : Nat → Nat} {tf : Nat → Nat → Nat} {ow : Nat → Nat × Nat × Nat} {k p l r q A κ a : Nat} {B B1 B2 : Nat → Nat → Int32} {bf bf1 bf2 : Nat → Int32}
theorem M_empty (h : MRw n M al en hs kn fl rg K P R ps pn rs rn) (b : AB al hs kn fl rg K) (g : MLg M d B bf) (hd : d < 1536) (hk : k < 16) (hp : p < 2 ^ 18) (h0 : hs k p = false) (hBD : BD 128 (up2 hs k p true)) (hBR : BD 32 (up2 rg k (p / 1024) true)) :
    p_M_addEmpty M (nI k) (nI p) (nI l) ∧ (∃ P' R' ps' pn' rs' rn', MRw n (j_M_addEmpty M (nI k) (nI p) (nI l)) al en (up2 hs k p true) (up2 kn k p K) (up2 fl k p l) (up2 rg k (p / 1024) true) (K + 1) P' R' ps' pn' rs' rn') ∧ MLg (j_M_addEmpty M (nI k) (nI p) (nI l)) (d + 1) (zpg B k p) bf ∧ m_trap (j_M_addEmpty M (nI k) (nI p) (nI l)) = m_trap M := by
  obtain ⟨m1, ⟨R2, rs2, rn2, m2⟩, m3, m4⟩ := M_add (l := l) (κ := K) h b hk hp h0 hBD hBR
  have hmul : nI p * 4096 = nI (p * 4096) := pk_mul _ 4096
  unfold p_M_addEmpty j_M_addEmpty
  rw [h.1.2.2.2, m2.1.2.2.2, nI_1, hmul]
  have g2 : MLg (t_kins (j_M_add M (nI k) (nI p) (nI l) (nI K)) (nI (K + 1))) d B bf := ML_same (m3 _ _ _ g) rfl rfl rfl rfl rfl rfl
  obtain ⟨l1, l2⟩ := ML_2 g2 hd hk hp
  refine ⟨⟨m1, l1, trivial⟩, ⟨P + 1, R2, va_up ps P k, va_up pn P p, rs2, rn2, ?_⟩, l2, m4⟩
  exact ⟨⟨m2.1.1, m2.1.2.1, m2.1.2.2.1, rfl⟩, m2.2⟩
theorem M_room (c : CG n V al en hs hs kn fl rg rg K B1 bf1 rf tf kf pk ow) (hn : n ≤ 32) (h : MRw n M al en hs kn fl rg K P R ps pn rs rn) (hK : K < 2 ^ 30) (hk : k < 16) (hp : p < 2 ^ 18) : p_M_room M (nI k) (nI p) ∧ (cnt n (fre V) < (if rg k (p / 1024) = true then 1 else 2) → j_M_room M (nI k) (nI p) = 0) ∧ (¬ cnt n (fre V) < (if rg k (p / 1024) = true then 1 else 2) → j_M_room M (nI k) (nI p) = 1) := by
  obtain ⟨b, hpk⟩ := CG_AB c
  obtain ⟨q1, q2⟩ := M_free c h hK
  obtain ⟨r1, r2⟩ := M_hasR h b hk (show p / 1024 < 256 by omega)
  have hcn : cnt n (fre V) ≤ n := cnt_le _ _
  have e1 : (1 : Int32) = nI 1 := rfl
  have e2 : (2 : Int32) = nI 2 := rfl
  unfold p_M_room j_M_room
  rw [div1024 (by omega), r2, q2]
  refine ⟨⟨q1, r1, trivial⟩, ?_⟩
  by_cases g : rg k (p / 1024) = true
  · rw [if_pos g, if_pos g, if_neg (by decide), e1]
    exact ⟨fun z => by rw [if_pos (nI_lt z (by decide))], fun z => by rw [if_neg (nI_nlt (by omega) (by omega))]⟩
  · rw [if_neg g, if_neg g, if_pos rfl, e2]
    exact ⟨fun z => by rw [if_pos (nI_lt z (by decide))], fun z => by rw [if_neg (nI_nlt (by omega) (by omega))]⟩
theorem users_n {x : Int32} (h : x < 0 ∨ 1073741824 ≤ x) : j_V_isUsers x = 0 := by
  unfold j_V_isUsers
  rcases h with h | h
  · rw [if_pos h]
  · by_cases c : x < 0
    · rw [if_pos c]
    · rw [if_neg c, if_pos h]
theorem users_y {A : Nat} (h : A < 2 ^ 30) : j_V_isUsers (nI A) = 1 := by
  unfold j_V_isUsers
  have e : (1073741824 : Int32) = nI 1073741824 := rfl
  rw [if_neg (nI_pos (by omega)), e, if_neg (nI_ge (by omega) (by decide))]
theorem addr_c (x : Int32) : (x < 0 ∨ 1073741824 ≤ x) ∨ ∃ A, A < 2 ^ 30 ∧ x = nI A := by
  rcases pk_ix x (n := 1073741824) (by decide) with a | a | ⟨i, hi, rfl⟩
  · exact Or.inl (Or.inl a)
  · exact Or.inl (Or.inr a)
  · exact Or.inr ⟨i, by omega, rfl⟩
set_option maxHeartbeats 4000000 in
/-- a touch, on both sides -/
theorem touch_c (hn : n ≤ 32) (hK : K < 2 ^ 30) (hd : d < 1536) (hk : k < 16) (ha : al k = true) (s : ST n V M al en hs kn fl rg K d B1 bf1 B2 bf2 kf pk) (x m : Int32) (hm : m = 1 ∨ m = 2 ∨ m = 4) :
    p_M_touch M (nI k) x m ∧ ((∃ t, (t = 1 ∨ t = 3) ∧ j_M_touch M (nI k) x m = (t, M) ∧ j_V_touch n V k x m = (-1, s_trap V t)) ∨
      ∃ A V' M' hs' kn' fl' rg' K' d' kf' pk' z, A < 2 ^ 30 ∧ x = nI A ∧ j_M_touch M (nI k) x m = (0, M') ∧ j_V_touch n V k x m = (nI (kf' (kn' k (A / 4096))), V') ∧ ST n V' M' al en hs' kn' fl' rg' K' d' (zpo z B1 k (A / 4096)) bf1 (zpo z B2 k (A / 4096)) bf2 kf' pk' ∧
        hs' k (A / 4096) = true ∧ (∀ k' p', hs k' p' = true → hs' k' p' = true) ∧ (∀ k' p', hs' k' p' = true → hs k' p' = true ∨ (k' = k ∧ p' = A / 4096)) ∧ (m = 2 → shr hs' kn' pk' (kn' k (A / 4096)) = 1) ∧ (z = true → hs k (A / 4096) = false ∧ d' = d + 1) ∧ (z = false → d' = d) ∧ K ≤ K' ∧ K' ≤ K + 1 ∧ v_trap V' = v_trap V ∧ m_trap M' = m_trap M ∧ (hs k (A / 4096) = false → A < en k)) := by
  obtain ⟨rf, tf, ow, P, R, ps, pn, rs, rn, c, h, g⟩ := s
  obtain ⟨b, hpk⟩ := CG_AB c
  have e30 : (1073741824 : Int32) = nI 1073741824 := rfl
  unfold p_M_touch j_M_touch j_V_touch
  rcases addr_c x with hx | ⟨A, hA, rfl⟩
  · rw [users_n hx, if_pos rfl]
    by_cases c1 : x < 0
    · rw [if_pos c1, if_pos c1]
      exact ⟨trivial, Or.inl ⟨1, Or.inl rfl, rfl, rfl⟩⟩
    · have c2 : ¬ x < 1073741824 := fun z => by
        rcases hx with q | q
        · exact c1 q
        · exact absurd z (Int32.not_lt.mpr q)
      rw [if_neg c1, if_neg c1, if_neg c2, if_neg c2]
      exact ⟨trivial, Or.inl ⟨1, Or.inl rfl, rfl, rfl⟩⟩
  · have hp18 : A / 4096 < 2 ^ 18 := by omega
    obtain ⟨w1, w2⟩ := M_rowk h b (show A < 2 ^ 31 by omega) hk
    obtain ⟨f1, f2⟩ := M_free c h hK
    have hcn : cnt n (fre V) ≤ n := cnt_le _ _
    have u0 : ¬ nI A < 0 := nI_pos (by omega)
    have u1 : nI A < 1073741824 := by rw [e30]; exact nI_lt (by omega) (by decide)
    have u2 : ¬ (1 : Int32) = 0 := by decide
    rw [users_y hA, if_neg u2, L_entry c hn hk ha hA, if_neg u0, if_neg u0, if_pos u1, if_pos u1]
    rcases w2 with ⟨hh, i, i1, i2, i3, i4⟩ | ⟨hh, w2⟩
    · -- the page is there
      obtain ⟨z1, z2, z3⟩ := (L_ent0 c hn (k := k) (p := A / 4096)).2 hh
      rw [if_neg z1, i4, if_neg (nI_m1 (by have := h.2.1.1; omega)), if_neg (nI_m1 (by have := h.2.1.1; omega)), nI_clamp (by have := h.2.1.1; omega)]
      obtain ⟨a1, a2, a3, a4, a5⟩ := h.2.2.2.2.1 i i1
      rw [i2, i3] at a3 a4
      have hin : vp_in (nI i) 128 := vp_in_nI (by have := h.2.1.1; omega) (by decide)
      have ee : ent hs kn fl kf k (A / 4096) = nI (16 * (kf (kn k (A / 4096)) + 1) + fl k (A / 4096)) := by unfold ent; rw [if_pos hh]
      obtain ⟨ed1, ed2, ed3, ed4, ed5, ed6, ed7⟩ := en_dec (kf (kn k (A / 4096))) (by omega) (fl k (A / 4096)) z3
      rw [ee, a3, ed4, ed2]
      have hst : ST n V M al en hs kn fl rg K d B1 bf1 B2 bf2 kf pk := ⟨rf, tf, ow, P, R, ps, pn, rs, rn, c, h, g⟩
      have hand : nI (16 * (kf (kn k (A / 4096)) + 1) + fl k (A / 4096)) &&& m = nI (fl k (A / 4096)) &&& m := by
        rcases hm with rfl | rfl | rfl
        · exact ed5
        · exact ed6
        · exact ed7
      rw [hand]
      by_cases g1 : nI (fl k (A / 4096)) &&& 8 = 0
      · rw [if_pos g1, if_pos g1, if_pos g1]
        exact ⟨⟨w1, hin, trivial⟩, Or.inl ⟨1, Or.inl rfl, rfl, rfl⟩⟩
      · rw [if_neg g1, if_neg g1, if_neg g1]
        by_cases g2 : nI (fl k (A / 4096)) &&& m = 0
        · rw [if_pos g2, if_pos g2, if_pos g2]
          exact ⟨⟨w1, hin, trivial⟩, Or.inl ⟨1, Or.inl rfl, rfl, rfl⟩⟩
        · rw [if_neg g2, if_neg g2, if_neg g2]
          by_cases g3 : m = 2
          · rw [if_pos g3, if_pos g3, if_pos g3, a4]
            obtain ⟨s1, s2⟩ := M_sharers h b hK hpk hh
            rw [s2]
            obtain ⟨hKx, hps⟩ := CG_live c hh
            have hhold := (c.2.2.1 _ hKx hps).2.2
            have s16 := shr_16 (hs := hs) (kn := kn) (pk := pk) (κ := kn k (A / 4096))
            have hho : j_F_holders n V (nI (kf (kn k (A / 4096)))) = nI (shr hs kn pk (kn k (A / 4096))) := by
              unfold j_F_holders
              rw [isF_nI hn z2, if_neg (by decide), nI_clamp (by omega), hhold]
            have e1 : (1 : Int32) = nI 1 := rfl
            rw [hho]
            by_cases g4 : shr hs kn pk (kn k (A / 4096)) ≤ 1
            · have g4' : nI (shr hs kn pk (kn k (A / 4096))) ≤ 1 := by rw [e1]; exact nI_le g4 (by decide)
              rw [if_pos g4', if_pos g4', if_pos g4']
              exact ⟨⟨w1, hin, s1, trivial⟩, Or.inr ⟨A, V, M, hs, kn, fl, rg, K, d, kf, pk, false, hA, rfl, rfl, rfl, hst, hh, fun _ _ z => z, fun _ _ z => Or.inl z, fun _ => by omega, fun z => Bool.noConfusion z, fun _ => rfl, by omega, by omega, rfl, rfl, fun z => by rw [hh] at z; cases z⟩⟩
            · have g4' : ¬ nI (shr hs kn pk (kn k (A / 4096))) ≤ 1 := by rw [e1]; exact nI_ge (by omega) (by omega)
              rw [if_neg g4', if_neg g4', if_neg g4', f2]
              obtain ⟨p1, p2⟩ := C_part c hn hA hh (by omega)
              by_cases g5 : cnt n (fre V) = 0
              · have g5' : nI (cnt n (fre V)) = 0 := by rw [g5]; rfl
                rw [if_pos g5', p1 g5]
                refine ⟨⟨w1, hin, s1, f1, trivial⟩, Or.inl ⟨3, Or.inr rfl, rfl, ?_⟩⟩
                show (j_V_frameOrFull V (-1)) = _
                unfold j_V_frameOrFull
                rw [if_pos rfl]
                rfl
              · have g5' : ¬ nI (cnt n (fre V)) = 0 := nI_ne0 (by omega) (by omega)
                obtain ⟨f, V', ow', y1, y2, y3, y4⟩ := p2 (by omega)
                rw [if_neg g5', y2, h.1.2.2.2, nI_1]
                refine ⟨⟨w1, hin, s1, f1, trivial⟩, Or.inr ⟨A, V', _, hs, up2 kn k (A / 4096) K, fl, rg, K + 1, d, va_up kf K f, va_up pk K (A / 4096), false, hA, rfl, rfl, ?_, ⟨rf, tf, ow', P, R, ps, pn, rs, rn, y4, ?_, ML_same g rfl rfl rfl rfl rfl rfl⟩, hh, fun _ _ z => z, fun _ _ z => Or.inl z, fun _ => ?_, fun z => Bool.noConfusion z, fun _ => rfl, by omega, by omega, y3, rfl, fun z => by rw [hh] at z; cases z⟩⟩
                · show (j_V_frameOrFull V' (nI f)) = _
                  unfold j_V_frameOrFull
                  rw [if_neg (nI_m1 (by omega)), up2_s, va_up_self]
                · refine ⟨⟨h.1.1, h.1.2.1, h.1.2.2.1, rfl⟩, h.2.1, h.2.2.1, h.2.2.2.1, fun j hj => ?_, h.2.2.2.2.2⟩
                  obtain ⟨c1, c2, c3, c4, c5⟩ := h.2.2.2.2.1 j hj
                  refine ⟨c1, c2, c3, ?_, c5⟩
                  show upd (m_pk M) i (nI K) j = _
                  by_cases e : j = i
                  · rw [e, pk_us, i2, i3, up2_s]
                  · rw [pk_un e, up2_n (fun z => e (h.2.2.2.2.2.1 j i hj i1 (z.1.trans i2.symm) (z.2.trans i3.symm)))]
                    exact c4
                · rw [up2_s]
                  have := shr_new (hs := hs) (kn := kn) (pk := pk) (K := K) (k := k) (p := A / 4096) (fun i z => (b.1 _ _ z).2.2.2.2) hk
                  rw [up2_id hh] at this
                  exact this
          · rw [if_neg g3, if_neg g3, if_neg g3]
            exact ⟨⟨w1, hin, trivial⟩, Or.inr ⟨A, V, M, hs, kn, fl, rg, K, d, kf, pk, false, hA, rfl, rfl, rfl, hst, hh, fun _ _ z => z, fun _ _ z => Or.inl z, fun z => absurd z g3, fun z => Bool.noConfusion z, fun _ => rfl, by omega, by omega, rfl, rfl, fun z => by rw [hh] at z; cases z⟩⟩
    · -- the page is not there
      obtain ⟨hlen, hen⟩ := c.2.2.2.2.2.2.2.2.2.1 k hk ha
      have hends := h.2.2.2.1 k hk ha
      have hv16 : vp_in (nI k) 16 := vp_in_nI hk (by decide)
      rw [(L_ent0 c hn (k := k) (p := A / 4096)).1 hh, if_pos rfl, w2, if_pos rfl, if_pos rfl, nI_clamp (by omega), hends]
      unfold j_V_touchAbsent j_S_length
      rw [hlen]
      by_cases g1 : en k ≤ A
      · have g1' : nI (en k) ≤ nI A := nI_le g1 (by omega)
        rw [if_pos g1', if_pos g1', if_pos g1']
        exact ⟨⟨w1, hv16, trivial⟩, Or.inl ⟨1, Or.inl rfl, rfl, rfl⟩⟩
      · have g1' : ¬ nI (en k) ≤ nI A := nI_ge (by omega) (by omega)
        rw [if_neg g1', if_neg g1', if_neg g1']
        by_cases g2 : m = 4
        · rw [if_pos g2, if_pos g2, if_pos g2]
          exact ⟨⟨w1, hv16, trivial⟩, Or.inl ⟨1, Or.inl rfl, rfl, rfl⟩⟩
        · rw [if_neg g2, if_neg g2, if_neg g2, div4096 (by omega)]
          obtain ⟨r1, r2, r3⟩ := M_room c hn h hK hk hp18
          have hdiv : A / 4096 / 1024 = A / 4194304 := by omega
          rw [hdiv] at r2 r3
          obtain ⟨p1, p2⟩ := C_addPage (l := 11) c hn hk ha hA (by decide) hh
          have e11 : (11 : Int32) = nI 11 := rfl
          by_cases g5 : cnt n (fre V) < (if rg k (A / 4194304) = true then 1 else 2)
          · rw [r2 g5, if_pos rfl, if_pos rfl, e11, p1 g5]
            refine ⟨⟨w1, hv16, r1, trivial⟩, Or.inl ⟨3, Or.inr rfl, rfl, ?_⟩⟩
            show (j_V_frameOrFull V (-1)) = _
            unfold j_V_frameOrFull
            rw [if_pos rfl]
            rfl
          · obtain ⟨f, V', tf', ow', y1, y2, y3, y4⟩ := p2 g5
            rw [r3 g5, if_neg (by decide), if_neg (by decide), e11, y2]
            obtain ⟨bd1, bd2⟩ := CG_BD y4 hn
            obtain ⟨m1, ⟨P2, R2, ps2, pn2, rs2, rn2, m2⟩, m3, m4⟩ := M_empty (l := 11) h b g hd hk hp18 hh bd1 (by rw [hdiv]; exact bd2)
            rw [hdiv] at m2
            refine ⟨⟨w1, hv16, r1, m1, trivial⟩, Or.inr ⟨A, V', _, _, _, _, _, K + 1, d + 1, va_up kf K f, va_up pk K (A / 4096), true, hA, rfl, rfl, ?_, ⟨rf, tf', ow', P2, R2, ps2, pn2, rs2, rn2, y4, m2, m3⟩, up2_s, fun k' p' z => ?_, fun k' p' z => ?_, fun _ => ?_, fun _ => ⟨hh, rfl⟩, fun z => Bool.noConfusion z, by omega, by omega, y3, m4, fun _ => by omega⟩⟩
            · show (j_V_frameOrFull V' (nI f)) = _
              unfold j_V_frameOrFull
              rw [if_neg (nI_m1 (by omega)), up2_s, va_up_self]
            · by_cases e : k' = k ∧ p' = A / 4096
              · rw [e.1, e.2, up2_s]
              · rw [up2_n e]
                exact z
            · by_cases e : k' = k ∧ p' = A / 4096
              · exact Or.inr e
              · rw [up2_n e] at z
                exact Or.inl z
            · rw [up2_s]
              exact shr_new (fun i z => (b.1 _ _ z).2.2.2.2) hk
end MT
