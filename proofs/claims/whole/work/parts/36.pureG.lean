theorem lgc0 {y : Int64} (h : ¬ lg_cmp y 0 < 0) : ¬ y < 0 := fun z => h (by
  unfold lg_cmp
  have e1 : ¬ y > 0 := fun q => by
    have a := Int64.lt_iff_toInt_lt.mp z
    have b := Int64.lt_iff_toInt_lt.mp q
    omega
  have e2 : ¬ y = 0 := fun q => by
    rw [q] at z
    exact absurd z (by decide)
  rw [if_neg e1, if_neg e2]
  decide)
theorem lgc1 {y : Int64} (h : lg_cmp y 1073741824 ≤ 0) : ¬ y > 1073741824 := fun z => by
  unfold lg_cmp at h
  rw [if_pos z] at h
  exact absurd h (by decide)
/-- a whole number below 2^30 + 1 -/
theorem lg_num {y : Int64} (h1 : ¬ lg_cmp y 0 < 0) (h2 : lg_cmp y 1073741824 ≤ 0) : ∃ N, N ≤ 2 ^ 30 ∧ y.toInt32 = nI N := by
  obtain ⟨N, hN, rfl⟩ := pk_lOf (lgc0 h1)
  refine ⟨N, ?_, lN_i N⟩
  have h3 := lgc1 h2
  have e : (1073741824 : Int64) = lN 1073741824 := rfl
  rw [e] at h3
  have h4 : ¬ lN 1073741824 < lN N := h3
  rw [pk_lLT (by decide) hN] at h4
  omega
theorem begins_c (x : Int32) : (j_V_beginsPage x = 0 ∧ (x < 0 ∨ 1073741824 ≤ x ∨ ¬ x - x / 4096 * 4096 = 0)) ∨ ∃ A, A < 2 ^ 30 ∧ x = nI A ∧ A % 4096 = 0 ∧ j_V_beginsPage x = 1 ∧ x - x / 4096 * 4096 = 0 := by
  unfold j_V_beginsPage
  rcases addr_c x with hx | ⟨A, hA, rfl⟩
  · rw [users_n hx, if_pos rfl]
    exact Or.inl ⟨rfl, by rcases hx with h | h; exact Or.inl h; exact Or.inr (Or.inl h)⟩
  · have hrem : nI A - nI A / 4096 * 4096 = nI (A % 4096) := pk_rem (d := 4096) (by omega) (by decide) (by decide)
    rw [users_y hA, if_neg (by decide), hrem]
    by_cases z : A % 4096 = 0
    · have z1 : nI (A % 4096) = 0 := by rw [z]; rfl
      rw [if_pos z1]
      exact Or.inr ⟨A, hA, rfl, z, rfl, z1⟩
    · have z1 : ¬ nI (A % 4096) = 0 := nI_ne0 (by omega) (by omega)
      rw [if_neg z1]
      exact Or.inl ⟨rfl, Or.inr (Or.inr z1)⟩
theorem flags_c (x : Int32) : (j_V_areFlags x = 0 ∧ (x < 0 ∨ ¬ x ≤ 15)) ∨ ∃ l, l < 16 ∧ x = nI l ∧ j_V_areFlags x = 1 ∧ ¬ x < 0 ∧ x ≤ 15 := by
  unfold j_V_areFlags
  by_cases a : x < 0
  · rw [if_pos a]
    exact Or.inl ⟨rfl, Or.inl a⟩
  · rw [if_neg a]
    by_cases b : x ≤ 15
    · rw [if_neg (Int32.not_lt.mpr b)]
      obtain ⟨j, hj, rfl⟩ := nI_of2 (n := 15) (M := 15) rfl a b
      exact Or.inr ⟨j, by omega, rfl, rfl, a, b⟩
    · rw [if_pos (Int32.not_le.mp b)]
      exact Or.inl ⟨rfl, Or.inr b⟩
section MT
variable {n : Nat} {V : VS} {M M' : MS} {al : Nat → Bool} {en : Nat → Nat} {hs : Nat → Nat → Bool} {kn fl : Nat → Nat → Nat} {rg : Nat → Nat → Bool} {K P R d c : Nat} {ps pn rs rn pk kf rf : Nat → Nat} {tf : Nat → Nat → Nat} {ow : Nat → Nat × Nat × Nat} {k p l r q A κ a e : Nat} {B B1 B2 : Nat → Nat → Int32} {bf bf1 bf2 : Nat → Int32}
set_option maxHeartbeats 2000000 in
theorem rl_map {n c : Nat} {V : VS} {M : MS} (h : Rl n c V M) (hc : c < 512) (x1 x2 x3 : Int32) : p_M_map M x1 x2 x3 ∧ (j_V_map n V x1 x2 x3).1 = (j_M_map M x1 x2 x3).1 ∧ Rl n (c + 1) ((j_V_map n V x1 x2 x3).2) ((j_M_map M x1 x2 x3).2) := by
  have hR := rl_none h hc
  obtain ⟨al, en, hs, kn, fl, rg, K, d, B, bf, kf, pk, hn, ht, ⟨rf, tf, ow, P, R, ps, pn, rs, rn, c1, h1, g1⟩, hE, hb, hd, hK⟩ := h
  obtain ⟨b, hpk⟩ := CG_AB c1
  unfold p_M_map j_V_map j_M_map
  rcases L_find c1 hn x1 with ⟨a1, a2⟩ | ⟨k, hk, rfl, ha, a2⟩
  · rw [a1, oc_n, M_lives0 h1 a2, if_pos rfl, if_pos rfl]
    exact ⟨trivial, rfl, hR⟩
  · have n1 : ¬ (1 : Int32) = 0 := by decide
    have e30 : (1073741824 : Int32) = nI 1073741824 := rfl
    rw [a2, oc_s, M_lives1 h1 hk ha, if_neg n1, if_neg n1]
    rcases begins_c x2 with ⟨b1, b2⟩ | ⟨A, hA, rfl, hA0, b1, b2⟩
    · rw [b1, if_pos rfl]
      by_cases q1 : x2 < 0
      · rw [if_pos q1, if_pos q1]
        exact ⟨trivial, rfl, hR⟩
      · rw [if_neg q1, if_neg q1]
        by_cases q2 : 1073741824 ≤ x2
        · rw [if_pos q2, if_pos q2]
          exact ⟨trivial, rfl, hR⟩
        · have q3 : ¬ x2 - x2 / 4096 * 4096 = 0 := by
            rcases b2 with z | z | z
            · exact absurd z q1
            · exact absurd z q2
            · exact z
          rw [if_neg q2, if_neg q2, if_neg q3, if_neg q3]
          exact ⟨trivial, rfl, hR⟩
    · have u0 : ¬ nI A < 0 := nI_pos (by omega)
      have u1 : ¬ 1073741824 ≤ nI A := by rw [e30]; exact nI_ge (by omega) (by decide)
      have hp18 : A / 4096 < 2 ^ 18 := by omega
      obtain ⟨w1, w2⟩ := M_rowk h1 b (show A < 2 ^ 31 by omega) hk
      rw [b1, if_neg n1, if_neg u0, if_neg u0, if_neg u1, if_neg u1, if_pos b2, if_pos b2, L_entry c1 hn hk ha hA]
      rcases flags_c x3 with ⟨l1, l2⟩ | ⟨l, hl, rfl, l1, l2, l3⟩
      · rw [l1, if_pos rfl]
        by_cases q1 : j_M_row M (nI k) (nI A) = -1
        · rw [if_pos q1, if_pos q1]
          by_cases q2 : x3 < 0
          · rw [if_pos q2, if_pos q2]
            exact ⟨⟨w1, trivial⟩, rfl, hR⟩
          · have q3 : ¬ x3 ≤ 15 := by
              rcases l2 with z | z
              · exact absurd z q2
              · exact z
            rw [if_neg q2, if_neg q2, if_neg q3, if_neg q3]
            exact ⟨⟨w1, trivial⟩, rfl, hR⟩
        · rw [if_neg q1, if_neg q1]
          exact ⟨⟨w1, trivial⟩, rfl, hR⟩
      · rw [l1, if_neg n1]
        rcases w2 with ⟨hh, i, i1, i2, i3, i4⟩ | ⟨hh, w2⟩
        · have hm1 : ¬ nI i = -1 := nI_m1 (by have := h1.2.1.1; omega)
          rw [if_neg ((L_ent0 c1 hn).2 hh).1, i4, if_neg hm1, if_neg hm1]
          exact ⟨⟨w1, trivial⟩, rfl, hR⟩
        · rw [(L_ent0 c1 hn).1 hh, if_pos rfl, w2, if_pos rfl, if_pos rfl, if_neg l2, if_neg l2, if_pos l3, if_pos l3, div4096 (by omega)]
          obtain ⟨r1, r2, r3⟩ := M_room c1 hn h1 (by omega) hk hp18
          have hdiv : A / 4096 / 1024 = A / 4194304 := by omega
          rw [hdiv] at r2 r3
          obtain ⟨p1, p2⟩ := C_addPage (l := l) c1 hn hk ha hA hl hh
          by_cases g5 : cnt n (fre V) < (if rg k (A / 4194304) = true then 1 else 2)
          · rw [r2 g5, if_pos rfl, if_pos rfl, p1 g5, if_pos rfl]
            exact ⟨⟨w1, r1, trivial⟩, rfl, hR⟩
          · obtain ⟨f, V', tf', ow', y1, y2, y3, y4⟩ := p2 g5
            obtain ⟨bd1, bd2⟩ := CG_BD y4 hn
            obtain ⟨m1, ⟨P2, R2, ps2, pn2, rs2, rn2, m2⟩, m3, m4⟩ := M_empty (l := l) h1 b g1 (by omega) hk hp18 hh bd1 (by rw [hdiv]; exact bd2)
            rw [hdiv] at m2
            have hf1 : ¬ nI f = -1 := nI_m1 (by omega)
            have hadd : nI A + 4096 = nI (A + 4096) := nI_add A 4096
            obtain ⟨hlen, hen⟩ := y4.2.2.2.2.2.2.2.2.2.1 k hk ha
            rw [r3 g5, if_neg n1, if_neg n1, y2, if_neg hf1, nI_clamp (show k < 2 ^ 31 by omega), m2.2.2.2.1 k hk ha, hadd]
            have hnew : ∀ e, A + 4096 ≤ e → en k ≤ e → ∀ k' p, up2 hs k (A / 4096) true k' p = true → p * 4096 < va_up en k e k' := fun e he1 he2 k' p z => by
              by_cases q1 : k' = k ∧ p = A / 4096
              · rw [q1.1, q1.2, va_up_self]
                omega
              · rw [up2_n q1] at z
                have := hE _ _ z
                by_cases q2 : k' = k
                · rw [q2, va_up_self]
                  rw [q2] at this
                  omega
                · rw [va_up_ne _ _ q2]
                  exact this
            show _ ∧ _ ∧ Rl n (c + 1) (j_S_reach V' k (nI (A + 4096))) _
            unfold j_S_reach
            rw [hlen]
            by_cases q1 : A + 4096 ≤ en k
            · have q2 : nI (A + 4096) ≤ nI (en k) := nI_le q1 (by omega)
              have q3 : ¬ nI (en k) < nI (A + 4096) := nI_nlt q1 (by omega)
              rw [if_pos q2, if_neg q3]
              have y5 := S_len (k := k) (e := en k) y4 hen
              have hne := hnew (en k) q1 (Nat.le_refl _)
              rw [va_id rfl] at y5 hne
              exact ⟨⟨w1, r1, m1, trivial⟩, rfl, ⟨al, en, _, _, _, _, K + 1, d + 1, _, bf, _, _, hn, by rw [m4]; exact y3.trans ht, ⟨rf, tf', ow', P2, R2, ps2, pn2, rs2, rn2, y5, m2, m3⟩, hne, hb, by omega, by omega⟩⟩
            · have q2 : ¬ nI (A + 4096) ≤ nI (en k) := nI_ge (by omega) (by omega)
              have q3 : nI (en k) < nI (A + 4096) := nI_lt (by omega) (by omega)
              rw [if_neg q2, if_pos q3]
              have y5 := S_len (k := k) (e := A + 4096) y4 (by omega)
              exact ⟨⟨w1, r1, m1, trivial⟩, rfl, ⟨al, _, _, _, _, _, K + 1, d + 1, _, bf, _, _, hn, by
                show v_trap V' = m_trap (j_M_addEmpty M (nI k) (nI (A / 4096)) (nI l))
                rw [m4]; exact y3.trans ht, ⟨rf, tf', ow', P2, R2, ps2, pn2, rs2, rn2, y5, M_ends m2, ML_same m3 rfl rfl rfl rfl rfl rfl⟩, hnew (A + 4096) (Nat.le_refl _) (by omega), hb, by omega, by omega⟩⟩
/-- no row of a number that no space has -/
theorem row_none (h1 : MRw n M al en hs kn fl rg K P R ps pn rs rn) (b : AB al hs kn fl rg K) {x1 x2 : Int32} (h0 : ∀ k, k < 16 → x1 = nI k → al k = false) : p_M_row M x1 x2 ∧ j_M_row M x1 x2 = -1 := by
  by_cases c : x2 < 0
  · have c' : ¬ 0 ≤ x2 := fun z => absurd c (Int32.not_lt.mpr z)
    unfold p_M_row j_M_row
    rw [if_neg c', if_neg c']
    exact ⟨trivial, rfl⟩
  · obtain ⟨A, hA, rfl⟩ := nI_of c
    obtain ⟨w1, w2⟩ := M_row h1 b hA x1
    refine ⟨w1, ?_⟩
    rcases w2 with ⟨j, j1, j2, j3, j4⟩ | ⟨j1, j2⟩
    · have a5 := (h1.2.2.2.2.1 j j1).2.2.2.2
      obtain ⟨b1, b2, b3, -⟩ := b.1 _ _ a5
      have := h0 _ b1 j2
      rw [(b.2 _ _ b3).2.2] at this
      cases this
    · exact j2
theorem row_bad (h1 : MRw n M al en hs kn fl rg K P R ps pn rs rn) (b : AB al hs kn fl rg K) {x1 x2 : Int32} (h0 : x2 < 0 ∨ 1073741824 ≤ x2) : p_M_row M x1 x2 ∧ j_M_row M x1 x2 = -1 := by
  by_cases c : x2 < 0
  · have c' : ¬ 0 ≤ x2 := fun z => absurd c (Int32.not_lt.mpr z)
    unfold p_M_row j_M_row
    rw [if_neg c', if_neg c']
    exact ⟨trivial, rfl⟩
  · obtain ⟨A, hA, rfl⟩ := nI_of c
    have hA2 : 2 ^ 30 ≤ A := by
      rcases h0 with z | z
      · exact absurd z c
      · have e30 : (1073741824 : Int32) = nI 1073741824 := rfl
        rw [e30, nI_leI (by decide) hA] at z
        omega
    obtain ⟨w1, w2⟩ := M_row h1 b hA x1
    refine ⟨w1, ?_⟩
    rcases w2 with ⟨j, j1, j2, j3, j4⟩ | ⟨j1, j2⟩
    · have a5 := (h1.2.2.2.2.1 j j1).2.2.2.2
      have := (b.1 _ _ a5).2.1
      omega
    · exact j2
set_option maxHeartbeats 2000000 in
theorem rl_protect {n c : Nat} {V : VS} {M : MS} (h : Rl n c V M) (hc : c < 512) (x1 x2 x3 : Int32) : p_M_protect M x1 x2 x3 ∧ (j_V_protect n V x1 x2 x3).1 = (j_M_protect M x1 x2 x3).1 ∧ Rl n (c + 1) ((j_V_protect n V x1 x2 x3).2) ((j_M_protect M x1 x2 x3).2) := by
  have hR := rl_none h hc
  obtain ⟨al, en, hs, kn, fl, rg, K, d, B, bf, kf, pk, hn, ht, ⟨rf, tf, ow, P, R, ps, pn, rs, rn, c1, h1, g1⟩, hE, hb, hd, hK⟩ := h
  obtain ⟨b, hpk⟩ := CG_AB c1
  unfold p_M_protect j_V_protect j_M_protect
  rcases L_find c1 hn x1 with ⟨a1, a2⟩ | ⟨k, hk, rfl, ha, a2⟩
  · obtain ⟨w1, w2⟩ := row_none (x2 := x2) h1 b a2
    rw [a1, oc_n, w2, if_pos rfl, if_pos rfl]
    exact ⟨⟨w1, trivial⟩, rfl, hR⟩
  · have n1 : ¬ (1 : Int32) = 0 := by decide
    rw [a2, oc_s]
    rcases begins_c x2 with ⟨b1, b2⟩ | ⟨A, hA, rfl, hA0, b1, b2⟩
    · rw [b1, if_pos rfl]
      by_cases q1 : x2 < 0 ∨ 1073741824 ≤ x2
      · obtain ⟨w1, w2⟩ := row_bad (x1 := nI k) h1 b q1
        rw [w2, if_pos rfl, if_pos rfl]
        exact ⟨⟨w1, trivial⟩, rfl, hR⟩
      · have q3 : ¬ x2 - x2 / 4096 * 4096 = 0 := by
          rcases b2 with z | z | z
          · exact absurd (Or.inl z) q1
          · exact absurd (Or.inr z) q1
          · exact z
        obtain ⟨A, hA, rfl⟩ := nI_of (fun z => q1 (Or.inl z))
        obtain ⟨w1, w2⟩ := M_row h1 b hA (nI k)
        rw [if_neg q3, if_neg q3]
        by_cases q4 : j_M_row M (nI k) (nI A) = -1
        · rw [if_pos q4, if_pos q4]
          exact ⟨⟨w1, trivial⟩, rfl, hR⟩
        · rw [if_neg q4, if_neg q4]
          exact ⟨⟨w1, trivial⟩, rfl, hR⟩
    · obtain ⟨w1, w2⟩ := M_rowk h1 b (show A < 2 ^ 31 by omega) hk
      rw [b1, if_neg n1, L_entry c1 hn hk ha hA, if_pos b2, if_pos b2]
      rcases w2 with ⟨hh, i, i1, i2, i3, i4⟩ | ⟨hh, w2⟩
      · have hm1 : ¬ nI i = -1 := nI_m1 (by have := h1.2.1.1; omega)
        rw [if_neg ((L_ent0 c1 hn).2 hh).1, i4, if_neg hm1, if_neg hm1]
        rcases flags_c x3 with ⟨l1, l2⟩ | ⟨l, hl, rfl, l1, l2, l3⟩
        · rw [l1, if_pos rfl]
          by_cases q2 : x3 < 0
          · rw [if_pos q2, if_pos q2]
            exact ⟨⟨w1, trivial⟩, rfl, hR⟩
          · have q3 : ¬ x3 ≤ 15 := by
              rcases l2 with z | z
              · exact absurd z q2
              · exact z
            rw [if_neg q2, if_neg q2, if_neg q3, if_neg q3]
            exact ⟨⟨w1, trivial⟩, rfl, hR⟩
        · rw [l1, if_neg n1, if_neg l2, if_neg l2, if_pos l3, if_pos l3, nI_clamp (by have := h1.2.1.1; omega)]
          obtain ⟨z1, z2, z3⟩ := (L_ent0 c1 hn (k := k) (p := A / 4096)).2 hh
          have ee : ent hs kn fl kf k (A / 4096) = nI (16 * (kf (kn k (A / 4096)) + 1) + fl k (A / 4096)) := by unfold ent; rw [if_pos hh]
          have hdiv : A / 4096 / 1024 = A / 4194304 := by omega
          have hrg := (b.1 _ _ hh).2.2.1
          rw [hdiv] at hrg
          have hroot := ((c1.2.2.2.2.2.2.1 k hk).1 ha).1
          have hrw := ((c1.2.2.2.2.2.2.1 k hk).1 ha).2 (A / 4194304) (by omega)
          rw [if_pos hrg] at hrw
          rw [ee, (en_dec (kf (kn k (A / 4096))) (by omega) _ z3).2.1, (en_dec (kf (kn k (A / 4096))) (by omega) _ hl).1, L_set hn hA hroot (c1.1 k hk ha).1 hrw (c1.2.1 _ _ hrg).1]
          refine ⟨⟨w1, vp_in_nI (by have := h1.2.1.1; omega) (by decide), trivial⟩, rfl, ⟨al, en, hs, kn, up2 fl k (A / 4096) l, rg, K, d, B, bf, kf, pk, hn, ht, ⟨rf, tf, ow, P, R, ps, pn, rs, rn, S_flag c1 hh hl (fun _ => rfl) (fun _ => rfl) (fun _ => rfl) rfl rfl (fun i j => by rw [w_word, hdiv]), ?_, ML_same g1 rfl rfl rfl rfl rfl rfl⟩, hE, hb, by omega, by omega⟩⟩
          refine ⟨h1.1, h1.2.1, h1.2.2.1, h1.2.2.2.1, fun j hj => ?_, h1.2.2.2.2.2⟩
          obtain ⟨d1, d2, d3, d4, d5⟩ := h1.2.2.2.2.1 j hj
          refine ⟨d1, d2, ?_, d4, d5⟩
          show upd (m_pf M) i (nI l) j = _
          by_cases y : j = i
          · rw [y, pk_us, i2, i3, up2_s]
          · rw [pk_un y, up2_n (fun z => y (h1.2.2.2.2.2.1 j i hj i1 (z.1.trans i2.symm) (z.2.trans i3.symm)))]
            exact d3
      · rw [(L_ent0 c1 hn).1 hh, if_pos rfl, w2, if_pos rfl, if_pos rfl]
        by_cases q2 : j_V_areFlags x3 = 0
        · rw [if_pos q2]
          exact ⟨⟨w1, trivial⟩, rfl, hR⟩
        · rw [if_neg q2]
          exact ⟨⟨w1, trivial⟩, rfl, hR⟩
set_option maxHeartbeats 2000000 in
theorem rl_grow {n c : Nat} {V : VS} {M : MS} (h : Rl n c V M) (hc : c < 512) (x1 x2 : Int32) : p_M_grow M x1 x2 ∧ (j_V_grow n V x1 x2).1 = (j_M_grow M x1 x2).1 ∧ Rl n (c + 1) ((j_V_grow n V x1 x2).2) ((j_M_grow M x1 x2).2) := by
  have hR := rl_none h hc
  obtain ⟨al, en, hs, kn, fl, rg, K, d, B, bf, kf, pk, hn, ht, ⟨rf, tf, ow, P, R, ps, pn, rs, rn, c1, h1, g1⟩, hE, hb, hd, hK⟩ := h
  obtain ⟨b, hpk⟩ := CG_AB c1
  unfold p_M_grow j_V_grow j_M_grow
  rcases L_find c1 hn x1 with ⟨a1, a2⟩ | ⟨k, hk, rfl, ha, a2⟩
  · rw [a1, oc_n, M_lives0 h1 a2, if_pos rfl, if_pos rfl]
    exact ⟨trivial, rfl, hR⟩
  · have n1 : ¬ (1 : Int32) = 0 := by decide
    obtain ⟨hlen, hen⟩ := c1.2.2.2.2.2.2.2.2.2.1 k hk ha
    have hlen' : j_S_length V k = nI (en k) := hlen
    rw [a2, oc_s, M_lives1 h1 hk ha, if_neg n1, if_neg n1, nI_clamp (show k < 2 ^ 31 by omega), hlen', h1.2.2.2.1 k hk ha]
    by_cases q1 : lg_cmp ((nI (en k)).toInt64 + x2.toInt64) 0 < 0
    · rw [if_pos q1, if_pos q1, if_pos q1]
      exact ⟨trivial, rfl, hR⟩
    · rw [if_neg q1, if_neg q1, if_neg q1]
      by_cases q2 : lg_cmp ((nI (en k)).toInt64 + x2.toInt64) 1073741824 ≤ 0
      · rw [if_pos q2, if_pos q2, if_pos q2]
        obtain ⟨N, hN, eN⟩ := lg_num q1 q2
        rw [eN]
        have hme : m_ends (t_ends M k (nI N)) k = nI N := by
          show upd (m_ends M) k (nI N) k = _
          rw [pk_us]
        rw [hme]
        obtain ⟨m1, ⟨P2, ps2, pn2, m2⟩, m3, m4⟩ := M_remove (a := N) (M_ends (k := k) (e := N) h1) b hk hN
        have m5 := m3 _ _ _ (ML_same (M' := t_ends M k (nI N)) g1 rfl rfl rfl rfl rfl rfl)
        refine ⟨⟨m1, trivial⟩, rfl, ?_⟩
        show Rl n (c + 1) (j_S_resize n V k (nI N)) (j_M_removePages (t_ends M k (nI N)) (nI k) (nI N))
        unfold j_S_resize
        rw [hlen]
        have hEn : ∀ k' p, cut hs k ((N + 4095) / 4096) (2 ^ 18) k' p = true → p * 4096 < va_up en k N k' := fun k' p z => by
          obtain ⟨z1, z2⟩ := cut_sub z
          by_cases y : k' = k
          · rw [y, va_up_self]
            have := (b.1 _ _ z1).2.1
            rw [y] at z2
            have : ¬ ((N + 4095) / 4096 ≤ p ∧ p < 2 ^ 18) := fun w => z2 ⟨rfl, w.1, w.2⟩
            omega
          · rw [va_up_ne _ _ y]
            exact hE _ _ z1
        by_cases q3 : en k ≤ N
        · have q3' : nI (en k) ≤ nI N := nI_le q3 (by omega)
          rw [if_pos q3']
          have hcut : cut hs k ((N + 4095) / 4096) (2 ^ 18) = hs := cut_no (fun p y1 y2 => by
            cases z : hs k p with
            | false => rfl
            | true =>
              have := hE _ _ z
              omega)
          rw [hcut] at m2 hEn
          exact ⟨al, va_up en k N, hs, kn, fl, rg, K, d, B, bf, kf, pk, hn, by rw [m4]; exact ht, ⟨rf, tf, ow, P2, R, ps2, pn2, rs, rn, S_len c1 hN, m2, m5⟩, hEn, hb, by omega, by omega⟩
        · have q3' : ¬ nI (en k) ≤ nI N := nI_ge (by omega) (by omega)
          rw [if_neg q3']
          have hju : ju (nI N + 4096 - 1) 12 = nI ((N + 4095) / 4096) := by
            have z1 : nI N + 4096 = nI (N + 4096) := nI_add N 4096
            have z2 : nI (N + 4096) - 1 = nI (N + 4095) := nI_pred (N + 4095)
            rw [z1, z2]
            exact ju12N (by omega)
          rw [hju]
          obtain ⟨V', v1, v2, v3⟩ := C_remove (k := k) (a := (N + 4095) / 4096) c1 hn hk ha (by omega)
          rw [v1]
          exact ⟨al, va_up en k N, _, kn, fl, rg, K, d, B, bf, kf, pk, hn, by rw [m4]; exact v2.trans ht, ⟨rf, tf, ow, P2, R, ps2, pn2, rs, rn, S_len v3 hN, m2, m5⟩, hEn, hb, by omega, by omega⟩
      · rw [if_neg q2, if_neg q2, if_neg q2]
        exact ⟨trivial, rfl, hR⟩
theorem rl_put {n c : Nat} {V : VS} {M : MS} (h : Rl n c V M) (hc : c < 512) (x1 x2 : Int32) : p_M_put M x1 x2 ∧ (j_V_put V x1 x2).1 = (j_M_put M x1 x2).1 ∧ Rl n (c + 1) ((j_V_put V x1 x2).2) ((j_M_put M x1 x2).2) := by
  have hR := rl_none h hc
  obtain ⟨al, en, hs, kn, fl, rg, K, d, B, bf, kf, pk, hn, ht, ⟨rf, tf, ow, P, R, ps, pn, rs, rn, c1, h1, g1⟩, hE, hb, hd, hK⟩ := h
  unfold p_M_put j_V_put j_M_put
  have e1 : (512 : Int32) = nI 512 := rfl
  have e2 : (511 : Int32) = nI 511 := rfl
  by_cases q1 : x1 < 0
  · rw [if_pos q1, if_pos q1, if_pos q1]
    exact ⟨trivial, rfl, hR⟩
  · obtain ⟨j, hj, rfl⟩ := nI_of q1
    rw [if_neg q1, if_neg q1, if_neg q1, e1, e2]
    by_cases q2 : 512 ≤ j
    · have q3 : nI 512 ≤ nI j := nI_le q2 hj
      have q4 : nI 511 < nI j := nI_lt (by omega) hj
      rw [if_pos q3, if_pos q4, if_pos q4]
      exact ⟨trivial, rfl, hR⟩
    · have q3 : ¬ nI 512 ≤ nI j := nI_ge (by omega) (by decide)
      have q4 : ¬ nI 511 < nI j := nI_nlt (by omega) (by omega)
      rw [if_neg q3, if_neg q4, if_neg q4]
      by_cases q5 : x2 < 0
      · rw [if_pos q5, if_pos q5, if_pos q5]
        exact ⟨trivial, rfl, hR⟩
      · rw [if_neg q5, if_neg q5, if_neg q5]
        by_cases q6 : x2 ≤ 255
        · obtain ⟨x, hx, rfl⟩ := nI_of2 (n := 255) (M := 255) rfl q5 q6
          rw [if_pos q6, if_pos q6, if_pos q6, nI_clamp hj]
          obtain ⟨l1, l2⟩ := ML_6 g1 (by omega) (show j < 512 by omega) (nI x)
          refine ⟨⟨l1, trivial⟩, rfl, ⟨al, en, hs, kn, fl, rg, K, d + 1, B, upd bf j (nI x), kf, pk, hn, ht, ⟨rf, tf, ow, P, R, ps, pn, rs, rn, S_buf c1, N_rows h1 _ _ _ _ _, l2⟩, hE, fun i hi => ?_, by omega, by omega⟩⟩
          by_cases y : i = j
          · rw [y, pk_us]
            exact byt_small x (by omega)
          · rw [pk_un y]
            exact hb i hi
        · rw [if_neg q6, if_neg q6, if_neg q6]
          exact ⟨trivial, rfl, hR⟩
theorem rl_at {n c : Nat} {V : VS} {M : MS} (h : Rl n c V M) (hc : c < 512) (x1 : Int32) : p_M_at M x1 ∧ j_V_at V x1 = j_M_at M x1 ∧ Rl n (c + 1) (V) (M) := by
  have hR := rl_none h hc
  obtain ⟨al, en, hs, kn, fl, rg, K, d, B, bf, kf, pk, hn, ht, ⟨rf, tf, ow, P, R, ps, pn, rs, rn, c1, h1, g1⟩, hE, hb, hd, hK⟩ := h
  unfold p_M_at j_V_at j_M_at
  have e1 : (512 : Int32) = nI 512 := rfl
  have e2 : (511 : Int32) = nI 511 := rfl
  by_cases q1 : x1 < 0
  · rw [if_pos q1, if_pos q1, if_pos q1]
    exact ⟨trivial, rfl, hR⟩
  · obtain ⟨j, hj, rfl⟩ := nI_of q1
    rw [if_neg q1, if_neg q1, if_neg q1, e1, e2]
    by_cases q2 : j < 512
    · have q3 : nI j < nI 512 := nI_lt q2 (by decide)
      have q4 : nI j ≤ nI 511 := nI_le (by omega) (by decide)
      rw [if_pos q3, if_pos q4, if_pos q4, nI_clamp hj, byteOf_LB g1.1 (by omega)]
      exact ⟨⟨pB g1.1 (by omega) _ _, trivial⟩, (c1.2.2.2.2.2.2.2.2.2.2 j q2).trans (g1.2.2.2 j q2).symm, hR⟩
    · have q3 : ¬ nI j < nI 512 := nI_nlt (by omega) hj
      have q4 : ¬ nI j ≤ nI 511 := nI_ge (by omega) hj
      rw [if_neg q3, if_neg q4, if_neg q4]
      exact ⟨trivial, rfl, hR⟩
set_option maxHeartbeats 1000000 in
/-- an entry, looked up on both sides -/
theorem entry_c (c1 : CG n V al en hs hs kn fl rg rg K B1 bf1 rf tf kf pk ow) (hn : n ≤ 32) (h1 : MRw n M al en hs kn fl rg K P R ps pn rs rn) (x1 x2 : Int32) : p_M_row M x1 x2 ∧ ((j_V_entryIn n V x1 x2 = 0 ∧ j_M_row M x1 x2 = -1) ∨ ∃ k p i, k < 16 ∧ hs k p = true ∧ i < P ∧ ps i = k ∧ pn i = p ∧ j_V_entryIn n V x1 x2 = ent hs kn fl kf k p ∧ j_M_row M x1 x2 = nI i) := by
  obtain ⟨b, hpk⟩ := CG_AB c1
  unfold j_V_entryIn
  rcases L_find c1 hn x1 with ⟨a1, a2⟩ | ⟨k, hk, rfl, ha, a2⟩
  · obtain ⟨w1, w2⟩ := row_none (x2 := x2) h1 b a2
    rw [a1, oc_n]
    exact ⟨w1, Or.inl ⟨rfl, w2⟩⟩
  · rw [a2, oc_s]
    rcases addr_c x2 with hx | ⟨A, hA, rfl⟩
    · obtain ⟨w1, w2⟩ := row_bad (x1 := nI k) h1 b hx
      rw [users_n hx, if_pos rfl]
      exact ⟨w1, Or.inl ⟨rfl, w2⟩⟩
    · obtain ⟨w1, w2⟩ := M_rowk h1 b (show A < 2 ^ 31 by omega) hk
      rw [users_y hA, if_neg (by decide), L_entry c1 hn hk ha hA]
      refine ⟨w1, ?_⟩
      rcases w2 with ⟨hh, i, i1, i2, i3, i4⟩ | ⟨hh, w2⟩
      · exact Or.inr ⟨k, A / 4096, i, hk, hh, i1, i2, i3, rfl, i4⟩
      · exact Or.inl ⟨(L_ent0 c1 hn).1 hh, w2⟩
theorem rl_flags {n c : Nat} {V : VS} {M : MS} (h : Rl n c V M) (hc : c < 512) (x1 x2 : Int32) : p_M_flags M x1 x2 ∧ j_V_flags n V x1 x2 = j_M_flags M x1 x2 ∧ Rl n (c + 1) (V) (M) := by
  have hR := rl_none h hc
  obtain ⟨al, en, hs, kn, fl, rg, K, d, B, bf, kf, pk, hn, ht, ⟨rf, tf, ow, P, R, ps, pn, rs, rn, c1, h1, g1⟩, hE, hb, hd, hK⟩ := h
  unfold p_M_flags j_V_flags j_M_flags
  obtain ⟨w1, ⟨a1, a2⟩ | ⟨k, p, i, hk, hh, i1, i2, i3, a1, a2⟩⟩ := entry_c c1 hn h1 x1 x2
  · rw [a1, a2, if_pos rfl, if_pos rfl, if_pos rfl]
    exact ⟨⟨w1, trivial⟩, rfl, hR⟩
  · have hm1 : ¬ nI i = -1 := nI_m1 (by have := h1.2.1.1; omega)
    obtain ⟨z1, z2, z3⟩ := (L_ent0 c1 hn (k := k) (p := p)).2 hh
    rw [a1, a2, if_neg z1, if_neg hm1, if_neg hm1, nI_clamp (by have := h1.2.1.1; omega)]
    refine ⟨⟨w1, vp_in_nI (by have := h1.2.1.1; omega) (by decide), trivial⟩, ?_, hR⟩
    have a3 := (h1.2.2.2.2.1 i i1).2.2.1
    rw [i2, i3] at a3
    rw [a3]
    unfold ent
    rw [if_pos hh]
    exact (en_dec _ (by omega) _ z3).2.2.1
theorem rl_owners {n c : Nat} {V : VS} {M : MS} (h : Rl n c V M) (hc : c < 512) (x1 x2 : Int32) : p_M_owners M x1 x2 ∧ j_V_owners n V x1 x2 = j_M_owners M x1 x2 ∧ Rl n (c + 1) (V) (M) := by
  have hR := rl_none h hc
  obtain ⟨al, en, hs, kn, fl, rg, K, d, B, bf, kf, pk, hn, ht, ⟨rf, tf, ow, P, R, ps, pn, rs, rn, c1, h1, g1⟩, hE, hb, hd, hK⟩ := h
  unfold p_M_owners j_V_owners j_M_owners
  obtain ⟨w1, ⟨a1, a2⟩ | ⟨k, p, i, hk, hh, i1, i2, i3, a1, a2⟩⟩ := entry_c c1 hn h1 x1 x2
  · rw [a1, a2, if_pos rfl, if_pos rfl, en_0]
    refine ⟨⟨w1, trivial⟩, ?_, hR⟩
    unfold j_F_holders
    rw [isF_m1, if_pos rfl]
  · have hm1 : ¬ nI i = -1 := nI_m1 (by have := h1.2.1.1; omega)
    obtain ⟨z1, z2, z3⟩ := (L_ent0 c1 hn (k := k) (p := p)).2 hh
    obtain ⟨b, hpk⟩ := CG_AB c1
    obtain ⟨hKx, hps⟩ := CG_live c1 hh
    have a4 := (h1.2.2.2.2.1 i i1).2.2.2.1
    rw [i2, i3] at a4
    obtain ⟨s1, s2⟩ := M_sharers h1 b (by omega) hpk hh
    rw [a1, a2, if_neg hm1, if_neg hm1, nI_clamp (by have := h1.2.1.1; omega), a4]
    refine ⟨⟨w1, vp_in_nI (by have := h1.2.1.1; omega) (by decide), s1, trivial⟩, ?_, hR⟩
    rw [s2]
    unfold ent j_F_holders
    rw [if_pos hh, (en_dec _ (by omega) _ z3).2.1, isF_nI hn z2, if_neg (by decide), nI_clamp (by omega)]
    exact (c1.2.2.1 _ hKx hps).2.2
theorem rl_init {n : Nat} (h8 : 8 ≤ n) (h32 : n ≤ 32) : Rl n 0 (V0 n) (M0 n) := by
  have hf : fre (V0 n) = fun _ => true := by
    funext i
    rfl
  have hcn : cnt n (fre (V0 n)) = n := cnt_all (fun i _ => by rw [hf])
  have nf : ∀ {P : Prop}, false = true → P := fun z => Bool.noConfusion z
  refine ⟨fun _ => false, fun _ => 0, fun _ _ => false, fun _ _ => 0, fun _ _ => 0, fun _ _ => false, 0, 0, fun _ _ => 0, fun _ => 0, fun _ => 0, fun _ => 0, h32, rfl, ⟨fun _ => 0, fun _ _ => 0, fun _ => (0, 0, 0), 0, 0, fun _ => 0, fun _ => 0, fun _ => 0, fun _ => 0, ⟨fun _ _ z => nf z, fun _ _ z => nf z, fun κ z => absurd z (Nat.not_lt_zero _), ⟨?_, ?_⟩, fun _ _ z => nf z, fun _ _ z => nf z, fun k _ => ⟨fun z => nf z, fun _ => rfl⟩, fun _ _ z => nf z, fun _ _ z => nf z, fun _ _ z => nf z, fun _ _ => rfl⟩, ⟨⟨?_, rfl, rfl, rfl⟩, ⟨by decide, by decide⟩, fun _ _ => rfl, fun _ _ z => nf z, fun _ z => absurd z (Nat.not_lt_zero _), fun _ _ z => absurd z (Nat.not_lt_zero _), fun _ _ z => nf z, fun _ z => absurd z (Nat.not_lt_zero _), fun _ _ z => absurd z (Nat.not_lt_zero _), fun _ _ z => nf z⟩, ⟨rfl, by decide, fun _ _ _ _ => rfl, fun _ _ => rfl⟩⟩, fun _ _ z => nf z, fun _ _ => byt_0 0 (by decide), by decide, by decide⟩
  · rw [hcn]
    rfl
  · rw [hcn, cnt_0 (fun _ _ => rfl), show regs (fun _ _ => false) = 0 from cnt_0 (fun _ _ => rfl)]
    rfl
  · rfl
end MT
