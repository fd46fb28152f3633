/-- the relation of the two states behind c calls -/
def Rl (n c : Nat) (V : VS) (M : MS) : Prop :=
  ∃ al en hs kn fl rg K d B bf kf pk, n ≤ 32 ∧ v_trap V = m_trap M ∧ ST n V M al en hs kn fl rg K d B bf B bf kf pk ∧ (∀ k p, hs k p = true → p * 4096 < en k) ∧ (∀ j, j < 512 → byt (bf j) (nI 0) = bf j) ∧ d ≤ 3 * c ∧ K ≤ 1024 * c
theorem va_id {α : Type} {f : Nat → α} {k : Nat} {x : α} (h : f k = x) : va_up f k x = f := by
  funext i
  by_cases e : i = k
  · rw [e, va_up_self, h]
  · rw [va_up_ne _ _ e]
theorem oc_s {α β : Type} {x : α} {a : β} {f : α → β} : oc (some x) a f = f x := rfl
theorem oc_n {α β : Type} {a : β} {f : α → β} : oc none a f = a := rfl
section MT
variable {n : Nat} {V : VS} {M M' : MS} {al : Nat → Bool} {en : Nat → Nat} {hs : Nat → Nat → Bool} {kn fl : Nat → Nat → Nat} {rg : Nat → Nat → Bool} {K P R d c : Nat} {ps pn rs rn pk kf rf : Nat → Nat} {tf : Nat → Nat → Nat} {ow : Nat → Nat × Nat × Nat} {k p l r q A κ a e : Nat} {B B1 B2 : Nat → Nat → Int32} {bf bf1 bf2 : Nat → Int32}
theorem M_alive (h : MRw n M al en hs kn fl rg K P R ps pn rs rn) : MRw n (t_ends (t_alive M k 1) k (nI e)) (va_up al k true) (va_up en k e) hs kn fl rg K P R ps pn rs rn := by
  obtain ⟨h1, h2, h3, h4, h5⟩ := h
  refine ⟨h1, h2, fun k' hk' => ?_, fun k' hk' ha' => ?_, h5⟩
  · show upd (m_alive M) k 1 k' = _
    by_cases z : k' = k
    · rw [z, pk_us, va_up_self, if_pos rfl]
    · rw [pk_un z, va_up_ne _ _ z]
      exact h3 k' hk'
  · show upd (m_ends M) k (nI e) k' = _
    by_cases z : k' = k
    · rw [z, pk_us, va_up_self]
    · rw [pk_un z, va_up_ne _ _ z]
      rw [va_up_ne _ _ z] at ha'
      exact h4 k' hk' ha'
theorem M_dead (h : MRw n M al en hs kn fl rg K P R ps pn rs rn) : MRw n (t_alive M k 0) (va_up al k false) en hs kn fl rg K P R ps pn rs rn := by
  obtain ⟨h1, h2, h3, h4, h5⟩ := h
  refine ⟨h1, h2, fun k' hk' => ?_, fun k' hk' ha' => ?_, h5⟩
  · show upd (m_alive M) k 0 k' = _
    by_cases z : k' = k
    · rw [z, pk_us, va_up_self, if_neg (by decide)]
    · rw [pk_un z, va_up_ne _ _ z]
      exact h3 k' hk'
  · have z : k' ≠ k := fun z => by
      rw [z, va_up_self] at ha'
      cases ha'
    rw [va_up_ne _ _ z] at ha'
    exact h4 k' hk' ha'
theorem M_ends (h : MRw n M al en hs kn fl rg K P R ps pn rs rn) : MRw n (t_ends M k (nI e)) al (va_up en k e) hs kn fl rg K P R ps pn rs rn := by
  obtain ⟨h1, h2, h3, h4, h5⟩ := h
  refine ⟨h1, h2, h3, fun k' hk' ha' => ?_, h5⟩
  show upd (m_ends M) k (nI e) k' = _
  by_cases z : k' = k
  · rw [z, pk_us, va_up_self]
  · rw [pk_un z, va_up_ne _ _ z]
    exact h4 k' hk' ha'
theorem no_p (b : AB al hs kn fl rg K) (ha : al k = false) (p : Nat) : hs k p = false := by
  cases z : hs k p with
  | false => rfl
  | true =>
    have z1 := (b.2 _ _ (b.1 _ _ z).2.2.1).2.2
    rw [ha] at z1
    cases z1
theorem no_r (b : AB al hs kn fl rg K) (ha : al k = false) (r : Nat) : rg k r = false := by
  cases z : rg k r with
  | false => rfl
  | true =>
    have z1 := (b.2 _ _ z).2.2
    rw [ha] at z1
    cases z1
theorem rl_none {n c : Nat} {V : VS} {M : MS} (h : Rl n c V M) (hc : c < 512) : Rl n (c + 1) V M := by
  obtain ⟨al, en, hs, kn, fl, rg, K, d, B, bf, kf, pk, hn, ht, s, hE, hb, hd, hK⟩ := h
  exact ⟨al, en, hs, kn, fl, rg, K, d, B, bf, kf, pk, hn, ht, s, hE, hb, by omega, by omega⟩
theorem rl_trap {n c : Nat} {V : VS} {M : MS} (h : Rl n c V M) (hc : c < 512) : j_V_trap V = j_M_trap M ∧ Rl n (c + 1) (V) (M) := by
  refine ⟨?_, rl_none h hc⟩
  obtain ⟨al, en, hs, kn, fl, rg, K, d, B, bf, kf, pk, hn, ht, s, -⟩ := h
  exact ht
theorem rl_size {n c : Nat} {V : VS} {M : MS} (h : Rl n c V M) (hc : c < 512) (x1 : Int32) : j_V_size V x1 = j_M_size M x1 ∧ Rl n (c + 1) (V) (M) := by
  refine ⟨?_, rl_none h hc⟩
  obtain ⟨al, en, hs, kn, fl, rg, K, d, B, bf, kf, pk, hn, ht, ⟨rf, tf, ow, P, R, ps, pn, rs, rn, c1, h1, g1⟩, -⟩ := h
  unfold j_V_size j_M_size
  rcases L_find c1 hn x1 with ⟨a1, a2⟩ | ⟨k, hk, rfl, ha, a2⟩
  · rw [a1, M_lives0 h1 a2, if_pos rfl]
    rfl
  · rw [a2, M_lives1 h1 hk ha, if_neg (by decide), nI_clamp (by omega), h1.2.2.2.1 k hk ha]
    exact (c1.2.2.2.2.2.2.2.2.2.1 k hk ha).1
theorem rl_free {n c : Nat} {V : VS} {M : MS} (h : Rl n c V M) (hc : c < 512) : p_M_free M ∧ j_V_free V = j_M_free M ∧ Rl n (c + 1) (V) (M) := by
  have hR := rl_none h hc
  obtain ⟨al, en, hs, kn, fl, rg, K, d, B, bf, kf, pk, hn, ht, ⟨rf, tf, ow, P, R, ps, pn, rs, rn, c1, h1, g1⟩, hE, hb, hd, hK⟩ := h
  obtain ⟨f1, f2⟩ := M_free c1 h1 (by omega)
  refine ⟨⟨f1, trivial⟩, ?_, hR⟩
  show v_spare V = j_M_freeFrames M
  rw [f2]
  exact c1.2.2.2.1.1
theorem rl_make {n c : Nat} {V : VS} {M : MS} (h : Rl n c V M) (hc : c < 512) : p_M_make M ∧ (j_V_make n V).1 = (j_M_make M).1 ∧ Rl n (c + 1) ((j_V_make n V).2) ((j_M_make M).2) := by
  have hR := rl_none h hc
  obtain ⟨al, en, hs, kn, fl, rg, K, d, B, bf, kf, pk, hn, ht, ⟨rf, tf, ow, P, R, ps, pn, rs, rn, c1, h1, g1⟩, hE, hb, hd, hK⟩ := h
  obtain ⟨f1, f2⟩ := M_free c1 h1 (by omega)
  obtain ⟨b, hpk⟩ := CG_AB c1
  have hcn : cnt n (fre V) ≤ n := cnt_le _ _
  have hsp : j_F_spare V = nI (cnt n (fre V)) := c1.2.2.2.1.1
  have e1 : (1 : Int32) = nI 1 := rfl
  unfold p_M_make j_V_make j_M_make
  rcases unused2 (L_unused c1 hn) (M_unused h1) with ⟨a1, a2⟩ | ⟨k, hk, ha, a1, a2⟩
  · rw [a1, a2, if_pos rfl, if_pos rfl, if_pos rfl]
    exact ⟨trivial, rfl, hR⟩
  · have hm1 : ¬ nI k = -1 := nI_m1 (by omega)
    rw [a1, a2, if_neg hm1, if_neg hm1, if_neg hm1, hsp, f2, nI_clamp (by omega)]
    by_cases z : cnt n (fre V) = 0
    · have z1 : ¬ (1 : Int32) ≤ nI (cnt n (fre V)) := by rw [e1]; exact nI_ge (by omega) (by decide)
      have z2 : nI (cnt n (fre V)) = 0 := by rw [z]; rfl
      rw [if_neg z1, if_pos z2]
      exact ⟨⟨f1, trivial⟩, rfl, hR⟩
    · have z1 : (1 : Int32) ≤ nI (cnt n (fre V)) := by rw [e1]; exact nI_le (by omega) (by omega)
      have z2 : ¬ nI (cnt n (fre V)) = 0 := nI_ne0 (by omega) (by omega)
      rw [if_pos z1, if_neg z2]
      obtain ⟨f, ow', V', b1, b2, b3⟩ := C_open (k := k) (e := 0) c1 hn hk ha (by decide) (by omega)
      rw [nI_0] at b1
      rw [b1]
      have hM := M_alive (k := k) (e := 0) h1
      rw [nI_0] at hM
      refine ⟨⟨f1, trivial⟩, rfl, ⟨va_up al k true, va_up en k 0, hs, kn, fl, rg, K, d, B, bf, kf, pk, hn, ?_, ⟨_, tf, ow', P, R, ps, pn, rs, rn, b3, hM, ML_same g1 rfl rfl rfl rfl rfl rfl⟩, fun k' p z => ?_, hb, by omega, by omega⟩⟩
      · exact b2.trans ht
      · rw [va_up_ne _ _ (fun y => by rw [y, no_p b ha] at z; cases z)]
        exact hE _ _ z
theorem cut_sub {lo hi k' p' : Nat} (z : cut hs k lo hi k' p' = true) : hs k' p' = true ∧ ¬ (k' = k ∧ lo ≤ p' ∧ p' < hi) := by
  by_cases e : k' = k ∧ lo ≤ p' ∧ p' < hi
  · rw [e.1, cut_in e.2.1 e.2.2] at z
    cases z
  · rw [cut_out e] at z
    exact ⟨z, e⟩
theorem AB_cut (b : AB al hs kn fl rg K) {lo hi : Nat} : AB al (cut hs k lo hi) kn fl rg K := ⟨fun k' p' z => b.1 _ _ (cut_sub z).1, b.2⟩
theorem rl_drop {n c : Nat} {V : VS} {M : MS} (h : Rl n c V M) (hc : c < 512) (x1 : Int32) : p_M_drop M x1 ∧ (j_V_drop n V x1).1 = (j_M_drop M x1).1 ∧ Rl n (c + 1) ((j_V_drop n V x1).2) ((j_M_drop M x1).2) := by
  have hR := rl_none h hc
  obtain ⟨al, en, hs, kn, fl, rg, K, d, B, bf, kf, pk, hn, ht, ⟨rf, tf, ow, P, R, ps, pn, rs, rn, c1, h1, g1⟩, hE, hb, hd, hK⟩ := h
  obtain ⟨b, hpk⟩ := CG_AB c1
  unfold p_M_drop j_V_drop j_M_drop
  rcases L_find c1 hn x1 with ⟨a1, a2⟩ | ⟨k, hk, rfl, ha, a2⟩
  · rw [a1, M_lives0 h1 a2, if_pos rfl, if_pos rfl]
    exact ⟨trivial, rfl, hR⟩
  · have n1 : ¬ (1 : Int32) = 0 := by decide
    rw [a2, oc_s, M_lives1 h1 hk ha, if_neg n1, if_neg n1, nI_clamp (by omega)]
    obtain ⟨V', q1, q2, q3⟩ := C_close c1 hn hk ha
    obtain ⟨m1, ⟨P2, ps2, pn2, m2⟩, m3, m4⟩ := M_remove (a := 0) h1 b hk (by decide)
    rw [nI_0] at m1 m2 m3 m4
    obtain ⟨s1, ⟨R2, rs2, rn2, s2⟩, s3, s4⟩ := M_removeR m2 (AB_cut b) hk
    rw [q1]
    refine ⟨⟨m1, s1, trivial⟩, rfl, ?_⟩
    refine ⟨va_up al k false, en, _, kn, fl, _, K, d, B, bf, kf, pk, hn, ?_, ⟨rf, tf, ow, P2, R2, ps2, pn2, rs2, rn2, q3, M_dead s2, ML_same (s3 _ _ _ (m3 _ _ _ g1)) rfl rfl rfl rfl rfl rfl⟩, fun k' p z => hE _ _ (cut_sub z).1, hb, by omega, by omega⟩
    rw [q2, ht, ← m4]
    exact s4.symm
set_option maxHeartbeats 1000000 in
theorem rl_fork {n c : Nat} {V : VS} {M : MS} (h : Rl n c V M) (hc : c < 512) (x1 : Int32) : p_M_fork M x1 ∧ (j_V_fork n V x1).1 = (j_M_fork M x1).1 ∧ Rl n (c + 1) ((j_V_fork n V x1).2) ((j_M_fork M x1).2) := by
  have hR := rl_none h hc
  obtain ⟨al, en, hs, kn, fl, rg, K, d, B, bf, kf, pk, hn, ht, ⟨rf, tf, ow, P, R, ps, pn, rs, rn, c1, h1, g1⟩, hE, hb, hd, hK⟩ := h
  obtain ⟨b, hpk⟩ := CG_AB c1
  obtain ⟨f1, f2⟩ := M_free c1 h1 (by omega)
  have hcn : cnt n (fre V) ≤ n := cnt_le _ _
  have hsp : j_F_spare V = nI (cnt n (fre V)) := c1.2.2.2.1.1
  unfold p_M_fork j_V_fork j_M_fork
  rcases L_find c1 hn x1 with ⟨a1, a2⟩ | ⟨q, hq, rfl, haq, a2⟩
  · rw [a1, M_lives0 h1 a2, if_pos rfl, if_pos rfl]
    exact ⟨trivial, rfl, hR⟩
  · have n1 : ¬ (1 : Int32) = 0 := by decide
    rw [a2, M_lives1 h1 hq haq, if_neg n1, if_neg n1]
    show _ ∧ (if j_V_leastUnused V = -1 then (-1, V) else if j_S_framesOfCopy n V q ≤ j_F_spare V then (j_V_leastUnused V, j_S_openAsCopy n V (j_V_leastUnused V).toNatClampNeg q) else (-1, V)).1 = _ ∧ Rl n (c + 1) (if j_V_leastUnused V = -1 then (-1, V) else if j_S_framesOfCopy n V q ≤ j_F_spare V then (j_V_leastUnused V, j_S_openAsCopy n V (j_V_leastUnused V).toNatClampNeg q) else (-1, V)).2 _
    rcases unused2 (L_unused c1 hn) (M_unused h1) with ⟨u1, u2⟩ | ⟨k, hk, ha, u1, u2⟩
    · rw [u1, u2, if_pos rfl, if_pos rfl, if_pos rfl]
      exact ⟨trivial, rfl, hR⟩
    · have hm1 : ¬ nI k = -1 := nI_m1 (by omega)
      obtain ⟨w1, w2⟩ := M_peopled h1 b hq
      have hc256 : cnt 256 (hpi hs q) ≤ 256 := cnt_le _ _
      have e1 : (1 : Int32) + nI (cnt 256 (hpi hs q)) = nI (1 + cnt 256 (hpi hs q)) := nI_add 1 _
      rw [u1, u2, if_neg hm1, if_neg hm1, if_neg hm1, hsp, f2, w2, e1, L_frames c1 hn hq haq, nI_clamp (show k < 2 ^ 31 by omega), nI_clamp (show q < 2 ^ 31 by omega)]
      by_cases z : 1 + cnt 256 (hpi hs q) ≤ cnt n (fre V)
      · have z1 : nI (1 + cnt 256 (hpi hs q)) ≤ nI (cnt n (fre V)) := nI_le z (by omega)
        rw [if_pos z1, if_pos z1, if_pos z1, h1.2.2.2.1 q hq haq, h1.1.2.1, nI_clamp (by have := h1.2.1.1; omega)]
        obtain ⟨V', rf', tf', ow', q1, q2, q3⟩ := C_copy c1 hn hk ha hq haq z
        rw [q1]
        have hkq : q ≠ k := fun y => by
          rw [y, ha] at haq
          cases haq
        obtain ⟨bd1, bd2⟩ := CG_BD q3 hn
        have hne : ∀ k' p, hs k' p = true → k' ≠ k := fun k' p y y2 => by
          rw [y2, no_p b ha] at y
          cases y
        have hM0 : MRw n (t_ends (t_alive M k 1) k (nI (en q))) (va_up al k true) (va_up en k (en q)) hs (cpy kn k q) (cpy fl k q) rg K P R ps pn rs rn := by
          obtain ⟨y1, y2, y3, y4, y5, y6⟩ := M_alive (k := k) (e := en q) h1
          refine ⟨y1, y2, y3, y4, fun i hi => ?_, y6⟩
          obtain ⟨z1, z2, z3, z4, z5⟩ := y5 i hi
          rw [cpy_n (hne _ _ z5), cpy_n (hne _ _ z5)]
          exact ⟨z1, z2, z3, z4, z5⟩
        have hAB : AB (va_up al k true) hs (cpy kn k q) (cpy fl k q) rg K := by
          refine ⟨fun k' p y => ?_, fun k' r y => ?_⟩
          · rw [cpy_n (hne _ _ y), cpy_n (hne _ _ y)]
            exact b.1 _ _ y
          · obtain ⟨y1, y2, y3⟩ := b.2 _ _ y
            refine ⟨y1, y2, ?_⟩
            by_cases y4 : k' = k
            · rw [y4, va_up_self]
            · rw [va_up_ne _ _ y4]
              exact y3
        obtain ⟨r1, r2, ⟨P2, R2, ps2, pn2, rs2, rn2, r3⟩, r4, r5⟩ := fo_h (B := B) (bf := bf) (n := n) (en := va_up en k (en q)) (d := d) hk hq hkq (no_p b ha) (no_r b ha) hAB (fun p => by rw [cpy_s, cpy_n hkq]) (fun p => by rw [cpy_s, cpy_n hkq]) (va_up_self _ _ _) h1.2.1.1 (fun i hi => (h1.2.2.2.2.1 i hi).2.2.2.2) h1.2.2.2.2.2.1 h1.2.2.2.2.2.2.1 bd1 bd2 (by omega) (P + 1) 0 _ hs rg P R ps pn rs rn (Nat.zero_le _) (by omega) hM0 (Nat.le_refl _) (fun _ _ => ⟨rfl, rfl⟩) (fun _ _ _ => rfl) (fun p => by
            rw [no_p b ha]
            exact ⟨fun y => Bool.noConfusion y, fun ⟨j, j1, _⟩ => absurd j1 (Nat.not_lt_zero _)⟩) (fun _ _ _ => rfl) (fun r => by
            rw [no_r b ha]
            exact ⟨fun y => Bool.noConfusion y, fun ⟨j, j1, _⟩ => absurd j1 (Nat.not_lt_zero _)⟩) (ML_same g1 rfl rfl rfl rfl rfl rfl)
        rw [nI_0] at r1 r2 r3 r4 r5
        refine ⟨⟨f1, w1, r1⟩, r2.symm, ⟨va_up al k true, va_up en k (en q), cpy hs k q, cpy kn k q, cpy fl k q, cpr rg hs k q, K, d + 1, cpy B k q, bf, kf, pk, hn, ?_, ⟨rf', tf', ow', P2, R2, ps2, pn2, rs2, rn2, q3, r3, r4⟩, fun k' p y => ?_, hb, by omega, by omega⟩⟩
        · rw [r5]
          exact q2.trans ht
        · by_cases y2 : k' = k
          · rw [y2, cpy_s] at y
            rw [y2, va_up_self]
            exact hE _ _ y
          · rw [cpy_n y2] at y
            rw [va_up_ne _ _ y2]
            exact hE _ _ y
      · have z1 : ¬ nI (1 + cnt 256 (hpi hs q)) ≤ nI (cnt n (fre V)) := nI_ge (by omega) (by omega)
        rw [if_neg z1, if_neg z1, if_neg z1]
        exact ⟨⟨f1, w1, trivial⟩, rfl, hR⟩
end MT
