def cut (hs : Nat → Nat → Bool) (k lo hi : Nat) : Nat → Nat → Bool := fun k' p' => hs k' p' && !(decide (k' = k ∧ lo ≤ p' ∧ p' < hi))
theorem cut_in {hs : Nat → Nat → Bool} {k lo hi p : Nat} (h1 : lo ≤ p) (h2 : p < hi) : cut hs k lo hi k p = false := by
  unfold cut
  rw [decide_eq_true (p := k = k ∧ lo ≤ p ∧ p < hi) ⟨rfl, h1, h2⟩]
  simp
theorem cut_out {hs : Nat → Nat → Bool} {k lo hi k' p : Nat} (h : ¬ (k' = k ∧ lo ≤ p ∧ p < hi)) : cut hs k lo hi k' p = hs k' p := by
  unfold cut
  rw [decide_eq_false h]
  simp
theorem cut_cut {hs : Nat → Nat → Bool} {k a b c : Nat} (h1 : a ≤ b) (h2 : b ≤ c) : cut (cut hs k a b) k b c = cut hs k a c := by
  funext k' p
  by_cases e1 : k' = k ∧ b ≤ p ∧ p < c
  · obtain ⟨rfl, x, y⟩ := e1
    rw [cut_in x y, cut_in (by omega) y]
  · rw [cut_out e1]
    by_cases e2 : k' = k ∧ a ≤ p ∧ p < b
    · obtain ⟨rfl, x, y⟩ := e2
      rw [cut_in x y, cut_in x (by omega)]
    · rw [cut_out e2, cut_out (by omega)]
theorem cut_no {hs : Nat → Nat → Bool} {k a b : Nat} (h : ∀ p, a ≤ p → p < b → hs k p = false) : cut hs k a b = hs := by
  funext k' p
  by_cases e : k' = k ∧ a ≤ p ∧ p < b
  · obtain ⟨rfl, x, y⟩ := e
    rw [cut_in x y, h p x y]
  · rw [cut_out e]
theorem cut_one {hs : Nat → Nat → Bool} {k p : Nat} : cut hs k p (p + 1) = up2 hs k p false := by
  funext k' p'
  by_cases e : k' = k ∧ p' = p
  · obtain ⟨rfl, rfl⟩ := e
    rw [up2_s, cut_in (Nat.le_refl _) (by omega)]
  · rw [up2_n e, cut_out (by omega)]
section ST
variable {n : Nat} {V V' : VS} {al : Nat → Bool} {en : Nat → Nat} {hs hw : Nat → Nat → Bool} {kn fl : Nat → Nat → Nat} {rg rw : Nat → Nat → Bool} {K : Nat} {B B' : Nat → Nat → Int32} {bf bf' : Nat → Int32} {rf : Nat → Nat} {tf : Nat → Nat → Nat} {kf pk : Nat → Nat} {ow : Nat → Nat × Nat × Nat} {k p f l r j q e A : Nat} {W : Nat → Int32}
set_option maxHeartbeats 1000000 in
theorem rm_1 (h : CG n V al en hs hs kn fl rg rg K B bf rf tf kf pk ow) (hn : n ≤ 32) (hr : rg k r = true) (hj : j < 1024) :
    ∃ V', j_F_setWord n (j_F_release n V (j_V_frameOf (j_F_word n V (nI (tf k r)) (nI j)))) (nI (tf k r)) (nI j) 0 = V' ∧ v_trap V' = v_trap V ∧ CG n V' al en (cut hs k (1024 * r + j) (1024 * r + j + 1)) (cut hs k (1024 * r + j) (1024 * r + j + 1)) kn fl rg rg K B bf rf tf kf pk ow := by
  have hg := h
  obtain ⟨h1, h2, h3, h4, h5, h6, h7, h8, -⟩ := hg
  have ht := (h2 _ _ hr).1
  rw [word_nI hn ht hj, h8 _ _ hr j hj, setW_nI hn ht hj, cut_one]
  by_cases a : hs k (1024 * r + j) = true
  · obtain ⟨hK, hps⟩ := CG_live h a
    obtain ⟨g1, g2, g3⟩ := h3 _ hK hps
    have s16 := shr_16 (hs := hs) (kn := kn) (pk := pk) (κ := kn k (1024 * r + j))
    have hl := (h5 _ _ a).2.2.2.1
    unfold ent
    rw [if_pos a, (en_dec (kf (kn k (1024 * r + j))) (by omega) _ hl).2.1]
    have hsh : shr hs kn pk (kn k (1024 * r + j)) = (shr hs kn pk (kn k (1024 * r + j)) - 1) + 1 := by omega
    rw [L_rel (h := shr hs kn pk (kn k (1024 * r + j)) - 1) hn g1 (by rw [g3]; congr 1) (by omega)]
    have hd : (1024 * r + j) / 1024 = r := by omega
    have hm : (1024 * r + j) % 1024 = j := by omega
    have hmin : v_hold V (kf (kn k (1024 * r + j))) - 1 = nI (shr hs kn pk (kn k (1024 * r + j)) - 1) := by
      rw [g3]
      exact pk_sub (b := 1) (by omega)
    by_cases c : shr hs kn pk (kn k (1024 * r + j)) - 1 = 0
    · rw [if_pos c]
      refine ⟨_, rfl, rfl, S_remove h hn a (fun _ => rfl) (fun _ => rfl) (fun _ => rfl) ?_ (fun i => ?_) (fun i j' => ?_)⟩
      · rw [if_pos (show v_hold V (kf (kn k (1024 * r + j))) = 1 by rw [g3, show shr hs kn pk (kn k (1024 * r + j)) = 1 by omega]; rfl)]
        rfl
      · show (if i = kf (kn k (1024 * r + j)) then _ else _) = _
        by_cases e : i = kf (kn k (1024 * r + j))
        · rw [if_pos e, if_pos e, e, hmin]
        · rw [if_neg e, if_neg e]
          rfl
      · rw [w_word, hd, hm]
        rfl
    · rw [if_neg c]
      refine ⟨_, rfl, rfl, S_remove h hn a (fun _ => rfl) (fun _ => rfl) (fun _ => rfl) ?_ (fun i => ?_) (fun i j' => ?_)⟩
      · rw [if_neg (show ¬ v_hold V (kf (kn k (1024 * r + j))) = 1 from fun y => by rw [g3] at y; have := (nI_eq (b := 1) (by omega) (by decide)).mp y; omega)]
        rfl
      · show (if i = kf (kn k (1024 * r + j)) then _ else _) = _
        by_cases e : i = kf (kn k (1024 * r + j))
        · rw [if_pos e, if_pos e, e, hmin]
        · rw [if_neg e, if_neg e]
          rfl
      · rw [w_word, hd, hm]
        rfl
  · have a' : hs k (1024 * r + j) = false := by simpa using a
    have e0 : ent hs kn fl kf k (1024 * r + j) = 0 := by unfold ent; rw [if_neg a]
    rw [e0, en_0, L_relm, up2_id a']
    refine ⟨V, word_id ?_, rfl, h⟩
    rw [h8 _ _ hr j hj, e0]
theorem rm_in (hn : n ≤ 32) (hr : rg k r = true) (a1 x2 x3 : Int32) : ∀ (m j : Nat) (V : VS) (hs : Nat → Nat → Bool), j ≤ 1024 → 1024 - j < m → CG n V al en hs hs kn fl rg rg K B bf rf tf kf pk ow →
    ∃ V', j_S_removePagesFrom_h42 n m V k a1 x2 x3 (nI (tf k r)) (nI j) = V' ∧ v_trap V' = v_trap V ∧ CG n V' al en (cut hs k (1024 * r + j) (1024 * (r + 1))) (cut hs k (1024 * r + j) (1024 * (r + 1))) kn fl rg rg K B bf rf tf kf pk ow := by
  have e1024 : (1024 : Int32) = nI 1024 := rfl
  intro m
  induction m with
  | zero => intro j V hs _ h; exact absurd h (Nat.not_lt_zero _)
  | succ m ih =>
    intro j V hs hj hm h
    have ht := (h.2.1 _ _ hr).1
    rw [j_S_removePagesFrom_h42, if_neg (nI_m1 (by omega)), e1024]
    by_cases c : j = 1024
    · subst c
      rw [if_pos (nI_le (Nat.le_refl _) (by decide)), cut_no (fun p a b => by omega)]
      exact ⟨V, rfl, rfl, h⟩
    · rw [if_neg (nI_ge (by omega) (by decide))]
      obtain ⟨V1, q1, q2, q3⟩ := rm_1 (j := j) h hn hr (by omega)
      obtain ⟨V2, p1, p2, p3⟩ := ih (j + 1) V1 _ (by omega) (by omega) q3
      rw [q1, nI_1]
      refine ⟨V2, p1, by rw [p2, q2], ?_⟩
      rw [show 1024 * r + (j + 1) = 1024 * r + j + 1 by omega, cut_cut (by omega) (by omega)] at p3
      exact p3
theorem rm_no {hs : Nat → Nat → Bool} (h : CG n V al en hs hs kn fl rg rg K B bf rf tf kf pk ow) (hr : ¬ rg k r = true) (hj : j ≤ 1024) : cut hs k (1024 * r + j) (1024 * (r + 1)) = hs := cut_no (fun p a b => by
  cases c : hs k p with
  | false => rfl
  | true =>
    have := (h.2.2.2.2.1 _ _ c).2.2.1
    rw [show p / 1024 = r by omega] at this
    exact absurd this hr)
theorem rm_out (hn : n ≤ 32) (hk : k < 16) (ha : al k = true) {a : Nat} (hb : a ≤ 2 ^ 18) : ∀ (m r : Nat) (V : VS) (hs : Nat → Nat → Bool), a / 1024 ≤ r → r ≤ 256 → 256 - r < m → CG n V al en hs hs kn fl rg rg K B bf rf tf kf pk ow →
    ∃ V', j_S_removePagesFrom_h8 n m V k (nI a) (nI (a / 1024)) (nI r) = V' ∧ v_trap V' = v_trap V ∧ CG n V' al en (cut hs k (if r = a / 1024 then a else 1024 * r) (2 ^ 18)) (cut hs k (if r = a / 1024 then a else 1024 * r) (2 ^ 18)) kn fl rg rg K B bf rf tf kf pk ow := by
  have e256 : (256 : Int32) = nI 256 := rfl
  have e1024 : (1024 : Int32) = nI 1024 := rfl
  intro m
  induction m with
  | zero => intro r V hs _ _ h; exact absurd h (Nat.not_lt_zero _)
  | succ m ih =>
    intro r V hs hr0 hr hm h
    rw [j_S_removePagesFrom_h8, e256]
    by_cases c : r = 256
    · subst c
      rw [if_pos (nI_le (Nat.le_refl _) (by decide)), cut_no (fun p x y => by split at x <;> omega)]
      exact ⟨V, rfl, rfl, h⟩
    · rw [if_neg (nI_ge (by omega) (by decide))]
      have htab := L_table h hn hk ha (show r < 256 by omega) id
      have key : ∀ s, s ≤ 1024 → ∃ V1, j_S_removePagesFrom_h42 n 1025 V k (nI a) (nI (a / 1024)) (nI r) (j_S_tableOf n V k (nI r)) (nI s) = V1 ∧ v_trap V1 = v_trap V ∧ CG n V1 al en (cut hs k (1024 * r + s) (1024 * (r + 1))) (cut hs k (1024 * r + s) (1024 * (r + 1))) kn fl rg rg K B bf rf tf kf pk ow := by
        intro s hs1
        rw [htab]
        by_cases g : rg k r = true
        · rw [if_pos g]
          exact rm_in hn g _ _ _ 1025 s V hs hs1 (by omega) h
        · rw [if_neg g, rm_no h g hs1, j_S_removePagesFrom_h42, if_pos rfl]
          exact ⟨V, rfl, rfl, h⟩
      by_cases g : r = a / 1024
      · obtain ⟨V1, q1, q2, q3⟩ := key (a % 1024) (by omega)
        obtain ⟨V2, p1, p2, p3⟩ := ih (r + 1) V1 _ (by omega) (by omega) (by omega) q3
        rw [if_pos (show nI r = nI (a / 1024) by rw [g]), if_pos g]
        have hrem : nI a - nI a / 1024 * 1024 = nI (a % 1024) := pk_rem (d := 1024) (by omega) (by decide) (by decide)
        rw [hrem, q1, nI_1]
        refine ⟨V2, p1, by rw [p2, q2], ?_⟩
        rw [if_neg (by omega), show 1024 * r + a % 1024 = a by omega, cut_cut (by omega) (by omega)] at p3
        exact p3
      · obtain ⟨V1, q1, q2, q3⟩ := key 0 (by omega)
        obtain ⟨V2, p1, p2, p3⟩ := ih (r + 1) V1 _ (by omega) (by omega) (by omega) q3
        rw [if_neg (fun z => g ((nI_eq (by omega) (by omega)).mp z)), if_neg g]
        rw [nI_0] at q1
        rw [q1, nI_1]
        refine ⟨V2, p1, by rw [p2, q2], ?_⟩
        rw [if_neg (by omega), Nat.add_zero, cut_cut (by omega) (by omega)] at p3
        exact p3
/-- the vault's removePagesFrom -/
theorem C_remove (h : CG n V al en hs hs kn fl rg rg K B bf rf tf kf pk ow) (hn : n ≤ 32) (hk : k < 16) (ha : al k = true) {a : Nat} (hb : a ≤ 2 ^ 18) :
    ∃ V', j_S_removePagesFrom n V k (nI a) = V' ∧ v_trap V' = v_trap V ∧ CG n V' al en (cut hs k a (2 ^ 18)) (cut hs k a (2 ^ 18)) kn fl rg rg K B bf rf tf kf pk ow := by
  unfold j_S_removePagesFrom
  rw [div1024 (by omega)]
  have := rm_out (k := k) hn hk ha hb 257 (a / 1024) V hs (Nat.le_refl _) (by omega) (by omega) h
  rw [if_pos rfl] at this
  exact this
def cutr (rg : Nat → Nat → Bool) (k m : Nat) : Nat → Nat → Bool := fun k' r' => rg k' r' && !(decide (k' = k ∧ r' < m))
theorem cutr_out {rg : Nat → Nat → Bool} {k m k' r : Nat} (h : ¬ (k' = k ∧ r < m)) : cutr rg k m k' r = rg k' r := by
  unfold cutr
  rw [decide_eq_false h]
  simp
theorem cutr_in {rg : Nat → Nat → Bool} {k m r : Nat} (h : r < m) : cutr rg k m k r = false := by
  unfold cutr
  rw [decide_eq_true (p := k = k ∧ r < m) ⟨rfl, h⟩]
  simp
theorem cutr_step {rg : Nat → Nat → Bool} {k m : Nat} : cutr rg k (m + 1) = up2 (cutr rg k m) k m false := by
  funext k' r
  by_cases e : k' = k ∧ r = m
  · obtain ⟨rfl, rfl⟩ := e
    rw [up2_s, cutr_in (by omega)]
  · rw [up2_n e]
    by_cases g : k' = k ∧ r < m
    · obtain ⟨rfl, g⟩ := g
      rw [cutr_in g, cutr_in (by omega)]
    · rw [cutr_out g, cutr_out (by omega)]
set_option maxHeartbeats 1000000 in
theorem cl_h (hn : n ≤ 32) (hk : k < 16) (ha : al k = true) (h0 : ∀ p, hs k p = false) : ∀ (m r : Nat) (V : VS), r ≤ 256 → 256 - r < m → CG n V al en hs hs kn fl (cutr rg k r) rg K B bf rf tf kf pk ow →
    ∃ V', j_S_close_h7 n m V k (nI r) = V' ∧ v_trap V' = v_trap V ∧ CG n V' (va_up al k false) en hs hs kn fl (cutr rg k 256) (cutr rg k 256) K B bf rf tf kf pk ow := by
  have e256 : (256 : Int32) = nI 256 := rfl
  have e1 : (1 : Int32) = nI (0 + 1) := rfl
  intro m
  induction m with
  | zero => intro r V _ h; exact absurd h (Nat.not_lt_zero _)
  | succ m ih =>
    intro r V hr hm h
    rw [j_S_close_h7, e256]
    by_cases c : r = 256
    · subst c
      rw [if_pos (nI_le (Nat.le_refl _) (by decide))]
      have hg := h
      obtain ⟨h1, h2, h3, h4, h5, h6, h7, -⟩ := hg
      obtain ⟨g1, g2, g3⟩ := h1 k hk ha
      rw [((h7 k hk).1 ha).1, L_rel (h := 0) hn g1 (by rw [g3]; rfl) (by omega), if_pos rfl]
      refine ⟨_, rfl, rfl, S_unroot h hk ha (fun r => ?_) (fun k' r hk' => (cutr_out (fun z => hk' z.1)).symm) (fun i => rfl) rfl rfl rfl (fun i => ?_) rfl⟩
      · cases z : cutr rg k 256 k r with
        | false => rfl
        | true =>
          have := (h6 _ _ z).2.1
          rw [cutr_in this] at z
          cases z
      · show (if i = rf k then nI 0 else _) = _
        rw [nI_0]
        rfl
    · rw [if_neg (nI_ge (by omega) (by decide))]
      have htab := L_table h hn hk ha (show r < 256 by omega) (fun z => by rw [cutr_out (by omega)]; exact z)
      rw [htab, nI_1]
      by_cases g : rg k r = true
      · rw [if_pos g]
        have hr' : cutr rg k r k r = true := by rw [cutr_out (by omega)]; exact g
        obtain ⟨g1, g2, g3⟩ := h.2.1 k r hr'
        rw [L_rel (h := 0) hn g1 (by rw [g3]; rfl) (by omega), if_pos rfl]
        have hst := S_untable (V' := s_spare (s_hold V (tf k r) (nI 0)) (v_spare V + 1)) h hr' h0 rfl rfl rfl rfl (fun i => by
          show (if i = tf k r then nI 0 else _) = _
          rw [nI_0]
          rfl) rfl
        rw [← cutr_step] at hst
        obtain ⟨V2, p1, p2, p3⟩ := ih (r + 1) _ (by omega) (by omega) hst
        exact ⟨V2, p1, p2, p3⟩
      · rw [if_neg g, L_relm]
        refine ih (r + 1) V (by omega) (by omega) ?_
        rw [cutr_step, up2_id (by rw [cutr_out (by omega)]; simpa using g)]
        exact h
/-- the vault's close -/
theorem C_close (h : CG n V al en hs hs kn fl rg rg K B bf rf tf kf pk ow) (hn : n ≤ 32) (hk : k < 16) (ha : al k = true) :
    ∃ V', j_S_close n V k = V' ∧ v_trap V' = v_trap V ∧ CG n V' (va_up al k false) en (cut hs k 0 (2 ^ 18)) (cut hs k 0 (2 ^ 18)) kn fl (cutr rg k 256) (cutr rg k 256) K B bf rf tf kf pk ow := by
  obtain ⟨V1, q1, q2, q3⟩ := C_remove h hn hk ha (a := 0) (by omega)
  unfold j_S_close
  rw [nI_0] at q1
  rw [q1]
  have e0 : cutr rg k 0 = rg := by
    funext k' r
    rw [cutr_out (by omega)]
  have h0 : ∀ p, cut hs k 0 (2 ^ 18) k p = false := fun p => by
    cases z : cut hs k 0 (2 ^ 18) k p with
    | false => rfl
    | true =>
      have := (q3.2.2.2.2.1 _ _ z).2.1
      rw [cut_in (by omega) this] at z
      cases z
  obtain ⟨V2, p1, p2, p3⟩ := cl_h (rg := rg) (k := k) hn hk ha h0 257 0 V1 (by omega) (by omega) (by rw [e0]; exact q3)
  rw [nI_0] at p1
  exact ⟨V2, p1, by rw [p2, q2], p3⟩
end ST
