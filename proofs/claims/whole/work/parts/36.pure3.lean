theorem cnt_rel {P K : Nat} {Q L : Nat → Bool} (Rel : Nat → Nat → Prop) (h : ∀ p, p < P → Q p = true → ∃ y, y < K ∧ L y = true ∧ Rel p y) (hi : ∀ p q y, p < P → q < P → Rel p y → Rel q y → p = q) : cnt P Q ≤ cnt K L := by
  have hx : ∀ p, ∃ y, p < P → Q p = true → y < K ∧ L y = true ∧ Rel p y := fun p => by
    by_cases a : p < P ∧ Q p = true
    · obtain ⟨y, hy⟩ := h p a.1 a.2
      exact ⟨y, fun _ _ => hy⟩
    · exact ⟨0, fun q r => absurd ⟨q, r⟩ a⟩
  obtain ⟨g, hg⟩ := Classical.axiomOfChoice hx
  exact cnt_inj g (fun p hp hq => ⟨(hg p hp hq).1, (hg p hp hq).2.1⟩) (fun p q hp hq a b e => hi p q (g p) hp hq (hg p hp a).2.2 (by rw [e]; exact (hg q hq b).2.2))
/-! pairs -/
def up2 {α : Type} (f : Nat → Nat → α) (k p : Nat) (x : α) : Nat → Nat → α := fun k' p' => if k' = k ∧ p' = p then x else f k' p'
theorem up2_s {α : Type} {f : Nat → Nat → α} {k p : Nat} {x : α} : up2 f k p x k p = x := if_pos ⟨rfl, rfl⟩
theorem up2_n {α : Type} {f : Nat → Nat → α} {k p k' p' : Nat} {x : α} (h : ¬ (k' = k ∧ p' = p)) : up2 f k p x k' p' = f k' p' := if_neg h
def regs (rg : Nat → Nat → Bool) : Nat := cnt 4096 (fun x => rg (x / 256) (x % 256))
theorem regs_on {rg : Nat → Nat → Bool} {k r : Nat} (hk : k < 16) (hr : r < 256) (h : rg k r = false) : regs (up2 rg k r true) = regs rg + 1 := by
  have e1 : (256 * k + r) / 256 = k := by omega
  have e2 : (256 * k + r) % 256 = r := by omega
  have := cnt_on (N := 4096) (f := fun x => rg (x / 256) (x % 256)) (i := 256 * k + r) (by omega) (by show rg _ _ = false; rw [e1, e2]; exact h)
  unfold regs
  rw [← this]
  apply cnt_congr
  intro i hi
  by_cases e : i = 256 * k + r
  · subst e
    rw [va_up_self, e1, e2, up2_s]
  · rw [va_up_ne _ _ e, up2_n (by omega)]
theorem regs_off {rg : Nat → Nat → Bool} {k r : Nat} (hk : k < 16) (hr : r < 256) (h : rg k r = true) : regs (up2 rg k r false) + 1 = regs rg := by
  have e1 : (256 * k + r) / 256 = k := by omega
  have e2 : (256 * k + r) % 256 = r := by omega
  have := cnt_off (N := 4096) (f := fun x => rg (x / 256) (x % 256)) (i := 256 * k + r) (by omega) (by show rg _ _ = true; rw [e1, e2]; exact h)
  have e3 : cnt 4096 (fun x => up2 rg k r false (x / 256) (x % 256)) = cnt 4096 (va_up (fun x => rg (x / 256) (x % 256)) (256 * k + r) false) := by
    apply cnt_congr
    intro i hi
    by_cases e : i = 256 * k + r
    · subst e
      rw [va_up_self, e1, e2, up2_s]
    · rw [va_up_ne _ _ e, up2_n (by omega)]
  unfold regs
  rw [e3]
  exact this
/-- how many spaces have a page of this kin -/
def shr (hs : Nat → Nat → Bool) (kn : Nat → Nat → Nat) (pk : Nat → Nat) (κ : Nat) : Nat := cnt 16 (fun k => hs k (pk κ) && decide (kn k (pk κ) = κ))
def ent (hs : Nat → Nat → Bool) (kn fl : Nat → Nat → Nat) (kf : Nat → Nat) (k p : Nat) : Int32 := if hs k p = true then nI (16 * (kf (kn k p) + 1) + fl k p) else 0
def fre (V : VS) : Nat → Bool := fun f => decide (v_hold V f = 0)
def lvs (hs : Nat → Nat → Bool) (kn : Nat → Nat → Nat) (pk : Nat → Nat) : Nat → Bool := fun κ => decide (0 < shr hs kn pk κ)
/-- the vault's side; hw, rw: what the tables and the roots say -/
def CG (n : Nat) (V : VS) (al : Nat → Bool) (en : Nat → Nat) (hs hw : Nat → Nat → Bool) (kn fl : Nat → Nat → Nat) (rg rw : Nat → Nat → Bool) (K : Nat) (B : Nat → Nat → Int32) (bf : Nat → Int32) (rf : Nat → Nat) (tf : Nat → Nat → Nat) (kf pk : Nat → Nat) (ow : Nat → Nat × Nat × Nat) : Prop :=
  (∀ k, k < 16 → al k = true → rf k < n ∧ ow (rf k) = (0, k, 0) ∧ v_hold V (rf k) = 1) ∧
  (∀ k r, rg k r = true → tf k r < n ∧ ow (tf k r) = (1, k, r) ∧ v_hold V (tf k r) = 1) ∧
  (∀ κ, κ < K → 0 < shr hs kn pk κ → kf κ < n ∧ ow (kf κ) = (2, κ, 0) ∧ v_hold V (kf κ) = nI (shr hs kn pk κ)) ∧
  (v_spare V = nI (cnt n (fre V)) ∧ cnt n (fre V) + cnt 16 al + regs rg + cnt K (lvs hs kn pk) = n) ∧
  (∀ k p, hs k p = true → k < 16 ∧ p < 2 ^ 18 ∧ rg k (p / 1024) = true ∧ fl k p < 16 ∧ kn k p < K ∧ pk (kn k p) = p) ∧
  (∀ k r, rg k r = true → k < 16 ∧ r < 256 ∧ al k = true) ∧
  (∀ k, k < 16 → (al k = true → v_root V k = nI (rf k) ∧ ∀ r, r < 256 → v_words V (rf k) r = if rw k r = true then nI (16 * (tf k r + 1)) else 0) ∧ (al k = false → v_root V k = -1)) ∧
  (∀ k r, rg k r = true → ∀ j, j < 1024 → v_words V (tf k r) j = ent hw kn fl kf k (1024 * r + j)) ∧
  (∀ k p, hs k p = true → ∀ o, o < 4096 → byt (v_words V (kf (kn k p)) (o / 4)) (nI (o % 4)) = B k (4096 * p + o)) ∧
  (∀ k, k < 16 → al k = true → v_len V k = nI (en k) ∧ en k ≤ 2 ^ 30) ∧
  (∀ j, j < 512 → v_buf V j = bf j)
theorem shr_16 {hs : Nat → Nat → Bool} {kn : Nat → Nat → Nat} {pk : Nat → Nat} {κ : Nat} : shr hs kn pk κ ≤ 16 := cnt_le _ _
theorem shr_pos {hs : Nat → Nat → Bool} {kn : Nat → Nat → Nat} {pk : Nat → Nat} {k p : Nat} (h : hs k p = true) (hk : k < 16) (hp : pk (kn k p) = p) : 0 < shr hs kn pk (kn k p) := by
  refine cnt_pos (i := k) hk ?_
  rw [hp, h]
  simp
section ST
variable {n : Nat} {V V' : VS} {al : Nat → Bool} {en : Nat → Nat} {hs hw : Nat → Nat → Bool} {kn fl : Nat → Nat → Nat} {rg rw : Nat → Nat → Bool} {K : Nat} {B B' : Nat → Nat → Int32} {bf : Nat → Int32} {rf : Nat → Nat} {tf : Nat → Nat → Nat} {kf pk : Nat → Nat} {ow : Nat → Nat × Nat × Nat} {k p f l r j : Nat} {W : Nat → Int32}
/-- a free frame is nobody's -/
theorem CG_fresh (h : CG n V al en hs hw kn fl rg rw K B bf rf tf kf pk ow) (hh : v_hold V f = 0) : (∀ k, k < 16 → al k = true → rf k ≠ f) ∧ (∀ k r, rg k r = true → tf k r ≠ f) ∧ (∀ κ, κ < K → 0 < shr hs kn pk κ → kf κ ≠ f) := by
  obtain ⟨h1, h2, h3, -⟩ := h
  have e : ¬ (1 : Int32) = 0 := by decide
  refine ⟨fun k hk ha q => ?_, fun k r hr q => ?_, fun κ hκ hp q => ?_⟩
  · have := (h1 k hk ha).2.2
    rw [q, hh] at this
    exact e this.symm
  · have := (h2 k r hr).2.2
    rw [q, hh] at this
    exact e this.symm
  · have := (h3 κ hκ hp).2.2
    rw [q, hh] at this
    exact nI_ne0 hp (by have := shr_16 (hs := hs) (kn := kn) (pk := pk) (κ := κ); omega) this.symm
/-- frames of different use differ -/
theorem CG_dis (h : CG n V al en hs hw kn fl rg rw K B bf rf tf kf pk ow) : (∀ k k' r', k < 16 → al k = true → rg k' r' = true → rf k ≠ tf k' r') ∧ (∀ k κ, k < 16 → al k = true → κ < K → 0 < shr hs kn pk κ → rf k ≠ kf κ) ∧ (∀ k r κ, rg k r = true → κ < K → 0 < shr hs kn pk κ → tf k r ≠ kf κ) ∧ (∀ k r k' r', rg k r = true → rg k' r' = true → tf k r = tf k' r' → k = k' ∧ r = r') ∧ (∀ κ κ', κ < K → κ' < K → 0 < shr hs kn pk κ → 0 < shr hs kn pk κ' → kf κ = kf κ' → κ = κ') ∧ (∀ k k', k < 16 → k' < 16 → al k = true → al k' = true → rf k = rf k' → k = k') := by
  obtain ⟨h1, h2, h3, -⟩ := h
  refine ⟨fun k k' r' hk ha hr q => ?_, fun k κ hk ha hκ hp q => ?_, fun k r κ hr hκ hp q => ?_, fun k r k' r' hr hr' q => ?_, fun κ κ' a b c d q => ?_, fun k k' hk hk' a b q => ?_⟩
  · have a := (h1 k hk ha).2.1
    rw [q, (h2 k' r' hr).2.1] at a
    cases a
  · have a := (h1 k hk ha).2.1
    rw [q, (h3 κ hκ hp).2.1] at a
    cases a
  · have a := (h2 k r hr).2.1
    rw [q, (h3 κ hκ hp).2.1] at a
    cases a
  · have a := (h2 k r hr).2.1
    rw [q, (h2 k' r' hr').2.1] at a
    cases a
    exact ⟨rfl, rfl⟩
  · have e := (h3 κ a c).2.1
    rw [q, (h3 κ' b d).2.1] at e
    cases e
    rfl
  · have e := (h1 k hk a).2.1
    rw [q, (h1 k' hk' b).2.1] at e
    cases e
    rfl
/-- a kin of a page that is there lives -/
theorem CG_live (h : CG n V al en hs hw kn fl rg rw K B bf rf tf kf pk ow) (hp : hs k p = true) : kn k p < K ∧ 0 < shr hs kn pk (kn k p) := by
  obtain ⟨-, -, -, -, h5, -⟩ := h
  obtain ⟨a, b, c, d, e, f⟩ := h5 k p hp
  exact ⟨e, shr_pos hp a f⟩
theorem shr_attach (h0 : hs k p = false) (κ : Nat) (hκ : κ < K) : shr (up2 hs k p true) (up2 kn k p K) (va_up pk K p) κ = shr hs kn pk κ := by
  unfold shr
  rw [va_up_ne _ _ (by omega)]
  apply cnt_congr
  intro i _
  by_cases e : i = k ∧ pk κ = p
  · obtain ⟨rfl, e2⟩ := e
    rw [e2, up2_s, up2_s, h0]
    simp
    omega
  · rw [up2_n e, up2_n e]
theorem shr_new (h5 : ∀ k, hs k p = true → kn k p < K) (hk : k < 16) : shr (up2 hs k p true) (up2 kn k p K) (va_up pk K p) K = 1 := by
  unfold shr
  rw [va_up_self]
  have : cnt 16 (va_up (fun _ => false) k true) = 1 := by
    rw [cnt_on hk rfl, cnt_0 (fun _ _ => rfl)]
  rw [← this]
  apply cnt_congr
  intro i _
  by_cases e : i = k
  · subst e
    rw [va_up_self, up2_s, up2_s]
    simp
  · rw [va_up_ne _ _ e, up2_n (fun q => e q.1), up2_n (fun q => e q.1)]
    cases a : hs i p with
    | false => rfl
    | true =>
      have := h5 i a
      simp
      omega
set_option maxHeartbeats 1000000 in
/-- a page more, in a free frame -/
theorem S_attach (h : CG n V al en hs hs kn fl rg rg K B bf rf tf kf pk ow) (hn : n ≤ 32) (hp : p < 2 ^ 18) (hl : l < 16) (hr : rg k (p / 1024) = true) (h0 : hs k p = false) (hf : f < n) (hh : v_hold V f = 0)
    (e1 : ∀ i, v_root V' i = v_root V i) (e2 : ∀ i, v_len V' i = v_len V i) (e3 : ∀ i, v_buf V' i = v_buf V i) (e4 : v_spare V' = v_spare V - 1) (e5 : ∀ i, v_hold V' i = if i = f then 1 else v_hold V i)
    (e6 : ∀ i j, v_words V' i j = if i = f then W j else if i = tf k (p / 1024) ∧ j = p % 1024 then nI (16 * (f + 1) + l) else v_words V i j)
    (b1 : ∀ o, o < 4096 → byt (W (o / 4)) (nI (o % 4)) = B' k (4096 * p + o)) (b2 : ∀ k' p' o, hs k' p' = true → o < 4096 → B' k' (4096 * p' + o) = B k' (4096 * p' + o)) :
    CG n V' al en (up2 hs k p true) (up2 hs k p true) (up2 kn k p K) (up2 fl k p l) rg rg (K + 1) B' bf rf tf (va_up kf K f) (va_up pk K p) (va_up ow f (2, K, 0)) := by
  obtain ⟨f1, f2, f3⟩ := CG_fresh h hh
  obtain ⟨d1, d2, d3, d4, d5, d6⟩ := CG_dis h
  have hlv := fun k p => CG_live (k := k) (p := p) h
  obtain ⟨h1, h2, h3, ⟨h4, h4'⟩, h5, h6, h7, h8, h9, h10, h11⟩ := h
  have hk : k < 16 := (h6 _ _ hr).1
  have n1 : ¬ (1 : Int32) = 0 := by decide
  have hx : ∀ k' p', ¬ (k' = k ∧ p' = p) → hs k' p' = true → kn k' p' ≠ K := fun k' p' _ a => by have := (h5 k' p' a).2.2.2.2.1; omega
  have hfre : cnt n (fre V') + 1 = cnt n (fre V) := by
    rw [← cnt_off (f := fre V) hf (by unfold fre; simp [hh])]
    congr 1
    apply cnt_congr
    intro i _
    unfold fre
    by_cases e : i = f
    · subst e
      rw [va_up_self, e5, if_pos rfl]
      simp [n1]
    · rw [va_up_ne _ _ e, e5, if_neg e]
  have hlvs : cnt (K + 1) (lvs (up2 hs k p true) (up2 kn k p K) (va_up pk K p)) = cnt K (lvs hs kn pk) + 1 := by
    rw [cnt]
    have e : lvs (up2 hs k p true) (up2 kn k p K) (va_up pk K p) K = true := by
      unfold lvs
      rw [shr_new (fun i a => (h5 i p a).2.2.2.2.1) hk]
      rfl
    rw [if_pos e]
    congr 1
    exact cnt_congr (fun i hi => by unfold lvs; rw [shr_attach h0 i hi])
  refine ⟨fun k' hk' ha => ?_, fun k' r' hr' => ?_, fun κ hκ hs' => ?_, ⟨?_, ?_⟩, fun k' p' hp' => ?_, h6, fun k' hk' => ⟨fun ha => ⟨?_, fun r' hr' => ?_⟩, fun ha => ?_⟩, fun k' r' hr' j' hj' => ?_, fun k' p' hp' o ho => ?_, fun k' hk' ha => ?_, fun j' hj' => ?_⟩
  · obtain ⟨a, b, c⟩ := h1 k' hk' ha
    have q := f1 k' hk' ha
    exact ⟨a, by rw [va_up_ne _ _ q]; exact b, by rw [e5, if_neg q]; exact c⟩
  · obtain ⟨a, b, c⟩ := h2 k' r' hr'
    have q := f2 k' r' hr'
    exact ⟨a, by rw [va_up_ne _ _ q]; exact b, by rw [e5, if_neg q]; exact c⟩
  · by_cases e : κ = K
    · subst e
      rw [va_up_self, va_up_self, shr_new (fun i a => (h5 i p a).2.2.2.2.1) hk, e5, if_pos rfl]
      exact ⟨hf, rfl, rfl⟩
    · have hκ' : κ < K := by omega
      rw [shr_attach h0 κ hκ'] at hs' ⊢
      obtain ⟨a, b, c⟩ := h3 κ hκ' hs'
      have q := f3 κ hκ' hs'
      rw [va_up_ne _ _ e, va_up_ne _ _ q, e5, if_neg q]
      exact ⟨a, b, c⟩
  · rw [e4, h4, ← hfre, nI_pred]
  · rw [hlvs]
    omega
  · by_cases e : k' = k ∧ p' = p
    · obtain ⟨rfl, rfl⟩ := e
      rw [up2_s, up2_s, va_up_self]
      exact ⟨hk, hp, hr, hl, by omega, rfl⟩
    · rw [up2_n e] at hp'
      rw [up2_n e, up2_n e, va_up_ne _ _ (hx _ _ e hp')]
      obtain ⟨a1, a2, a3, a4, a5, a6⟩ := h5 k' p' hp'
      exact ⟨a1, a2, a3, a4, by omega, a6⟩
  · rw [e1]
    exact ((h7 k' hk').1 ha).1
  · rw [e6, if_neg (f1 k' hk' ha), if_neg (fun q => d1 k' k _ hk' ha hr q.1)]
    exact ((h7 k' hk').1 ha).2 r' hr'
  · rw [e1]
    exact (h7 k' hk').2 ha
  · rw [e6, if_neg (f2 k' r' hr')]
    by_cases e : tf k' r' = tf k (p / 1024) ∧ j' = p % 1024
    · obtain ⟨a, b⟩ := d4 _ _ _ _ hr' hr e.1
      rw [if_pos e]
      have : 1024 * r' + j' = p := by rw [b, e.2]; omega
      rw [this, a]
      unfold ent
      rw [up2_s, up2_s, up2_s, va_up_self, if_pos rfl]
    · have e' : ¬ (k' = k ∧ 1024 * r' + j' = p) := fun q => e ⟨by rw [q.1, show r' = p / 1024 by omega], by omega⟩
      rw [if_neg e, h8 k' r' hr' j' hj']
      unfold ent
      rw [up2_n e', up2_n e', up2_n e']
      by_cases a : hs k' (1024 * r' + j') = true
      · rw [if_pos a, if_pos a, va_up_ne _ _ (hx _ _ e' a)]
      · rw [if_neg a, if_neg a]
  · by_cases e : k' = k ∧ p' = p
    · obtain ⟨rfl, rfl⟩ := e
      rw [up2_s, va_up_self, e6, if_pos rfl]
      exact b1 o ho
    · rw [up2_n e] at hp'
      obtain ⟨a, b⟩ := hlv _ _ hp'
      rw [up2_n e, va_up_ne _ _ (hx _ _ e hp'), e6, if_neg (f3 _ a b), if_neg (fun q => d3 _ _ _ hr a b q.1.symm), b2 k' p' o hp' ho]
      exact h9 k' p' hp' o ho
  · rw [e2]
    exact h10 k' hk' ha
  · rw [e3]
    exact h11 j' hj'
end ST
