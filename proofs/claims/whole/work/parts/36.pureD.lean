/-! bits -/
def bi (x : Int32) (i : Nat) : Bool := x.toBitVec.toNat.testBit i
theorem bi_ext {x y : Int32} (h : ∀ i, i < 32 → bi x i = bi y i) : x = y := by
  apply Int32.toBitVec_inj.mp
  apply BitVec.eq_of_toNat_eq
  apply Nat.eq_of_testBit_eq
  intro i
  by_cases c : i < 32
  · exact h i c
  · have e : ∀ z : Int32, z.toBitVec.toNat.testBit i = false := fun z => Nat.testBit_lt_two_pow (Nat.lt_of_lt_of_le z.toBitVec.isLt (Nat.pow_le_pow_right (by decide) (by omega)))
    rw [e, e]
theorem bi_big {x : Int32} {i : Nat} (h : 32 ≤ i) : bi x i = false := Nat.testBit_lt_two_pow (Nat.lt_of_lt_of_le x.toBitVec.isLt (Nat.pow_le_pow_right (by decide) h))
theorem bi_or (x y : Int32) (i : Nat) : bi (x ||| y) i = (bi x i || bi y i) := by
  unfold bi
  rw [Int32.toBitVec_or, BitVec.toNat_or, Nat.testBit_or]
theorem bi_and (x y : Int32) (i : Nat) : bi (x &&& y) i = (bi x i && bi y i) := by
  unfold bi
  rw [Int32.toBitVec_and, BitVec.toNat_and, Nat.testBit_and]
theorem bi_xor (x y : Int32) (i : Nat) : bi (x ^^^ y) i = (bi x i ^^ bi y i) := by
  unfold bi
  rw [Int32.toBitVec_xor, BitVec.toNat_xor, Nat.testBit_xor]
theorem bi_sl : ∀ n, n < 32 → ((nI n &&& 31).toBitVec.smod 32).toNat = n := by decide +kernel
theorem bi_su : ∀ n, n < 32 → (((nI n).toUInt32 &&& Int32.toUInt32 31).toBitVec % 32).toNat = n := by decide +kernel
theorem bi_ju {s : Nat} (hs : s < 32) (x : Int32) (i : Nat) : bi (ju x (nI s)) i = bi x (s + i) := by
  unfold bi ju
  rw [pk_ushr x (nI s) s (bi_su s hs), Nat.testBit_div_two_pow, Nat.add_comm]
theorem bi_shl {s : Nat} (hs : s < 32) (x : Int32) {i : Nat} (hi : i < 32) : bi (x <<< (nI s &&& 31)) i = (decide (s ≤ i) && bi x (i - s)) := by
  unfold bi
  rw [pk_shl x (nI s &&& 31) s (bi_sl s hs), Nat.testBit_mod_two_pow, Nat.testBit_mul_two_pow]
  simp [hi]
theorem bi_255 : ∀ t, t < 32 → bi 255 t = decide (t < 8) := by decide +kernel
theorem bi_m1 : ∀ t, t < 32 → bi (-1) t = true := by decide +kernel
theorem bi_0 (t : Nat) : bi 0 t = false := Nat.zero_testBit t
theorem bi_mask {w : Nat} (hw : w = 1 ∨ w = 2 ∨ w = 4) : ∀ t, t < 32 → bi (j_F_mask (nI w)) t = decide (t < 8 * w) := by
  rcases hw with rfl | rfl | rfl <;> decide +kernel
theorem mul8 (i : Nat) : 8 * nI i = nI (8 * i) := pk_mul 8 i
theorem bi_byt {j : Nat} (hj : j < 4) (x : Int32) (t : Nat) : bi (byt x (nI j)) t = (decide (t < 8) && bi x (8 * j + t)) := by
  by_cases c : t < 32
  · unfold byt
    rw [mul8, bi_and, bi_ju (by omega), bi_255 t c, Bool.and_comm]
  · rw [bi_big (by omega), decide_eq_false (by omega)]
    rfl
theorem byt_byt {j : Nat} (hj : j < 4) (x : Int32) : byt (byt x (nI j)) (nI 0) = byt x (nI j) := bi_ext (fun t ht => by
  rw [bi_byt (by decide), bi_byt hj, bi_byt hj, Nat.mul_zero, Nat.zero_add]
  cases decide (t < 8) <;> rfl)
theorem byt_m1 {j : Nat} (hj : j < 4) (x : Int32) : ¬ byt x (nI j) = -1 := fun z => by
  have h := bi_byt hj x 31
  rw [z, bi_m1 31 (by decide)] at h
  cases h
theorem byt_small : ∀ x, x < 256 → byt (nI x) (nI 0) = nI x := by decide +kernel
/-- a number out of its bytes -/
def numb (f : Nat → Int32) : Nat → Int32
  | 0 => 0
  | i + 1 => numb f i ||| (f i <<< (nI (8 * i) &&& 31))
theorem bi_numb {f : Nat → Int32} (hf : ∀ i t, 8 ≤ t → bi (f i) t = false) : ∀ (w : Nat), w ≤ 4 → ∀ t, t < 32 → bi (numb f w) t = (decide (t < 8 * w) && bi (f (t / 8)) (t % 8)) := by
  intro w
  induction w with
  | zero => intro _ t _; rw [numb, bi_0, decide_eq_false (by omega)]; rfl
  | succ w ih =>
    intro hw t ht
    rw [numb, bi_or, ih (by omega) t ht, bi_shl (by omega) _ ht]
    by_cases c : t < 8 * w
    · rw [decide_eq_true c, decide_eq_true (show t < 8 * (w + 1) by omega), decide_eq_false (show ¬ 8 * w ≤ t by omega)]
      simp
    · rw [decide_eq_false c, decide_eq_true (show 8 * w ≤ t by omega)]
      by_cases g : t < 8 * (w + 1)
      · rw [decide_eq_true g, show t / 8 = w by omega, show t % 8 = t - 8 * w by omega]
        simp
      · rw [decide_eq_false g, hf w (t - 8 * w) (by omega)]
        simp
theorem numb_congr {f g : Nat → Int32} : ∀ (w : Nat), (∀ i, i < w → f i = g i) → numb f w = numb g w := by
  intro w
  induction w with
  | zero => intro _; rfl
  | succ w ih => intro h; rw [numb, numb, ih (fun i hi => h i (by omega)), h w (by omega)]
theorem read_num {W : Int32} {o w : Nat} (hw : w = 1 ∨ w = 2 ∨ w = 4) (ho : o + w ≤ 4) : (ju W (nI (o * 8))) &&& j_F_mask (nI w) = numb (fun i => if o + i < 4 then byt W (nI (o + i)) else 0) w := bi_ext (fun t ht => by
  rw [bi_and, bi_ju (by omega), bi_mask hw t ht, bi_numb (fun i t h => by
    by_cases c : o + i < 4
    · rw [if_pos c, bi_byt c, decide_eq_false (by omega)]
      rfl
    · rw [if_neg c, bi_0]) w (by omega) t ht]
  by_cases c : t < 8 * w
  · rw [decide_eq_true c, if_pos (by omega), bi_byt (by omega), decide_eq_true (by omega), show 8 * (o + t / 8) + t % 8 = o * 8 + t by omega]
    simp
  · rw [decide_eq_false c]
    simp)
theorem write_byt {W v : Int32} {o w i : Nat} (hw : w = 1 ∨ w = 2 ∨ w = 4) (ho : o + w ≤ 4) (hi : i < 4) : byt ((W &&& ((j_F_mask (nI w) <<< (nI (o * 8) &&& 31)) ^^^ (-1))) ||| ((v &&& j_F_mask (nI w)) <<< (nI (o * 8) &&& 31))) (nI i) = if o ≤ i ∧ i < o + w then byt v (nI (i - o)) else byt W (nI i) := bi_ext (fun t ht => by
  rw [bi_byt hi]
  by_cases g : t < 8
  · have hu : 8 * i + t < 32 := by omega
    rw [decide_eq_true g, bi_or, bi_and, bi_xor, bi_shl (by omega) _ hu, bi_shl (by omega) _ hu, bi_m1 _ hu, bi_and, bi_mask hw _ (by omega)]
    by_cases c : o ≤ i ∧ i < o + w
    · rw [if_pos c, bi_byt (by omega), decide_eq_true g, decide_eq_true (show o * 8 ≤ 8 * i + t by omega), decide_eq_true (show 8 * i + t - o * 8 < 8 * w by omega), show 8 * (i - o) + t = 8 * i + t - o * 8 by omega]
      simp
    · rw [if_neg c, bi_byt hi, decide_eq_true g]
      by_cases c1 : o ≤ i
      · rw [decide_eq_false (show ¬ 8 * i + t - o * 8 < 8 * w by omega)]
        simp
      · rw [decide_eq_false (show ¬ o * 8 ≤ 8 * i + t by omega)]
        simp
  · rw [decide_eq_false g]
    by_cases c : o ≤ i ∧ i < o + w
    · rw [if_pos c, bi_byt (by omega), decide_eq_false g]
      rfl
    · rw [if_neg c, bi_byt hi, decide_eq_false g]
      rfl)
theorem wordOf_nI {A : Nat} (hA : A < 2 ^ 32) : j_F_wordOf (nI A) = nI (A % 4096 / 4) := by
  unfold j_F_wordOf
  have e := pk_andN (n := A) hA (m := 4095) 12 (by decide)
  rw [e]
  exact ju_nI (by omega) 2 2 (by decide)
theorem bitOf_nI {A : Nat} (hA : A < 2 ^ 32) : j_F_bitOf (nI A) = nI (A % 4 * 8) := by
  unfold j_F_bitOf
  have e := pk_andN (n := A) hA (m := 3) 2 (by decide)
  rw [e]
  exact pk_mul (A % 4) 8
/-- the vault's read and write of a frame -/
theorem L_read {n : Nat} {V : VS} {f A w : Nat} (hn : n ≤ 32) (hf : f < n) (hA : A < 2 ^ 32) (hw : w = 1 ∨ w = 2 ∨ w = 4) (ho : A % 4 + w ≤ 4) : j_F_read n V (nI f) (nI A) (nI w) = numb (fun i => if A % 4 + i < 4 then byt (v_words V f (A % 4096 / 4)) (nI (A % 4 + i)) else 0) w := by
  unfold j_F_read
  rw [wordOf_nI hA, bitOf_nI hA, word_nI hn hf (by omega)]
  exact read_num hw ho
theorem L_write {n : Nat} {V : VS} {f A w : Nat} {v : Int32} (hn : n ≤ 32) (hf : f < n) (hA : A < 2 ^ 32) : j_F_write n V (nI f) (nI A) (nI w) v = s_word V f (A % 4096 / 4) ((v_words V f (A % 4096 / 4) &&& ((j_F_mask (nI w) <<< (nI (A % 4 * 8) &&& 31)) ^^^ (-1))) ||| ((v &&& j_F_mask (nI w)) <<< (nI (A % 4 * 8) &&& 31))) := by
  unfold j_F_write
  rw [wordOf_nI hA, bitOf_nI hA, word_nI hn hf (by omega), setW_nI hn hf (by omega)]
