theorem ci_L_21 : CIv "PageVaultLaw" 21 y_V_make b_V_make 2 (some .int) 0 := ⟨tg_357, tg_37, tg_358, tg_359, tg_360, by decide +kernel, by decide +kernel⟩
theorem ci_L_25 : CIv "PageVaultLaw" 25 y_M_make b_M_make 2 (some .int) 0 := ⟨tg_361, tg_40, tg_362, tg_363, tg_364, by decide +kernel, by decide +kernel⟩
theorem ci_L_26 : CIv "PageVaultLaw" 26 y_V_drop b_V_drop 3 (some .boolean) 1 := ⟨tg_365, tg_37, tg_366, tg_367, tg_368, by decide +kernel, by decide +kernel⟩
theorem ci_L_30 : CIv "PageVaultLaw" 30 y_M_drop b_M_drop 2 (some .boolean) 1 := ⟨tg_369, tg_40, tg_370, tg_371, tg_372, by decide +kernel, by decide +kernel⟩
theorem ci_L_31 : CIv "PageVaultLaw" 31 y_V_fork b_V_fork 4 (some .int) 1 := ⟨tg_373, tg_37, tg_374, tg_375, tg_376, by decide +kernel, by decide +kernel⟩
theorem ci_L_35 : CIv "PageVaultLaw" 35 y_M_fork b_M_fork 5 (some .int) 1 := ⟨tg_377, tg_40, tg_378, tg_379, tg_380, by decide +kernel, by decide +kernel⟩
theorem ci_L_36 : CIv "PageVaultLaw" 36 y_V_map b_V_map 5 (some .int) 3 := ⟨tg_381, tg_37, tg_382, tg_383, tg_384, by decide +kernel, by decide +kernel⟩
theorem ci_L_40 : CIv "PageVaultLaw" 40 y_M_map b_M_map 4 (some .int) 3 := ⟨tg_385, tg_40, tg_386, tg_387, tg_388, by decide +kernel, by decide +kernel⟩
theorem ci_L_41 : CIv "PageVaultLaw" 41 y_V_protect b_V_protect 6 (some .boolean) 3 := ⟨tg_389, tg_37, tg_390, tg_391, tg_392, by decide +kernel, by decide +kernel⟩
theorem ci_L_45 : CIv "PageVaultLaw" 45 y_M_protect b_M_protect 5 (some .boolean) 3 := ⟨tg_393, tg_40, tg_394, tg_395, tg_396, by decide +kernel, by decide +kernel⟩
theorem ci_L_46 : CIv "PageVaultLaw" 46 y_V_grow b_V_grow 7 (some .int) 2 := ⟨tg_397, tg_37, tg_398, tg_399, tg_400, by decide +kernel, by decide +kernel⟩
theorem ci_L_50 : CIv "PageVaultLaw" 50 y_M_grow b_M_grow 6 (some .int) 2 := ⟨tg_401, tg_40, tg_402, tg_403, tg_404, by decide +kernel, by decide +kernel⟩
theorem ci_L_51 : CIv "PageVaultLaw" 51 y_V_size b_V_size 3 (some .int) 1 := ⟨tg_405, tg_37, tg_406, tg_407, tg_408, by decide +kernel, by decide +kernel⟩
theorem ci_L_54 : CIv "PageVaultLaw" 54 y_M_size b_M_size 2 (some .int) 1 := ⟨tg_409, tg_40, tg_410, tg_411, tg_412, by decide +kernel, by decide +kernel⟩
theorem ci_L_55 : CIv "PageVaultLaw" 55 y_V_load b_V_load 4 (some .int) 3 := ⟨tg_413, tg_37, tg_414, tg_415, tg_416, by decide +kernel, by decide +kernel⟩
theorem ci_L_58 : CIv "PageVaultLaw" 58 y_M_load b_M_load 4 (some .int) 3 := ⟨tg_417, tg_40, tg_418, tg_419, tg_420, by decide +kernel, by decide +kernel⟩
theorem ci_L_59 : CIv "PageVaultLaw" 59 y_V_fetch b_V_fetch 3 (some .int) 2 := ⟨tg_421, tg_37, tg_422, tg_423, tg_424, by decide +kernel, by decide +kernel⟩
theorem ci_L_62 : CIv "PageVaultLaw" 62 y_M_fetch b_M_fetch 3 (some .int) 2 := ⟨tg_425, tg_40, tg_426, tg_427, tg_428, by decide +kernel, by decide +kernel⟩
theorem ci_L_63 : CIv "PageVaultLaw" 63 y_V_store b_V_store 5 (some .boolean) 4 := ⟨tg_429, tg_37, tg_430, tg_431, tg_432, by decide +kernel, by decide +kernel⟩
theorem ci_L_67 : CIv "PageVaultLaw" 67 y_M_store b_M_store 5 (some .boolean) 4 := ⟨tg_433, tg_40, tg_434, tg_435, tg_436, by decide +kernel, by decide +kernel⟩
theorem ci_L_68 : CIv "PageVaultLaw" 68 y_V_trap b_V_trap 1 (some .int) 0 := ⟨tg_437, tg_37, tg_438, tg_439, tg_440, by decide +kernel, by decide +kernel⟩
theorem ci_L_71 : CIv "PageVaultLaw" 71 y_M_trap b_M_trap 1 (some .int) 0 := ⟨tg_441, tg_40, tg_442, tg_443, tg_444, by decide +kernel, by decide +kernel⟩
theorem ci_L_72 : CIv "PageVaultLaw" 72 y_V_out b_V_out 6 (some .int) 3 := ⟨tg_445, tg_37, tg_446, tg_447, tg_448, by decide +kernel, by decide +kernel⟩
theorem ci_L_75 : CIv "PageVaultLaw" 75 y_M_out b_M_out 5 (some .int) 3 := ⟨tg_449, tg_40, tg_450, tg_451, tg_452, by decide +kernel, by decide +kernel⟩
theorem ci_L_76 : CIv "PageVaultLaw" 76 y_V_in b_V_in 7 (some .int) 3 := ⟨tg_453, tg_37, tg_454, tg_455, tg_456, by decide +kernel, by decide +kernel⟩
theorem ci_L_79 : CIv "PageVaultLaw" 79 y_M_in b_M_in 5 (some .int) 3 := ⟨tg_457, tg_40, tg_458, tg_459, tg_460, by decide +kernel, by decide +kernel⟩
theorem ci_L_80 : CIv "PageVaultLaw" 80 y_V_text b_V_text 7 (some .int) 3 := ⟨tg_461, tg_37, tg_462, tg_463, tg_464, by decide +kernel, by decide +kernel⟩
theorem ci_L_83 : CIv "PageVaultLaw" 83 y_M_text b_M_text 5 (some .int) 3 := ⟨tg_465, tg_40, tg_466, tg_467, tg_468, by decide +kernel, by decide +kernel⟩
theorem ci_L_84 : CIv "PageVaultLaw" 84 y_V_put b_V_put 3 (some .boolean) 2 := ⟨tg_469, tg_37, tg_470, tg_471, tg_472, by decide +kernel, by decide +kernel⟩
theorem ci_L_88 : CIv "PageVaultLaw" 88 y_M_put b_M_put 3 (some .boolean) 2 := ⟨tg_473, tg_40, tg_474, tg_475, tg_476, by decide +kernel, by decide +kernel⟩
theorem ci_L_89 : CIv "PageVaultLaw" 89 y_V_at b_V_at 2 (some .int) 1 := ⟨tg_477, tg_37, tg_478, tg_479, tg_480, by decide +kernel, by decide +kernel⟩
theorem ci_L_92 : CIv "PageVaultLaw" 92 y_M_at b_M_at 2 (some .int) 1 := ⟨tg_481, tg_40, tg_482, tg_483, tg_484, by decide +kernel, by decide +kernel⟩
theorem ci_L_93 : CIv "PageVaultLaw" 93 y_V_free b_V_free 1 (some .int) 0 := ⟨tg_485, tg_37, tg_486, tg_487, tg_488, by decide +kernel, by decide +kernel⟩
theorem ci_L_96 : CIv "PageVaultLaw" 96 y_M_free b_M_free 1 (some .int) 0 := ⟨tg_489, tg_40, tg_490, tg_491, tg_492, by decide +kernel, by decide +kernel⟩
theorem ci_L_97 : CIv "PageVaultLaw" 97 y_V_flags b_V_flags 4 (some .int) 2 := ⟨tg_493, tg_37, tg_494, tg_495, tg_496, by decide +kernel, by decide +kernel⟩
theorem ci_L_100 : CIv "PageVaultLaw" 100 y_M_flags b_M_flags 4 (some .int) 2 := ⟨tg_497, tg_40, tg_498, tg_499, tg_500, by decide +kernel, by decide +kernel⟩
theorem ci_L_101 : CIv "PageVaultLaw" 101 y_V_owners b_V_owners 3 (some .int) 2 := ⟨tg_501, tg_37, tg_502, tg_503, tg_504, by decide +kernel, by decide +kernel⟩
theorem ci_L_104 : CIv "PageVaultLaw" 104 y_M_owners b_M_owners 4 (some .int) 2 := ⟨tg_505, tg_40, tg_506, tg_507, tg_508, by decide +kernel, by decide +kernel⟩
/-! what holds all along the law's loop -/
def LE (D : va_G) (adx adm : Nat → Nat) (n : Nat) (cI cS cQ cZ : ClassId) (p : Program) (s : State) (m : MethodId) (meth : Method) (c : Code) (b L : Nat) (xs : Nat → Int32) : Prop :=
  lw_At p s m meth c b L xs ∧ L ≤ 2561 ∧ xK D cI cS cQ s ∧ mK D cI cZ s ∧ xE adx n ∧ mE adm ∧ (∀ i j, i < xN n → j < mN → adx i ≠ adm j) ∧ (∀ i, i < xN n → s.heap.size ≤ adx i) ∧ ∀ j, j < mN → s.heap.size ≤ adm j
section LW
variable {l : Launch} {D : va_G} {adx adm : Nat → Nat} {n : Nat} {cI cS cQ cZ : ClassId} {p : Program} {e : Env} {s : State} {m : MethodId} {below : List Frame} {meth : Method} {c : Code} {b L : Nat} {xs : Nat → Int32} {Q : State → Prop}
theorem LE.S (h : LE D adx adm n cI cS cQ cZ p s m meth c b L xs) : CallFix p m c code 4 s #[Value.ref b] TG "PageVaultLaw" := by
  obtain ⟨⟨hx, hb, hr, hml, hown, hts, hX, hbl, hlocks, hgv⟩, -⟩ := h
  exact ⟨hx, hb, hml, hown, fun w hw => hts w (TG_in w hw)⟩
theorem LE.X (h : LE D adx adm n cI cS cQ cZ p s m meth c b L xs) : va_X b L xs s s.heap ∧ b < s.heap.size ∧ ¬ (fun q : Nat => s.heap.size ≤ q) b := by
  obtain ⟨⟨hx, hb, hr, hml, hown, hts, hX, hbl, hlocks, hgv⟩, -⟩ := h
  exact ⟨hX, hbl, Nat.not_le.mpr hbl⟩
theorem LE.hE (h : LE D adx adm n cI cS cQ cZ p s m meth c b L xs) : xE adx n := h.2.2.2.2.1
theorem LE.hM (h : LE D adx adm n cI cS cQ cZ p s m meth c b L xs) : mE adm := h.2.2.2.2.2.1
theorem LE.c512 (h : LE D adx adm n cI cS cQ cZ p s m meth c b L xs) {k : Nat} (hk : 1 + 5 * k + 5 ≤ L) : k < 512 := by
  have := h.2.1
  omega
theorem LE.ix (h : LE D adx adm n cI cS cQ cZ p s m meth c b L xs) {k : Nat} {x3 : Int32} (ek : x3 = nI (1 + 5 * k)) (hk : 1 + 5 * k + 5 ≤ L) (d : Nat) (hd : d < 5) : vp_in (x3 + nI d) L := by
  have := h.2.1
  rw [ek, nI_add]
  exact vp_in_nI (by omega) (by omega)
variable {locs : List Loc} {H : Heap} {pc index : Nat} {ls : Array Slot} {rest st0 As : List Value} {V V' : VS} {M M' : MS} {y : MethodName} {bytes : ByteArray} {maxL nA : Nat} {ret : Option FieldType} {rm : Room} {r : Int32}
theorem lx_call (h : LE D adx adm n cI cS cQ cZ p s m meth c b L xs) (I : CIv "PageVaultLaw" index y bytes maxL ret nA) (hM : XC l D adx n cI cS cQ y bytes maxL ret rm (.ref (adx 0) :: As) V (some (.int r)) V') (hP : XP D adx n cI cS cQ V H) (hQ : MP D adm cI cZ M H) (hS : va_S (fun q : Nat => s.heap.size ≤ q) s.heap H locs) (hR : RmOk rm room_1 maxL) (hn : As.length = nA) (hsz : ls.size = 4) (hst : st0 = As.reverse ++ .ref (adx 0) :: rest) (hW : (rest.map fun v => v.category).sum ≤ 8) (hdg : decode code pc = .ok (.invokevirtual index, 3))
    (kk : ∀ (H1 : Heap) (locs1 : List Loc), XP D adx n cI cS cQ V' H1 → MP D adm cI cZ M H1 → va_S (fun q : Nat => s.heap.size ≤ q) s.heap H1 locs1 → W p l e room_1 s m #[Value.ref b] below meth c H1 locs1 100 50000 Q (F0 m (pc + 3) ls (.int r :: rest))) (hy : y.cls = "PageVault" := by rfl) : W p l e room_1 s m #[Value.ref b] below meth c H locs 100 50000 Q (F0 m pc ls st0) := by
  obtain ⟨-, -, kx, km, eX, eM, dj, ax, am⟩ := id h
  refine g_callV h.S xKo kx I hM (by rw [hy]; exact x_recV kx hP) hP hS (fun q hq => by obtain ⟨i, hi, rfl⟩ := hq; exact ax i hi) hR ⟨Nat.le_of_ble_eq_true rfl, Nat.le_of_ble_eq_true rfl⟩ hn hsz hst hW hdg (fun H1 locs1 h1 h2 h3 => kk H1 locs1 h1 (iw_kept hQ (fun q hq => ?_)) h2)
  obtain ⟨j, hj, rfl⟩ := hq
  exact h3 _ (iw_lt hQ hj) (fun ⟨i, hi, e⟩ => dj i j hi hj e.symm)
theorem lm_call (h : LE D adx adm n cI cS cQ cZ p s m meth c b L xs) (I : CIv "PageVaultLaw" index y bytes maxL ret nA) (hM : MC l D adm cI cZ y bytes maxL ret rm (.ref (adm 0) :: As) M (some (.int r)) M') (hP : XP D adx n cI cS cQ V H) (hQ : MP D adm cI cZ M H) (hS : va_S (fun q : Nat => s.heap.size ≤ q) s.heap H locs) (hR : RmOk rm room_1 maxL) (hn : As.length = nA) (hsz : ls.size = 4) (hst : st0 = As.reverse ++ .ref (adm 0) :: rest) (hW : (rest.map fun v => v.category).sum ≤ 8) (hdg : decode code pc = .ok (.invokevirtual index, 3))
    (kk : ∀ (H1 : Heap) (locs1 : List Loc), XP D adx n cI cS cQ V H1 → MP D adm cI cZ M' H1 → va_S (fun q : Nat => s.heap.size ≤ q) s.heap H1 locs1 → W p l e room_1 s m #[Value.ref b] below meth c H1 locs1 100 50000 Q (F0 m (pc + 3) ls (.int r :: rest))) (hy : y.cls = "PageVaultModel" := by rfl) : W p l e room_1 s m #[Value.ref b] below meth c H locs 100 50000 Q (F0 m pc ls st0) := by
  obtain ⟨-, -, kx, km, eX, eM, dj, ax, am⟩ := id h
  refine g_callV h.S mKo km I hM (by rw [hy]; exact m_recM km hQ) hQ hS (fun q hq => by obtain ⟨i, hi, rfl⟩ := hq; exact am i hi) hR ⟨Nat.le_of_ble_eq_true rfl, Nat.le_of_ble_eq_true rfl⟩ hn hsz hst hW hdg (fun H1 locs1 h1 h2 h3 => kk H1 locs1 (iw_kept hP (fun q hq => ?_)) h1 h2)
  obtain ⟨i, hi, rfl⟩ := hq
  exact h3 _ (iw_lt hP hi) (fun ⟨j, hj, e⟩ => dj i j hi hj e)
end LW
