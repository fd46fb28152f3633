def Rl (n c : Nat) (V : VS) (M : MS) : Prop := True
theorem rl_make {n c : Nat} {V : VS} {M : MS} (h : Rl n c V M) (hc : c < 512) : p_M_make M ∧ (j_V_make n V).1 = (j_M_make M).1 ∧ Rl n (c + 1) ((j_V_make n V).2) ((j_M_make M).2) := sorry
theorem rl_drop {n c : Nat} {V : VS} {M : MS} (h : Rl n c V M) (hc : c < 512) (x1 : Int32) : p_M_drop M x1 ∧ (j_V_drop n V x1).1 = (j_M_drop M x1).1 ∧ Rl n (c + 1) ((j_V_drop n V x1).2) ((j_M_drop M x1).2) := sorry
theorem rl_fork {n c : Nat} {V : VS} {M : MS} (h : Rl n c V M) (hc : c < 512) (x1 : Int32) : p_M_fork M x1 ∧ (j_V_fork n V x1).1 = (j_M_fork M x1).1 ∧ Rl n (c + 1) ((j_V_fork n V x1).2) ((j_M_fork M x1).2) := sorry
theorem rl_map {n c : Nat} {V : VS} {M : MS} (h : Rl n c V M) (hc : c < 512) (x1 x2 x3 : Int32) : p_M_map M x1 x2 x3 ∧ (j_V_map n V x1 x2 x3).1 = (j_M_map M x1 x2 x3).1 ∧ Rl n (c + 1) ((j_V_map n V x1 x2 x3).2) ((j_M_map M x1 x2 x3).2) := sorry
theorem rl_protect {n c : Nat} {V : VS} {M : MS} (h : Rl n c V M) (hc : c < 512) (x1 x2 x3 : Int32) : p_M_protect M x1 x2 x3 ∧ (j_V_protect n V x1 x2 x3).1 = (j_M_protect M x1 x2 x3).1 ∧ Rl n (c + 1) ((j_V_protect n V x1 x2 x3).2) ((j_M_protect M x1 x2 x3).2) := sorry
theorem rl_grow {n c : Nat} {V : VS} {M : MS} (h : Rl n c V M) (hc : c < 512) (x1 x2 : Int32) : p_M_grow M x1 x2 ∧ (j_V_grow n V x1 x2).1 = (j_M_grow M x1 x2).1 ∧ Rl n (c + 1) ((j_V_grow n V x1 x2).2) ((j_M_grow M x1 x2).2) := sorry
theorem rl_size {n c : Nat} {V : VS} {M : MS} (h : Rl n c V M) (hc : c < 512) (x1 : Int32) : j_V_size V x1 = j_M_size M x1 ∧ Rl n (c + 1) (V) (M) := sorry
theorem rl_load {n c : Nat} {V : VS} {M : MS} (h : Rl n c V M) (hc : c < 512) (x1 x2 x3 : Int32) : p_M_load M x1 x2 x3 ∧ (j_V_load n V x1 x2 x3).1 = (j_M_load M x1 x2 x3).1 ∧ Rl n (c + 1) ((j_V_load n V x1 x2 x3).2) ((j_M_load M x1 x2 x3).2) := sorry
theorem rl_fetch {n c : Nat} {V : VS} {M : MS} (h : Rl n c V M) (hc : c < 512) (x1 x2 : Int32) : p_M_fetch M x1 x2 ∧ (j_V_fetch n V x1 x2).1 = (j_M_fetch M x1 x2).1 ∧ Rl n (c + 1) ((j_V_fetch n V x1 x2).2) ((j_M_fetch M x1 x2).2) := sorry
theorem rl_store {n c : Nat} {V : VS} {M : MS} (h : Rl n c V M) (hc : c < 512) (x1 x2 x3 x4 : Int32) : p_M_store M x1 x2 x3 x4 ∧ (j_V_store n V x1 x2 x3 x4).1 = (j_M_store M x1 x2 x3 x4).1 ∧ Rl n (c + 1) ((j_V_store n V x1 x2 x3 x4).2) ((j_M_store M x1 x2 x3 x4).2) := sorry
theorem rl_trap {n c : Nat} {V : VS} {M : MS} (h : Rl n c V M) (hc : c < 512) : j_V_trap V = j_M_trap M ∧ Rl n (c + 1) (V) (M) := sorry
theorem rl_out {n c : Nat} {V : VS} {M : MS} (h : Rl n c V M) (hc : c < 512) (x1 x2 x3 : Int32) : p_M_out M x1 x2 x3 ∧ (j_V_out n V x1 x2 x3).1 = (j_M_out M x1 x2 x3).1 ∧ Rl n (c + 1) ((j_V_out n V x1 x2 x3).2) ((j_M_out M x1 x2 x3).2) := sorry
theorem rl_in {n c : Nat} {V : VS} {M : MS} (h : Rl n c V M) (hc : c < 512) (x1 x2 x3 : Int32) : p_M_in M x1 x2 x3 ∧ (j_V_in n V x1 x2 x3).1 = (j_M_in M x1 x2 x3).1 ∧ Rl n (c + 1) ((j_V_in n V x1 x2 x3).2) ((j_M_in M x1 x2 x3).2) := sorry
theorem rl_text {n c : Nat} {V : VS} {M : MS} (h : Rl n c V M) (hc : c < 512) (x1 x2 x3 : Int32) : p_M_text M x1 x2 x3 ∧ (j_V_text n V x1 x2 x3).1 = (j_M_text M x1 x2 x3).1 ∧ Rl n (c + 1) ((j_V_text n V x1 x2 x3).2) ((j_M_text M x1 x2 x3).2) := sorry
theorem rl_put {n c : Nat} {V : VS} {M : MS} (h : Rl n c V M) (hc : c < 512) (x1 x2 : Int32) : p_M_put M x1 x2 ∧ (j_V_put V x1 x2).1 = (j_M_put M x1 x2).1 ∧ Rl n (c + 1) ((j_V_put V x1 x2).2) ((j_M_put M x1 x2).2) := sorry
theorem rl_at {n c : Nat} {V : VS} {M : MS} (h : Rl n c V M) (hc : c < 512) (x1 : Int32) : p_M_at M x1 ∧ j_V_at V x1 = j_M_at M x1 ∧ Rl n (c + 1) (V) (M) := sorry
theorem rl_free {n c : Nat} {V : VS} {M : MS} (h : Rl n c V M) (hc : c < 512) : p_M_free M ∧ j_V_free V = j_M_free M ∧ Rl n (c + 1) (V) (M) := sorry
theorem rl_flags {n c : Nat} {V : VS} {M : MS} (h : Rl n c V M) (hc : c < 512) (x1 x2 : Int32) : p_M_flags M x1 x2 ∧ j_V_flags n V x1 x2 = j_M_flags M x1 x2 ∧ Rl n (c + 1) (V) (M) := sorry
theorem rl_owners {n c : Nat} {V : VS} {M : MS} (h : Rl n c V M) (hc : c < 512) (x1 x2 : Int32) : p_M_owners M x1 x2 ∧ j_V_owners n V x1 x2 = j_M_owners M x1 x2 ∧ Rl n (c + 1) (V) (M) := sorry
theorem rl_none {n c : Nat} {V : VS} {M : MS} (h : Rl n c V M) (hc : c < 512) : Rl n (c + 1) V M := sorry
theorem rl_init {n : Nat} (h8 : 8 ≤ n) (h32 : n ≤ 32) : Rl n 0 (V0 n) (M0 n) := sorry
