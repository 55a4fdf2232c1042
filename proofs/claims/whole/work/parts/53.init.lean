/-! CONSTRUCTORS: the class -/
def jz0 : Nat → Int32 := fun _ => 0
def jzl : Nat → Int64 := fun _ => 0
def ja_tab : List (List Nat) := [[0, 0, 0, 0, 0, 0, 0, 0, 0, 0, 0, 0], [1, 0, 0, 0, 0, 0, 0, 0, 0, 0, 0, 4], [2, 0, 0, 0, 0, 0, 0, 0, 0, 0, 0, 3], [3, 0, 0, 0, 0, 0, 0, 0, 0, 0, 0, 2], [4, 0, 0, 0, 0, 0, 0, 0, 0, 0, 0, 1], [0, 0, 4, 4, 0, 1, 0, 4, 0, 1, 1, 0], [1, 4, 4, 0, 1, 0, 4, 0, 1, 1, 0, 4], [2, 4, 0, 1, 0, 4, 0, 1, 1, 0, 4, 3], [3, 0, 1, 0, 4, 4, 1, 1, 0, 4, 0, 2], [4, 1, 0, 4, 4, 0, 1, 0, 4, 0, 1, 1], [0, 1, 4, 4, 0, 1, 0, 4, 4, 1, 1, 0], [1, 4, 4, 0, 1, 1, 4, 4, 1, 1, 0, 4], [2, 4, 0, 1, 1, 4, 4, 1, 1, 0, 4, 3], [3, 0, 1, 1, 4, 4, 1, 1, 0, 4, 4, 2], [4, 1, 1, 4, 4, 0, 1, 0, 4, 4, 1, 1], [0, 2, 4, 4, 0, 1, 0, 4, 3, 1, 1, 0], [1, 4, 4, 0, 1, 2, 4, 3, 1, 1, 0, 4], [2, 4, 0, 1, 2, 4, 3, 1, 1, 0, 4, 3], [3, 0, 1, 2, 4, 4, 1, 1, 0, 4, 3, 2], [4, 1, 2, 4, 4, 0, 1, 0, 4, 3, 1, 1], [0, 3, 4, 4, 0, 1, 0, 4, 2, 1, 1, 0], [1, 4, 4, 0, 1, 3, 4, 2, 1, 1, 0, 4], [2, 4, 0, 1, 3, 4, 2, 1, 1, 0, 4, 3], [3, 0, 1, 3, 4, 4, 1, 1, 0, 4, 2, 2], [4, 1, 3, 4, 4, 0, 1, 0, 4, 2, 1, 1], [0, 4, 4, 4, 0, 1, 0, 4, 1, 1, 1, 0], [1, 4, 4, 0, 1, 4, 4, 1, 1, 1, 0, 4], [2, 4, 0, 1, 4, 4, 1, 1, 1, 0, 4, 3], [3, 0, 1, 4, 4, 4, 1, 1, 0, 4, 1, 2], [4, 1, 4, 4, 4, 0, 1, 0, 4, 1, 1, 1], [0, 3, 3, 4, 1, 2, 4, 3, 2, 2, 1, 0], [1, 3, 4, 1, 2, 3, 3, 2, 2, 1, 4, 4], [2, 4, 1, 2, 3, 3, 2, 2, 1, 4, 3, 3], [3, 1, 2, 3, 3, 4, 2, 1, 4, 3, 2, 2], [4, 2, 3, 3, 4, 1, 1, 4, 3, 2, 2, 1], [0, 3, 3, 3, 1, 2, 4, 3, 2, 2, 2, 0], [1, 3, 3, 1, 2, 3, 3, 2, 2, 2, 4, 4], [2, 3, 1, 2, 3, 3, 2, 2, 2, 4, 3, 3], [3, 1, 2, 3, 3, 3, 2, 2, 4, 3, 2, 2], [4, 2, 3, 3, 3, 1, 2, 4, 3, 2, 2, 1], [0, 3, 3, 2, 1, 2, 4, 3, 2, 2, 3, 0], [1, 3, 2, 1, 2, 3, 3, 2, 2, 3, 4, 4], [2, 2, 1, 2, 3, 3, 2, 2, 3, 4, 3, 3], [3, 1, 2, 3, 3, 2, 2, 3, 4, 3, 2, 2], [4, 2, 3, 3, 2, 1, 3, 4, 3, 2, 2, 1], [0, 3, 3, 1, 1, 2, 4, 3, 2, 2, 4, 0], [1, 3, 1, 1, 2, 3, 3, 2, 2, 4, 4, 4], [2, 1, 1, 2, 3, 3, 2, 2, 4, 4, 3, 3], [3, 1, 2, 3, 3, 1, 2, 4, 4, 3, 2, 2], [4, 2, 3, 3, 1, 1, 4, 4, 3, 2, 2, 1], [0, 3, 3, 0, 1, 2, 4, 3, 2, 2, 0, 0], [1, 3, 0, 1, 2, 3, 3, 2, 2, 0, 4, 4], [2, 0, 1, 2, 3, 3, 2, 2, 0, 4, 3, 3], [3, 1, 2, 3, 3, 0, 2, 0, 4, 3, 2, 2], [4, 2, 3, 3, 0, 1, 0, 4, 3, 2, 2, 1], [0, 2, 2, 2, 2, 2, 3, 3, 3, 3, 3, 0], [1, 2, 2, 2, 2, 2, 3, 3, 3, 3, 3, 4], [2, 2, 2, 2, 2, 2, 3, 3, 3, 3, 3, 3], [3, 2, 2, 2, 2, 2, 3, 3, 3, 3, 3, 2], [4, 2, 2, 2, 2, 2, 3, 3, 3, 3, 3, 1]]
def ja (n f : Nat) : Nat := (ja_tab.getD n []).getD f 0
/-- goals, the first k of turning t laid -/
def lg (go : Nat → Int32) (t k : Nat) : Nat → Int32 := fun j => if 12 * t ≤ j ∧ j < 12 * t + k then nI (jg t (j - 12 * t)) else go j
def lgG : Nat → Nat → Int32
  | 0 => jz0
  | n + 1 => lg (lgG n) n 12
def lgA : Nat → Nat → Int32
  | 0 => jz0
  | n + 1 => jF (fun f => nI (ja n f)) (lgA n) 12
theorem lg_s (go : Nat → Int32) (t k : Nat) : jU (lg go t k) (12 * t + k) (nI (jg t k)) = lg go t (k + 1) := by
  funext j
  by_cases e : j = 12 * t + k
  · subst e
    rw [jU_at]
    unfold lg
    rw [if_pos (by omega), show 12 * t + k - 12 * t = k by omega]
  · rw [jU_ne _ _ e]
    unfold lg
    by_cases c : 12 * t ≤ j ∧ j < 12 * t + k
    · rw [if_pos c, if_pos (by omega)]
    · rw [if_neg c, if_neg (by omega)]
theorem lg_at (go : Nat → Int32) {t k f : Nat} (h : f < k) : lg go t k (12 * t + f) = nI (jg t f) := by
  unfold lg
  rw [if_pos (by omega), show 12 * t + f - 12 * t = f by omega]
theorem lgG_at : ∀ n t, t < n → ∀ f, f < 12 → lgG n (12 * t + f) = nI (jg t f) := by
  intro n
  induction n with
  | zero => intro t h; exact absurd h (Nat.not_lt_zero t)
  | succ n ih =>
    intro t ht f hf
    by_cases e : t = n
    · subst e; exact lg_at _ hf
    · show lg (lgG n) n 12 (12 * t + f) = _
      unfold lg
      rw [if_neg (by omega)]
      exact ih t (by omega) f hf
theorem ly_1 : ∀ t, t < 60 → ja t 0 = t % 5 ∧ jg t 0 = t / 5 := by decide +kernel
theorem ly_2 : ∀ k, k < 12 → 1 ≤ k → jb_s k 0 < k := by decide +kernel
theorem ly_3 : ∀ t, t < 60 → ∀ k, k < 12 → 1 ≤ k → ja t (jb_s k 0) < 5 ∧ jb_s (jg t (jb_s k 0)) ((ja t (jb_s k 0) + jb_sdN (jb_s k 0) k) % 5) = jg t k ∧ jb_sd (jg t k) (jg t (jb_s k 0)) = nI (ja t k) := by decide +kernel
theorem ly_4 : ∀ k, k < 12 → 1 ≤ k → jb_sd (jb_s k 0) k = nI (jb_sdN (jb_s k 0) k) ∧ jb_sdN (jb_s k 0) k < 5 := by decide +kernel
theorem jv_hI (h : List jj_C) (N : Nat) : h ++ [.inr (.inl (List.replicate N 0))] = h ++ [.inr (.inl (jv N jz0))] := by rw [jv_rep]; rfl
theorem jv_hZ (h : List jj_C) (N : Nat) : h ++ [.inr (.inr (.inl (List.replicate N 0)))] = h ++ [.inr (.inr (.inl (jv N jz0)))] := by rw [jv_rep]; rfl
theorem jv_hJ (h : List jj_C) (N : Nat) : h ++ [.inr (.inr (.inr (List.replicate N 0)))] = h ++ [.inr (.inr (.inr (jv N jzl)))] := by rw [jv_rep]; rfl
set_option maxRecDepth 100000 in
set_option maxHeartbeats 4000000 in
theorem ev3_init {G : jj_G}  : jj_Ev G m3_init 1 [.ref 1] ([.inl (5, [.null, .null, .null, .null, .null, .null, .null, .null]), .inl (2, [.null, .int 0, .int 0, .int 0, .null, .null, .null, .int 0])]) 4 236 (none) ([.inl (5, [.null, .null, .null, .null, .null, .null, .null, .null]), .inl (2, [.ref 2, .int 0, .int 0, .int 0, .ref 3, .ref 4, .ref 5, .int 0]), .inr (.inl (jv 200 jz0)), .inr (.inl (jv 12 jz0)), .inr (.inl (jv 12 jz0)), .inr (.inl (jv 12 jz0))]) := by
  refine jj_Ev_of (lo := [some (.ref 1)]) (by decide +kernel) (Nat.le_of_ble_eq_true rfl) rfl (by trivial) ?_
  refine jj_aload_n dX3_init_0 rfl ?_
  refine jj_obj dX3_init_1 ml3_3 jj_ob1 jj_ob2 (by decide) (Nat.le_of_ble_eq_true rfl) ?_
  refine jj_aload_n dX3_init_4 rfl ?_
  refine jj_sipush (v := 200) dX3_init_5 (by decide) ?_
  refine jj_newaI (N := 200) dX3_init_8 (by decide) (by decide) (by decide) (jv_hI _ 200) (by decide) jj_ac_int ?_
  refine jj_putf dX3_init_10 fw3_11 rfl (Nat.le_of_ble_eq_true rfl) rfl rfl rfl ?_
  refine jj_eq (hh := [.inl (5, [.null, .null, .null, .null, .null, .null, .null, .null]), .inl (2, [.ref 2, .int 0, .int 0, .int 0, .null, .null, .null, .int 0]), .inr (.inl (jv 200 jz0))]) rfl rfl rfl rfl ?_
  refine jj_aload_n dX3_init_13 rfl ?_
  refine jj_bipush (v := 12) dX3_init_14 (by decide) ?_
  refine jj_newaI (N := 12) dX3_init_16 (by decide) (by decide) (by decide) (jv_hI _ 12) (by decide) jj_ac_int ?_
  refine jj_putf dX3_init_18 fw3_15 rfl (Nat.le_of_ble_eq_true rfl) rfl rfl rfl ?_
  refine jj_eq (hh := [.inl (5, [.null, .null, .null, .null, .null, .null, .null, .null]), .inl (2, [.ref 2, .int 0, .int 0, .int 0, .ref 3, .null, .null, .int 0]), .inr (.inl (jv 200 jz0)), .inr (.inl (jv 12 jz0))]) rfl rfl rfl rfl ?_
  refine jj_aload_n dX3_init_21 rfl ?_
  refine jj_bipush (v := 12) dX3_init_22 (by decide) ?_
  refine jj_newaI (N := 12) dX3_init_24 (by decide) (by decide) (by decide) (jv_hI _ 12) (by decide) jj_ac_int ?_
  refine jj_putf dX3_init_26 fw3_18 rfl (Nat.le_of_ble_eq_true rfl) rfl rfl rfl ?_
  refine jj_eq (hh := [.inl (5, [.null, .null, .null, .null, .null, .null, .null, .null]), .inl (2, [.ref 2, .int 0, .int 0, .int 0, .ref 3, .ref 4, .null, .int 0]), .inr (.inl (jv 200 jz0)), .inr (.inl (jv 12 jz0)), .inr (.inl (jv 12 jz0))]) rfl rfl rfl rfl ?_
  refine jj_aload_n dX3_init_29 rfl ?_
  refine jj_bipush (v := 12) dX3_init_30 (by decide) ?_
  refine jj_newaI (N := 12) dX3_init_32 (by decide) (by decide) (by decide) (jv_hI _ 12) (by decide) jj_ac_int ?_
  refine jj_putf dX3_init_34 fw3_21 rfl (Nat.le_of_ble_eq_true rfl) rfl rfl rfl ?_
  refine jj_eq (hh := [.inl (5, [.null, .null, .null, .null, .null, .null, .null, .null]), .inl (2, [.ref 2, .int 0, .int 0, .int 0, .ref 3, .ref 4, .ref 5, .int 0]), .inr (.inl (jv 200 jz0)), .inr (.inl (jv 12 jz0)), .inr (.inl (jv 12 jz0)), .inr (.inl (jv 12 jz0))]) rfl rfl rfl rfl ?_
  exact jj_leaf dX3_init_37 rfl rfl
set_option maxRecDepth 100000 in
set_option maxHeartbeats 4000000 in
theorem ev2_init {G : jj_G}  : jj_Ev G m2_init 1 [.ref 13] ([.inl (5, [.ref 1, .ref 6, .ref 9, .null, .null, .null, .null, .null]), .inl (2, [.ref 2, .int 0, .int 0, .int 0, .ref 3, .ref 4, .ref 5, .int 0]), .inr (.inl (jv 200 jz0)), .inr (.inl (jv 12 jz0)), .inr (.inl (jv 12 jz0)), .inr (.inl (jv 12 jz0)), .inl (3, [.ref 7, .ref 8]), .inr (.inl (jv 720 (lgG 60))), .inr (.inl (jv 12 (lgA 60))), .inl (4, [.ref 10, .ref 11, .ref 12, .int 0, .int 0, .int 0, .int 0, .int 0, .int 0]), .inr (.inl (jv 12 (jF (fun f => nI (jb_al f)) jz0 12))), .inr (.inl (jv 12 jz0)), .inr (.inl (jv 12 jz0)), .inl (1, [.null, .null])]) 2 24 (none) ([.inl (5, [.ref 1, .ref 6, .ref 9, .null, .null, .null, .null, .null]), .inl (2, [.ref 2, .int 0, .int 0, .int 0, .ref 3, .ref 4, .ref 5, .int 0]), .inr (.inl (jv 200 jz0)), .inr (.inl (jv 12 jz0)), .inr (.inl (jv 12 jz0)), .inr (.inl (jv 12 jz0)), .inl (3, [.ref 7, .ref 8]), .inr (.inl (jv 720 (lgG 60))), .inr (.inl (jv 12 (lgA 60))), .inl (4, [.ref 10, .ref 11, .ref 12, .int 0, .int 0, .int 0, .int 0, .int 0, .int 0]), .inr (.inl (jv 12 (jF (fun f => nI (jb_al f)) jz0 12))), .inr (.inl (jv 12 jz0)), .inr (.inl (jv 12 jz0)), .inl (1, [.ref 14, .ref 15]), .inr (.inr (.inr (jv 12 jzl))), .inr (.inr (.inr (jv 12 jzl)))]) := by
  refine jj_Ev_of (lo := [some (.ref 13)]) (by decide +kernel) (Nat.le_of_ble_eq_true rfl) rfl (by trivial) ?_
  refine jj_aload_n dX2_init_0 rfl ?_
  refine jj_obj dX2_init_1 ml2_3 jj_ob1 jj_ob2 (by decide) (Nat.le_of_ble_eq_true rfl) ?_
  refine jj_aload_n dX2_init_4 rfl ?_
  refine jj_bipush (v := 12) dX2_init_5 (by decide) ?_
  refine jj_newaJ (N := 12) dX2_init_7 (by decide) (by decide) (by decide) (jv_hJ _ 12) (by decide) jj_ac_long ?_
  refine jj_putf dX2_init_9 fw2_9 rfl (Nat.le_of_ble_eq_true rfl) rfl rfl rfl ?_
  refine jj_eq (hh := [.inl (5, [.ref 1, .ref 6, .ref 9, .null, .null, .null, .null, .null]), .inl (2, [.ref 2, .int 0, .int 0, .int 0, .ref 3, .ref 4, .ref 5, .int 0]), .inr (.inl (jv 200 jz0)), .inr (.inl (jv 12 jz0)), .inr (.inl (jv 12 jz0)), .inr (.inl (jv 12 jz0)), .inl (3, [.ref 7, .ref 8]), .inr (.inl (jv 720 (lgG 60))), .inr (.inl (jv 12 (lgA 60))), .inl (4, [.ref 10, .ref 11, .ref 12, .int 0, .int 0, .int 0, .int 0, .int 0, .int 0]), .inr (.inl (jv 12 (jF (fun f => nI (jb_al f)) jz0 12))), .inr (.inl (jv 12 jz0)), .inr (.inl (jv 12 jz0)), .inl (1, [.ref 14, .null]), .inr (.inr (.inr (jv 12 jzl)))]) rfl rfl rfl rfl ?_
  refine jj_aload_n dX2_init_12 rfl ?_
  refine jj_bipush (v := 12) dX2_init_13 (by decide) ?_
  refine jj_newaJ (N := 12) dX2_init_15 (by decide) (by decide) (by decide) (jv_hJ _ 12) (by decide) jj_ac_long ?_
  refine jj_putf dX2_init_17 fw2_15 rfl (Nat.le_of_ble_eq_true rfl) rfl rfl rfl ?_
  refine jj_eq (hh := [.inl (5, [.ref 1, .ref 6, .ref 9, .null, .null, .null, .null, .null]), .inl (2, [.ref 2, .int 0, .int 0, .int 0, .ref 3, .ref 4, .ref 5, .int 0]), .inr (.inl (jv 200 jz0)), .inr (.inl (jv 12 jz0)), .inr (.inl (jv 12 jz0)), .inr (.inl (jv 12 jz0)), .inl (3, [.ref 7, .ref 8]), .inr (.inl (jv 720 (lgG 60))), .inr (.inl (jv 12 (lgA 60))), .inl (4, [.ref 10, .ref 11, .ref 12, .int 0, .int 0, .int 0, .int 0, .int 0, .int 0]), .inr (.inl (jv 12 (jF (fun f => nI (jb_al f)) jz0 12))), .inr (.inl (jv 12 jz0)), .inr (.inl (jv 12 jz0)), .inl (1, [.ref 14, .ref 15]), .inr (.inr (.inr (jv 12 jzl))), .inr (.inr (.inr (jv 12 jzl)))]) rfl rfl rfl rfl ?_
  exact jj_leaf dX2_init_20 rfl rfl
set_option maxRecDepth 100000 in
set_option maxHeartbeats 4000000 in
theorem ev1_init_0 {G : jj_G}  : jj_Ev G m1_init 1 [.ref 16] ([.inl (5, [.ref 1, .ref 6, .ref 9, .ref 13, .null, .null, .null, .null]), .inl (2, [.ref 2, .int 0, .int 0, .int 0, .ref 3, .ref 4, .ref 5, .int 0]), .inr (.inl (jv 200 jz0)), .inr (.inl (jv 12 jz0)), .inr (.inl (jv 12 jz0)), .inr (.inl (jv 12 jz0)), .inl (3, [.ref 7, .ref 8]), .inr (.inl (jv 720 (lgG 60))), .inr (.inl (jv 12 (lgA 60))), .inl (4, [.ref 10, .ref 11, .ref 12, .int 0, .int 0, .int 0, .int 0, .int 0, .int 0]), .inr (.inl (jv 12 (jF (fun f => nI (jb_al f)) jz0 12))), .inr (.inl (jv 12 jz0)), .inr (.inl (jv 12 jz0)), .inl (1, [.ref 14, .ref 15]), .inr (.inr (.inr (jv 12 jzl))), .inr (.inr (.inr (jv 12 jzl))), .inl (0, [.null, .null, .int 0, .int 0, .int 0, .int 0])]) 2 24 (none) ([.inl (5, [.ref 1, .ref 6, .ref 9, .ref 13, .null, .null, .null, .null]), .inl (2, [.ref 2, .int 0, .int 0, .int 0, .ref 3, .ref 4, .ref 5, .int 0]), .inr (.inl (jv 200 jz0)), .inr (.inl (jv 12 jz0)), .inr (.inl (jv 12 jz0)), .inr (.inl (jv 12 jz0)), .inl (3, [.ref 7, .ref 8]), .inr (.inl (jv 720 (lgG 60))), .inr (.inl (jv 12 (lgA 60))), .inl (4, [.ref 10, .ref 11, .ref 12, .int 0, .int 0, .int 0, .int 0, .int 0, .int 0]), .inr (.inl (jv 12 (jF (fun f => nI (jb_al f)) jz0 12))), .inr (.inl (jv 12 jz0)), .inr (.inl (jv 12 jz0)), .inl (1, [.ref 14, .ref 15]), .inr (.inr (.inr (jv 12 jzl))), .inr (.inr (.inr (jv 12 jzl))), .inl (0, [.ref 17, .ref 18, .int 0, .int 0, .int 0, .int 0]), .inr (.inl (jv 12 jz0)), .inr (.inl (jv 12 jz0))]) := by
  refine jj_Ev_of (lo := [some (.ref 16)]) (by decide +kernel) (Nat.le_of_ble_eq_true rfl) rfl (by trivial) ?_
  refine jj_aload_n dX1_init_0 rfl ?_
  refine jj_obj dX1_init_1 ml1_3 jj_ob1 jj_ob2 (by decide) (Nat.le_of_ble_eq_true rfl) ?_
  refine jj_aload_n dX1_init_4 rfl ?_
  refine jj_bipush (v := 12) dX1_init_5 (by decide) ?_
  refine jj_newaI (N := 12) dX1_init_7 (by decide) (by decide) (by decide) (jv_hI _ 12) (by decide) jj_ac_int ?_
  refine jj_putf dX1_init_9 fw1_9 rfl (Nat.le_of_ble_eq_true rfl) rfl rfl rfl ?_
  refine jj_eq (hh := [.inl (5, [.ref 1, .ref 6, .ref 9, .ref 13, .null, .null, .null, .null]), .inl (2, [.ref 2, .int 0, .int 0, .int 0, .ref 3, .ref 4, .ref 5, .int 0]), .inr (.inl (jv 200 jz0)), .inr (.inl (jv 12 jz0)), .inr (.inl (jv 12 jz0)), .inr (.inl (jv 12 jz0)), .inl (3, [.ref 7, .ref 8]), .inr (.inl (jv 720 (lgG 60))), .inr (.inl (jv 12 (lgA 60))), .inl (4, [.ref 10, .ref 11, .ref 12, .int 0, .int 0, .int 0, .int 0, .int 0, .int 0]), .inr (.inl (jv 12 (jF (fun f => nI (jb_al f)) jz0 12))), .inr (.inl (jv 12 jz0)), .inr (.inl (jv 12 jz0)), .inl (1, [.ref 14, .ref 15]), .inr (.inr (.inr (jv 12 jzl))), .inr (.inr (.inr (jv 12 jzl))), .inl (0, [.ref 17, .null, .int 0, .int 0, .int 0, .int 0]), .inr (.inl (jv 12 jz0))]) rfl rfl rfl rfl ?_
  refine jj_aload_n dX1_init_12 rfl ?_
  refine jj_bipush (v := 12) dX1_init_13 (by decide) ?_
  refine jj_newaI (N := 12) dX1_init_15 (by decide) (by decide) (by decide) (jv_hI _ 12) (by decide) jj_ac_int ?_
  refine jj_putf dX1_init_17 fw1_15 rfl (Nat.le_of_ble_eq_true rfl) rfl rfl rfl ?_
  refine jj_eq (hh := [.inl (5, [.ref 1, .ref 6, .ref 9, .ref 13, .null, .null, .null, .null]), .inl (2, [.ref 2, .int 0, .int 0, .int 0, .ref 3, .ref 4, .ref 5, .int 0]), .inr (.inl (jv 200 jz0)), .inr (.inl (jv 12 jz0)), .inr (.inl (jv 12 jz0)), .inr (.inl (jv 12 jz0)), .inl (3, [.ref 7, .ref 8]), .inr (.inl (jv 720 (lgG 60))), .inr (.inl (jv 12 (lgA 60))), .inl (4, [.ref 10, .ref 11, .ref 12, .int 0, .int 0, .int 0, .int 0, .int 0, .int 0]), .inr (.inl (jv 12 (jF (fun f => nI (jb_al f)) jz0 12))), .inr (.inl (jv 12 jz0)), .inr (.inl (jv 12 jz0)), .inl (1, [.ref 14, .ref 15]), .inr (.inr (.inr (jv 12 jzl))), .inr (.inr (.inr (jv 12 jzl))), .inl (0, [.ref 17, .ref 18, .int 0, .int 0, .int 0, .int 0]), .inr (.inl (jv 12 jz0)), .inr (.inl (jv 12 jz0))]) rfl rfl rfl rfl ?_
  exact jj_leaf dX1_init_20 rfl rfl
set_option maxRecDepth 100000 in
set_option maxHeartbeats 4000000 in
theorem ev1_init_1 {G : jj_G}  : jj_Ev G m1_init 1 [.ref 19] ([.inl (5, [.ref 1, .ref 6, .ref 9, .ref 13, .ref 16, .null, .null, .null]), .inl (2, [.ref 2, .int 0, .int 0, .int 0, .ref 3, .ref 4, .ref 5, .int 0]), .inr (.inl (jv 200 jz0)), .inr (.inl (jv 12 jz0)), .inr (.inl (jv 12 jz0)), .inr (.inl (jv 12 jz0)), .inl (3, [.ref 7, .ref 8]), .inr (.inl (jv 720 (lgG 60))), .inr (.inl (jv 12 (lgA 60))), .inl (4, [.ref 10, .ref 11, .ref 12, .int 0, .int 0, .int 0, .int 0, .int 0, .int 0]), .inr (.inl (jv 12 (jF (fun f => nI (jb_al f)) jz0 12))), .inr (.inl (jv 12 jz0)), .inr (.inl (jv 12 jz0)), .inl (1, [.ref 14, .ref 15]), .inr (.inr (.inr (jv 12 jzl))), .inr (.inr (.inr (jv 12 jzl))), .inl (0, [.ref 17, .ref 18, .int 0, .int 0, .int 0, .int 0]), .inr (.inl (jv 12 jz0)), .inr (.inl (jv 12 jz0)), .inl (0, [.null, .null, .int 0, .int 0, .int 0, .int 0])]) 2 24 (none) ([.inl (5, [.ref 1, .ref 6, .ref 9, .ref 13, .ref 16, .null, .null, .null]), .inl (2, [.ref 2, .int 0, .int 0, .int 0, .ref 3, .ref 4, .ref 5, .int 0]), .inr (.inl (jv 200 jz0)), .inr (.inl (jv 12 jz0)), .inr (.inl (jv 12 jz0)), .inr (.inl (jv 12 jz0)), .inl (3, [.ref 7, .ref 8]), .inr (.inl (jv 720 (lgG 60))), .inr (.inl (jv 12 (lgA 60))), .inl (4, [.ref 10, .ref 11, .ref 12, .int 0, .int 0, .int 0, .int 0, .int 0, .int 0]), .inr (.inl (jv 12 (jF (fun f => nI (jb_al f)) jz0 12))), .inr (.inl (jv 12 jz0)), .inr (.inl (jv 12 jz0)), .inl (1, [.ref 14, .ref 15]), .inr (.inr (.inr (jv 12 jzl))), .inr (.inr (.inr (jv 12 jzl))), .inl (0, [.ref 17, .ref 18, .int 0, .int 0, .int 0, .int 0]), .inr (.inl (jv 12 jz0)), .inr (.inl (jv 12 jz0)), .inl (0, [.ref 20, .ref 21, .int 0, .int 0, .int 0, .int 0]), .inr (.inl (jv 12 jz0)), .inr (.inl (jv 12 jz0))]) := by
  refine jj_Ev_of (lo := [some (.ref 19)]) (by decide +kernel) (Nat.le_of_ble_eq_true rfl) rfl (by trivial) ?_
  refine jj_aload_n dX1_init_0 rfl ?_
  refine jj_obj dX1_init_1 ml1_3 jj_ob1 jj_ob2 (by decide) (Nat.le_of_ble_eq_true rfl) ?_
  refine jj_aload_n dX1_init_4 rfl ?_
  refine jj_bipush (v := 12) dX1_init_5 (by decide) ?_
  refine jj_newaI (N := 12) dX1_init_7 (by decide) (by decide) (by decide) (jv_hI _ 12) (by decide) jj_ac_int ?_
  refine jj_putf dX1_init_9 fw1_9 rfl (Nat.le_of_ble_eq_true rfl) rfl rfl rfl ?_
  refine jj_eq (hh := [.inl (5, [.ref 1, .ref 6, .ref 9, .ref 13, .ref 16, .null, .null, .null]), .inl (2, [.ref 2, .int 0, .int 0, .int 0, .ref 3, .ref 4, .ref 5, .int 0]), .inr (.inl (jv 200 jz0)), .inr (.inl (jv 12 jz0)), .inr (.inl (jv 12 jz0)), .inr (.inl (jv 12 jz0)), .inl (3, [.ref 7, .ref 8]), .inr (.inl (jv 720 (lgG 60))), .inr (.inl (jv 12 (lgA 60))), .inl (4, [.ref 10, .ref 11, .ref 12, .int 0, .int 0, .int 0, .int 0, .int 0, .int 0]), .inr (.inl (jv 12 (jF (fun f => nI (jb_al f)) jz0 12))), .inr (.inl (jv 12 jz0)), .inr (.inl (jv 12 jz0)), .inl (1, [.ref 14, .ref 15]), .inr (.inr (.inr (jv 12 jzl))), .inr (.inr (.inr (jv 12 jzl))), .inl (0, [.ref 17, .ref 18, .int 0, .int 0, .int 0, .int 0]), .inr (.inl (jv 12 jz0)), .inr (.inl (jv 12 jz0)), .inl (0, [.ref 20, .null, .int 0, .int 0, .int 0, .int 0]), .inr (.inl (jv 12 jz0))]) rfl rfl rfl rfl ?_
  refine jj_aload_n dX1_init_12 rfl ?_
  refine jj_bipush (v := 12) dX1_init_13 (by decide) ?_
  refine jj_newaI (N := 12) dX1_init_15 (by decide) (by decide) (by decide) (jv_hI _ 12) (by decide) jj_ac_int ?_
  refine jj_putf dX1_init_17 fw1_15 rfl (Nat.le_of_ble_eq_true rfl) rfl rfl rfl ?_
  refine jj_eq (hh := [.inl (5, [.ref 1, .ref 6, .ref 9, .ref 13, .ref 16, .null, .null, .null]), .inl (2, [.ref 2, .int 0, .int 0, .int 0, .ref 3, .ref 4, .ref 5, .int 0]), .inr (.inl (jv 200 jz0)), .inr (.inl (jv 12 jz0)), .inr (.inl (jv 12 jz0)), .inr (.inl (jv 12 jz0)), .inl (3, [.ref 7, .ref 8]), .inr (.inl (jv 720 (lgG 60))), .inr (.inl (jv 12 (lgA 60))), .inl (4, [.ref 10, .ref 11, .ref 12, .int 0, .int 0, .int 0, .int 0, .int 0, .int 0]), .inr (.inl (jv 12 (jF (fun f => nI (jb_al f)) jz0 12))), .inr (.inl (jv 12 jz0)), .inr (.inl (jv 12 jz0)), .inl (1, [.ref 14, .ref 15]), .inr (.inr (.inr (jv 12 jzl))), .inr (.inr (.inr (jv 12 jzl))), .inl (0, [.ref 17, .ref 18, .int 0, .int 0, .int 0, .int 0]), .inr (.inl (jv 12 jz0)), .inr (.inl (jv 12 jz0)), .inl (0, [.ref 20, .ref 21, .int 0, .int 0, .int 0, .int 0]), .inr (.inl (jv 12 jz0)), .inr (.inl (jv 12 jz0))]) rfl rfl rfl rfl ?_
  exact jj_leaf dX1_init_20 rfl rfl
set_option maxRecDepth 100000 in
set_option maxHeartbeats 4000000 in
theorem ev1_init_2 {G : jj_G}  : jj_Ev G m1_init 1 [.ref 22] ([.inl (5, [.ref 1, .ref 6, .ref 9, .ref 13, .ref 16, .ref 19, .null, .null]), .inl (2, [.ref 2, .int 0, .int 0, .int 0, .ref 3, .ref 4, .ref 5, .int 0]), .inr (.inl (jv 200 jz0)), .inr (.inl (jv 12 jz0)), .inr (.inl (jv 12 jz0)), .inr (.inl (jv 12 jz0)), .inl (3, [.ref 7, .ref 8]), .inr (.inl (jv 720 (lgG 60))), .inr (.inl (jv 12 (lgA 60))), .inl (4, [.ref 10, .ref 11, .ref 12, .int 0, .int 0, .int 0, .int 0, .int 0, .int 0]), .inr (.inl (jv 12 (jF (fun f => nI (jb_al f)) jz0 12))), .inr (.inl (jv 12 jz0)), .inr (.inl (jv 12 jz0)), .inl (1, [.ref 14, .ref 15]), .inr (.inr (.inr (jv 12 jzl))), .inr (.inr (.inr (jv 12 jzl))), .inl (0, [.ref 17, .ref 18, .int 0, .int 0, .int 0, .int 0]), .inr (.inl (jv 12 jz0)), .inr (.inl (jv 12 jz0)), .inl (0, [.ref 20, .ref 21, .int 0, .int 0, .int 0, .int 0]), .inr (.inl (jv 12 jz0)), .inr (.inl (jv 12 jz0)), .inl (0, [.null, .null, .int 0, .int 0, .int 0, .int 0])]) 2 24 (none) ([.inl (5, [.ref 1, .ref 6, .ref 9, .ref 13, .ref 16, .ref 19, .null, .null]), .inl (2, [.ref 2, .int 0, .int 0, .int 0, .ref 3, .ref 4, .ref 5, .int 0]), .inr (.inl (jv 200 jz0)), .inr (.inl (jv 12 jz0)), .inr (.inl (jv 12 jz0)), .inr (.inl (jv 12 jz0)), .inl (3, [.ref 7, .ref 8]), .inr (.inl (jv 720 (lgG 60))), .inr (.inl (jv 12 (lgA 60))), .inl (4, [.ref 10, .ref 11, .ref 12, .int 0, .int 0, .int 0, .int 0, .int 0, .int 0]), .inr (.inl (jv 12 (jF (fun f => nI (jb_al f)) jz0 12))), .inr (.inl (jv 12 jz0)), .inr (.inl (jv 12 jz0)), .inl (1, [.ref 14, .ref 15]), .inr (.inr (.inr (jv 12 jzl))), .inr (.inr (.inr (jv 12 jzl))), .inl (0, [.ref 17, .ref 18, .int 0, .int 0, .int 0, .int 0]), .inr (.inl (jv 12 jz0)), .inr (.inl (jv 12 jz0)), .inl (0, [.ref 20, .ref 21, .int 0, .int 0, .int 0, .int 0]), .inr (.inl (jv 12 jz0)), .inr (.inl (jv 12 jz0)), .inl (0, [.ref 23, .ref 24, .int 0, .int 0, .int 0, .int 0]), .inr (.inl (jv 12 jz0)), .inr (.inl (jv 12 jz0))]) := by
  refine jj_Ev_of (lo := [some (.ref 22)]) (by decide +kernel) (Nat.le_of_ble_eq_true rfl) rfl (by trivial) ?_
  refine jj_aload_n dX1_init_0 rfl ?_
  refine jj_obj dX1_init_1 ml1_3 jj_ob1 jj_ob2 (by decide) (Nat.le_of_ble_eq_true rfl) ?_
  refine jj_aload_n dX1_init_4 rfl ?_
  refine jj_bipush (v := 12) dX1_init_5 (by decide) ?_
  refine jj_newaI (N := 12) dX1_init_7 (by decide) (by decide) (by decide) (jv_hI _ 12) (by decide) jj_ac_int ?_
  refine jj_putf dX1_init_9 fw1_9 rfl (Nat.le_of_ble_eq_true rfl) rfl rfl rfl ?_
  refine jj_eq (hh := [.inl (5, [.ref 1, .ref 6, .ref 9, .ref 13, .ref 16, .ref 19, .null, .null]), .inl (2, [.ref 2, .int 0, .int 0, .int 0, .ref 3, .ref 4, .ref 5, .int 0]), .inr (.inl (jv 200 jz0)), .inr (.inl (jv 12 jz0)), .inr (.inl (jv 12 jz0)), .inr (.inl (jv 12 jz0)), .inl (3, [.ref 7, .ref 8]), .inr (.inl (jv 720 (lgG 60))), .inr (.inl (jv 12 (lgA 60))), .inl (4, [.ref 10, .ref 11, .ref 12, .int 0, .int 0, .int 0, .int 0, .int 0, .int 0]), .inr (.inl (jv 12 (jF (fun f => nI (jb_al f)) jz0 12))), .inr (.inl (jv 12 jz0)), .inr (.inl (jv 12 jz0)), .inl (1, [.ref 14, .ref 15]), .inr (.inr (.inr (jv 12 jzl))), .inr (.inr (.inr (jv 12 jzl))), .inl (0, [.ref 17, .ref 18, .int 0, .int 0, .int 0, .int 0]), .inr (.inl (jv 12 jz0)), .inr (.inl (jv 12 jz0)), .inl (0, [.ref 20, .ref 21, .int 0, .int 0, .int 0, .int 0]), .inr (.inl (jv 12 jz0)), .inr (.inl (jv 12 jz0)), .inl (0, [.ref 23, .null, .int 0, .int 0, .int 0, .int 0]), .inr (.inl (jv 12 jz0))]) rfl rfl rfl rfl ?_
  refine jj_aload_n dX1_init_12 rfl ?_
  refine jj_bipush (v := 12) dX1_init_13 (by decide) ?_
  refine jj_newaI (N := 12) dX1_init_15 (by decide) (by decide) (by decide) (jv_hI _ 12) (by decide) jj_ac_int ?_
  refine jj_putf dX1_init_17 fw1_15 rfl (Nat.le_of_ble_eq_true rfl) rfl rfl rfl ?_
  refine jj_eq (hh := [.inl (5, [.ref 1, .ref 6, .ref 9, .ref 13, .ref 16, .ref 19, .null, .null]), .inl (2, [.ref 2, .int 0, .int 0, .int 0, .ref 3, .ref 4, .ref 5, .int 0]), .inr (.inl (jv 200 jz0)), .inr (.inl (jv 12 jz0)), .inr (.inl (jv 12 jz0)), .inr (.inl (jv 12 jz0)), .inl (3, [.ref 7, .ref 8]), .inr (.inl (jv 720 (lgG 60))), .inr (.inl (jv 12 (lgA 60))), .inl (4, [.ref 10, .ref 11, .ref 12, .int 0, .int 0, .int 0, .int 0, .int 0, .int 0]), .inr (.inl (jv 12 (jF (fun f => nI (jb_al f)) jz0 12))), .inr (.inl (jv 12 jz0)), .inr (.inl (jv 12 jz0)), .inl (1, [.ref 14, .ref 15]), .inr (.inr (.inr (jv 12 jzl))), .inr (.inr (.inr (jv 12 jzl))), .inl (0, [.ref 17, .ref 18, .int 0, .int 0, .int 0, .int 0]), .inr (.inl (jv 12 jz0)), .inr (.inl (jv 12 jz0)), .inl (0, [.ref 20, .ref 21, .int 0, .int 0, .int 0, .int 0]), .inr (.inl (jv 12 jz0)), .inr (.inl (jv 12 jz0)), .inl (0, [.ref 23, .ref 24, .int 0, .int 0, .int 0, .int 0]), .inr (.inl (jv 12 jz0)), .inr (.inl (jv 12 jz0))]) rfl rfl rfl rfl ?_
  exact jj_leaf dX1_init_20 rfl rfl
set_option maxRecDepth 100000 in
set_option maxHeartbeats 4000000 in
theorem ev1_init_3 {G : jj_G}  : jj_Ev G m1_init 1 [.ref 25] ([.inl (5, [.ref 1, .ref 6, .ref 9, .ref 13, .ref 16, .ref 19, .ref 22, .null]), .inl (2, [.ref 2, .int 0, .int 0, .int 0, .ref 3, .ref 4, .ref 5, .int 0]), .inr (.inl (jv 200 jz0)), .inr (.inl (jv 12 jz0)), .inr (.inl (jv 12 jz0)), .inr (.inl (jv 12 jz0)), .inl (3, [.ref 7, .ref 8]), .inr (.inl (jv 720 (lgG 60))), .inr (.inl (jv 12 (lgA 60))), .inl (4, [.ref 10, .ref 11, .ref 12, .int 0, .int 0, .int 0, .int 0, .int 0, .int 0]), .inr (.inl (jv 12 (jF (fun f => nI (jb_al f)) jz0 12))), .inr (.inl (jv 12 jz0)), .inr (.inl (jv 12 jz0)), .inl (1, [.ref 14, .ref 15]), .inr (.inr (.inr (jv 12 jzl))), .inr (.inr (.inr (jv 12 jzl))), .inl (0, [.ref 17, .ref 18, .int 0, .int 0, .int 0, .int 0]), .inr (.inl (jv 12 jz0)), .inr (.inl (jv 12 jz0)), .inl (0, [.ref 20, .ref 21, .int 0, .int 0, .int 0, .int 0]), .inr (.inl (jv 12 jz0)), .inr (.inl (jv 12 jz0)), .inl (0, [.ref 23, .ref 24, .int 0, .int 0, .int 0, .int 0]), .inr (.inl (jv 12 jz0)), .inr (.inl (jv 12 jz0)), .inl (0, [.null, .null, .int 0, .int 0, .int 0, .int 0])]) 2 24 (none) ([.inl (5, [.ref 1, .ref 6, .ref 9, .ref 13, .ref 16, .ref 19, .ref 22, .null]), .inl (2, [.ref 2, .int 0, .int 0, .int 0, .ref 3, .ref 4, .ref 5, .int 0]), .inr (.inl (jv 200 jz0)), .inr (.inl (jv 12 jz0)), .inr (.inl (jv 12 jz0)), .inr (.inl (jv 12 jz0)), .inl (3, [.ref 7, .ref 8]), .inr (.inl (jv 720 (lgG 60))), .inr (.inl (jv 12 (lgA 60))), .inl (4, [.ref 10, .ref 11, .ref 12, .int 0, .int 0, .int 0, .int 0, .int 0, .int 0]), .inr (.inl (jv 12 (jF (fun f => nI (jb_al f)) jz0 12))), .inr (.inl (jv 12 jz0)), .inr (.inl (jv 12 jz0)), .inl (1, [.ref 14, .ref 15]), .inr (.inr (.inr (jv 12 jzl))), .inr (.inr (.inr (jv 12 jzl))), .inl (0, [.ref 17, .ref 18, .int 0, .int 0, .int 0, .int 0]), .inr (.inl (jv 12 jz0)), .inr (.inl (jv 12 jz0)), .inl (0, [.ref 20, .ref 21, .int 0, .int 0, .int 0, .int 0]), .inr (.inl (jv 12 jz0)), .inr (.inl (jv 12 jz0)), .inl (0, [.ref 23, .ref 24, .int 0, .int 0, .int 0, .int 0]), .inr (.inl (jv 12 jz0)), .inr (.inl (jv 12 jz0)), .inl (0, [.ref 26, .ref 27, .int 0, .int 0, .int 0, .int 0]), .inr (.inl (jv 12 jz0)), .inr (.inl (jv 12 jz0))]) := by
  refine jj_Ev_of (lo := [some (.ref 25)]) (by decide +kernel) (Nat.le_of_ble_eq_true rfl) rfl (by trivial) ?_
  refine jj_aload_n dX1_init_0 rfl ?_
  refine jj_obj dX1_init_1 ml1_3 jj_ob1 jj_ob2 (by decide) (Nat.le_of_ble_eq_true rfl) ?_
  refine jj_aload_n dX1_init_4 rfl ?_
  refine jj_bipush (v := 12) dX1_init_5 (by decide) ?_
  refine jj_newaI (N := 12) dX1_init_7 (by decide) (by decide) (by decide) (jv_hI _ 12) (by decide) jj_ac_int ?_
  refine jj_putf dX1_init_9 fw1_9 rfl (Nat.le_of_ble_eq_true rfl) rfl rfl rfl ?_
  refine jj_eq (hh := [.inl (5, [.ref 1, .ref 6, .ref 9, .ref 13, .ref 16, .ref 19, .ref 22, .null]), .inl (2, [.ref 2, .int 0, .int 0, .int 0, .ref 3, .ref 4, .ref 5, .int 0]), .inr (.inl (jv 200 jz0)), .inr (.inl (jv 12 jz0)), .inr (.inl (jv 12 jz0)), .inr (.inl (jv 12 jz0)), .inl (3, [.ref 7, .ref 8]), .inr (.inl (jv 720 (lgG 60))), .inr (.inl (jv 12 (lgA 60))), .inl (4, [.ref 10, .ref 11, .ref 12, .int 0, .int 0, .int 0, .int 0, .int 0, .int 0]), .inr (.inl (jv 12 (jF (fun f => nI (jb_al f)) jz0 12))), .inr (.inl (jv 12 jz0)), .inr (.inl (jv 12 jz0)), .inl (1, [.ref 14, .ref 15]), .inr (.inr (.inr (jv 12 jzl))), .inr (.inr (.inr (jv 12 jzl))), .inl (0, [.ref 17, .ref 18, .int 0, .int 0, .int 0, .int 0]), .inr (.inl (jv 12 jz0)), .inr (.inl (jv 12 jz0)), .inl (0, [.ref 20, .ref 21, .int 0, .int 0, .int 0, .int 0]), .inr (.inl (jv 12 jz0)), .inr (.inl (jv 12 jz0)), .inl (0, [.ref 23, .ref 24, .int 0, .int 0, .int 0, .int 0]), .inr (.inl (jv 12 jz0)), .inr (.inl (jv 12 jz0)), .inl (0, [.ref 26, .null, .int 0, .int 0, .int 0, .int 0]), .inr (.inl (jv 12 jz0))]) rfl rfl rfl rfl ?_
  refine jj_aload_n dX1_init_12 rfl ?_
  refine jj_bipush (v := 12) dX1_init_13 (by decide) ?_
  refine jj_newaI (N := 12) dX1_init_15 (by decide) (by decide) (by decide) (jv_hI _ 12) (by decide) jj_ac_int ?_
  refine jj_putf dX1_init_17 fw1_15 rfl (Nat.le_of_ble_eq_true rfl) rfl rfl rfl ?_
  refine jj_eq (hh := [.inl (5, [.ref 1, .ref 6, .ref 9, .ref 13, .ref 16, .ref 19, .ref 22, .null]), .inl (2, [.ref 2, .int 0, .int 0, .int 0, .ref 3, .ref 4, .ref 5, .int 0]), .inr (.inl (jv 200 jz0)), .inr (.inl (jv 12 jz0)), .inr (.inl (jv 12 jz0)), .inr (.inl (jv 12 jz0)), .inl (3, [.ref 7, .ref 8]), .inr (.inl (jv 720 (lgG 60))), .inr (.inl (jv 12 (lgA 60))), .inl (4, [.ref 10, .ref 11, .ref 12, .int 0, .int 0, .int 0, .int 0, .int 0, .int 0]), .inr (.inl (jv 12 (jF (fun f => nI (jb_al f)) jz0 12))), .inr (.inl (jv 12 jz0)), .inr (.inl (jv 12 jz0)), .inl (1, [.ref 14, .ref 15]), .inr (.inr (.inr (jv 12 jzl))), .inr (.inr (.inr (jv 12 jzl))), .inl (0, [.ref 17, .ref 18, .int 0, .int 0, .int 0, .int 0]), .inr (.inl (jv 12 jz0)), .inr (.inl (jv 12 jz0)), .inl (0, [.ref 20, .ref 21, .int 0, .int 0, .int 0, .int 0]), .inr (.inl (jv 12 jz0)), .inr (.inl (jv 12 jz0)), .inl (0, [.ref 23, .ref 24, .int 0, .int 0, .int 0, .int 0]), .inr (.inl (jv 12 jz0)), .inr (.inl (jv 12 jz0)), .inl (0, [.ref 26, .ref 27, .int 0, .int 0, .int 0, .int 0]), .inr (.inl (jv 12 jz0)), .inr (.inl (jv 12 jz0))]) rfl rfl rfl rfl ?_
  exact jj_leaf dX1_init_20 rfl rfl
def hpT (go ah : Nat → Int32) : List jj_C := [.inl (5, [.ref 1, .null, .null, .null, .null, .null, .null, .null]), .inl (2, [.ref 2, .int 0, .int 0, .int 0, .ref 3, .ref 4, .ref 5, .int 0]), .inr (.inl (jv 200 jz0)), .inr (.inl (jv 12 jz0)), .inr (.inl (jv 12 jz0)), .inr (.inl (jv 12 jz0)), .inl (3, [.ref 7, .ref 8]), .inr (.inl (jv 720 go)), .inr (.inl (jv 12 ah))]
set_option maxRecDepth 100000 in
set_option maxHeartbeats 4000000 in
theorem ev4_setGoal {G : jj_G} {go ah : Nat → Int32} {t f : Nat} (x : Int32) (ht : t < 60) (hf : f < 12) : jj_Ev G m4_setGoal 1 [.ref 6, .int (nI t), .int (nI f), .int x] (hpT go ah) 0 0 (none) (hpT (jU go (12 * t + f) x) ah) := by
  refine jj_Ev_of (lo := [some (.ref 6), some (.int (nI t)), some (.int (nI f)), some (.int x)]) (by decide +kernel) (Nat.le_of_ble_eq_true rfl) rfl (by trivial) ?_
  refine jj_iload_n dX4_setGoal_0 rfl ?_
  refine jj_callS (M2 := m4_isTurning) dX4_setGoal_1 ml4_47 tm4_isTurning (ev4_isTurning ht) rfl rfl (by omega) (Nat.le_of_ble_eq_true rfl) ?_
  refine jj_if_eq (tgt := 26) dX4_setGoal_4 (by decide) (fun zz => absurd zz (by decide)) (fun _ => ?_)
  refine jj_iload_n dX4_setGoal_7 rfl ?_
  refine jj_callS (M2 := m0_isField) dX4_setGoal_8 ml4_51 tm0_isField (ev0_isField_v hf) rfl rfl (by omega) (Nat.le_of_ble_eq_true rfl) ?_
  refine jj_if_eq (tgt := 26) dX4_setGoal_11 (by decide) (fun zz => absurd zz (by decide)) (fun _ => ?_)
  refine jj_aload_n dX4_setGoal_14 rfl ?_
  refine jj_getf dX4_setGoal_15 fl4_9 rfl rfl ?_
  refine jj_iload_n dX4_setGoal_18 rfl ?_
  refine jj_bipush (v := 12) dX4_setGoal_19 (by decide) ?_
  refine jj_imul dX4_setGoal_21 (by rw [show nI t * 12 = nI t * nI 12 from rfl, j4_mul, Nat.mul_comm]) ?_
  refine jj_iload_n dX4_setGoal_22 rfl ?_
  refine jj_iadd dX4_setGoal_23 (nI_add (12 * t) f) ?_
  refine jj_iload_n dX4_setGoal_24 rfl ?_
  refine jv_iast dX4_setGoal_25 rfl (by omega) (by decide) rfl ?_
  exact jj_leaf dX4_setGoal_26 rfl rfl
set_option maxRecDepth 100000 in
set_option maxHeartbeats 4000000 in
theorem ev4_setAhead {G : jj_G} {go ah : Nat → Int32} {f : Nat} (x : Int32) (hf : f < 12) : jj_Ev G m4_setAhead 0 [.ref 6, .int (nI f), .int x] (hpT go ah) 0 0 (none) (hpT go (jU ah f x)) := by
  refine jj_Ev_of (lo := [some (.ref 6), some (.int (nI f)), some (.int x)]) (by decide +kernel) (Nat.le_of_ble_eq_true rfl) rfl (by trivial) ?_
  refine jj_iload_n dX4_setAhead_0 rfl ?_
  refine jj_if_lt (tgt := 20) dX4_setAhead_1 (by decide) (fun zz => absurd zz (jb_lt0 (by omega))) (fun _ => ?_)
  refine jj_iload_n dX4_setAhead_4 rfl ?_
  refine jj_aload_n dX4_setAhead_5 rfl ?_
  refine jj_getf dX4_setAhead_6 fl4_15 rfl rfl ?_
  refine jv_alen_i (v := 12) dX4_setAhead_9 rfl rfl ?_
  refine jj_icmp_ge (tgt := 20) dX4_setAhead_10 (by decide) (fun zz => absurd zz (jb_ge hf (by decide))) (fun _ => ?_)
  refine jj_aload_n dX4_setAhead_13 rfl ?_
  refine jj_getf dX4_setAhead_14 fl4_15 rfl rfl ?_
  refine jj_iload_n dX4_setAhead_17 rfl ?_
  refine jj_iload_n dX4_setAhead_18 rfl ?_
  refine jv_iast dX4_setAhead_19 rfl (hf) (by decide) rfl ?_
  exact jj_leaf dX4_setAhead_20 rfl rfl
set_option maxRecDepth 100000 in
set_option maxHeartbeats 4000000 in
theorem ev4_goal_p {G : jj_G} {go ah : Nat → Int32} {t f : Nat} (ht : t < 60) (hf : f < 12) : jj_Ev G m4_goal 1 [.ref 6, .int (nI t), .int (nI f)] (hpT go ah) 0 0 (some (.int (go (12 * t + f)))) (hpT go ah) := by
  refine jj_Ev_of (lo := [some (.ref 6), some (.int (nI t)), some (.int (nI f))]) (by decide +kernel) (Nat.le_of_ble_eq_true rfl) rfl (by trivial) ?_
  refine jj_iload_n dX4_goal_0 rfl ?_
  refine jj_callS (M2 := m4_isTurning) dX4_goal_1 ml4_47 tm4_isTurning (ev4_isTurning ht) rfl rfl (by omega) (Nat.le_of_ble_eq_true rfl) ?_
  refine jj_if_eq (tgt := 14) dX4_goal_4 (by decide) (fun zz => absurd zz (by decide)) (fun _ => ?_)
  refine jj_iload_n dX4_goal_7 rfl ?_
  refine jj_callS (M2 := m0_isField) dX4_goal_8 ml4_51 tm0_isField (ev0_isField_v hf) rfl rfl (by omega) (Nat.le_of_ble_eq_true rfl) ?_
  refine jj_if_ne (tgt := 17) dX4_goal_11 (by decide) (fun _ => ?_) (fun zz => absurd zz (by decide))
  refine jj_aload_n dX4_goal_17 rfl ?_
  refine jj_getf dX4_goal_18 fl4_9 rfl rfl ?_
  refine jj_iload_n dX4_goal_21 rfl ?_
  refine jj_bipush (v := 12) dX4_goal_22 (by decide) ?_
  refine jj_imul dX4_goal_24 (by rw [show nI t * 12 = nI t * nI 12 from rfl, j4_mul, Nat.mul_comm]) ?_
  refine jj_iload_n dX4_goal_25 rfl ?_
  refine jj_iadd dX4_goal_26 (nI_add (12 * t) f) ?_
  refine jv_iald dX4_goal_27 rfl (by omega) (by decide) ?_
  exact jj_leaf dX4_goal_28 rfl rfl
set_option maxRecDepth 100000 in
set_option maxHeartbeats 4000000 in
theorem ev4_lay {G : jj_G} {go ah : Nat → Int32} {a s : Nat} (ha : a < 12) (hs : s < 5) : jj_Ev G m4_lay 3 [.ref 6, .int (nI a), .int (nI s)] (hpT go ah) 0 0 (none) (hpT (lg go (a * 5 + s) 12) (jF (fun f => nI (ja (a * 5 + s) f)) ah 12)) := by
  refine jj_Ev_of (lo := [some (.ref 6), some (.int (nI a)), some (.int (nI s)), none, none, none, none, none]) (by decide +kernel) (Nat.le_of_ble_eq_true rfl) rfl (by trivial) ?_
  have ht : a * 5 + s < 60 := by omega
  obtain ⟨l1, l2⟩ := ly_1 (a * 5 + s) ht
  generalize hte : a * 5 + s = t at ht l1 l2 ⊢
  have la : jg t 0 = a := by rw [l2]; omega
  have ls : ja t 0 = s := by rw [l1]; omega
  have L : ∀ k, k ≤ 12 → 1 ≤ k → jj_Go G m4_lay 3 22 [some (.ref 6), some (.int (nI a)), some (.int (nI s)), some (.int (nI t)), some (.int (nI k)), none, none, none] [] (hpT (lg go t k) (jF (fun f => nI (ja t f)) ah k)) 0 0 (none) (hpT (lg go t 12) (jF (fun f => nI (ja t f)) ah 12)) := by
    refine jj_up 12 (fun k hk ih => ?_) ?_
    · intro hk1
      have ih := ih (by omega)
      have q2 := ly_2 k hk hk1
      obtain ⟨q3, q4, q5⟩ := ly_3 t ht k hk hk1
      obtain ⟨q6, q7⟩ := ly_4 k hk hk1
      have hl := jb_s_lt k hk 0 (by decide)
      have ge := lg_at go (t := t) (k := k) q2
      have gl := jg_lt t ht _ hl
      have gk := jg_lt t ht k hk
      have hu : (ja t (jb_s k 0) + jb_sdN (jb_s k 0) k) % 5 < 5 := Nat.mod_lt _ (by decide)
      refine jj_iload dX4_lay_22 rfl ?_
      refine jj_aload_n dX4_lay_24 rfl ?_
      refine jj_getf dX4_lay_25 fl4_15 rfl rfl ?_
      refine jv_alen_i (v := 12) dX4_lay_28 rfl rfl ?_
      refine jj_icmp_ge (tgt := 113) dX4_lay_29 (by decide) (fun zz => absurd zz (jb_ge hk (by decide))) (fun _ => ?_)
      refine jj_iload dX4_lay_32 rfl ?_
      refine jj_iconst (v := 0) dX4_lay_34 (by decide) ?_
      refine jj_callS (M2 := m0_across) dX4_lay_35 ml4_33 tm0_across (ev0_across (f := k) (s := 0) hk (by decide)) rfl rfl (by omega) (Nat.le_of_ble_eq_true rfl) ?_
      refine jj_istore dX4_lay_38 (by decide) rfl ?_
      refine jj_iload dX4_lay_40 rfl ?_
      refine jj_if_lt (tgt := 107) dX4_lay_42 (by decide) (fun zz => absurd zz (nI_pos (by omega))) (fun _ => ?_)
      refine jj_iload dX4_lay_45 rfl ?_
      refine jj_iload dX4_lay_47 rfl ?_
      refine jj_icmp_ge (tgt := 107) dX4_lay_49 (by decide) (fun zz => absurd zz (nI_ge q2 (by omega))) (fun _ => ?_)
      refine jj_aload_n dX4_lay_52 rfl ?_
      refine jj_iload_n dX4_lay_53 rfl ?_
      refine jj_iload dX4_lay_54 rfl ?_
      refine jj_callV (M2 := m4_goal) dX4_lay_56 ml4_38 tm4_goal (ev4_goal_p ht hl) rfl rfl rfl rfl rfl (by omega) (Nat.le_of_ble_eq_true rfl) ?_
      rw [ge]
      refine jj_istore dX4_lay_59 (by decide) rfl ?_
      refine jj_iload dX4_lay_61 rfl ?_
      refine jj_aload_n dX4_lay_63 rfl ?_
      refine jj_getf dX4_lay_64 fl4_15 rfl rfl ?_
      refine jj_iload dX4_lay_67 rfl ?_
      refine jv_iald dX4_lay_69 rfl (hl) (by decide) ?_
      refine jj_eq (st' := [.int (nI (ja t (jb_s k 0))), .int (nI (jg t (jb_s k 0)))]) rfl rfl (by show [Value.int (jF (fun f => nI (ja t f)) ah k (jb_s k 0)), Value.int (nI (jg t (jb_s k 0)))] = _; rw [jF_in q2]) rfl ?_
      refine jj_iload dX4_lay_70 rfl ?_
      refine jj_iload dX4_lay_72 rfl ?_
      refine jj_callS (M2 := m0_sideTo) dX4_lay_74 ml4_41 tm0_sideTo (ev0_sideTo hl hk) rfl rfl (by omega) (Nat.le_of_ble_eq_true rfl) ?_
      rw [q6]
      refine jj_callS (M2 := m0_on) dX4_lay_77 ml4_44 tm0_on (ev0_on q3 q7) rfl rfl (by omega) (Nat.le_of_ble_eq_true rfl) ?_
      refine jj_callS (M2 := m0_across) dX4_lay_80 ml4_33 tm0_across (ev0_across gl hu) rfl rfl (by omega) (Nat.le_of_ble_eq_true rfl) ?_
      rw [q4]
      refine jj_istore dX4_lay_83 (by decide) rfl ?_
      refine jj_aload_n dX4_lay_85 rfl ?_
      refine jj_iload_n dX4_lay_86 rfl ?_
      refine jj_iload dX4_lay_87 rfl ?_
      refine jj_iload dX4_lay_89 rfl ?_
      refine jj_callV (M2 := m4_setGoal) dX4_lay_91 ml4_26 tm4_setGoal (ev4_setGoal (nI (jg t k)) ht hk) rfl rfl rfl rfl rfl (by omega) (Nat.le_of_ble_eq_true rfl) ?_
      rw [lg_s]
      refine jj_aload_n dX4_lay_94 rfl ?_
      refine jj_iload dX4_lay_95 rfl ?_
      refine jj_iload dX4_lay_97 rfl ?_
      refine jj_iload dX4_lay_99 rfl ?_
      refine jj_callS (M2 := m0_sideTo) dX4_lay_101 ml4_41 tm0_sideTo (ev0_sideTo gk gl) rfl rfl (by omega) (Nat.le_of_ble_eq_true rfl) ?_
      rw [q5]
      refine jj_callV (M2 := m4_setAhead) dX4_lay_104 ml4_30 tm4_setAhead (ev4_setAhead (nI (ja t k)) hk) rfl rfl rfl rfl rfl (by omega) (Nat.le_of_ble_eq_true rfl) ?_
      refine jj_iinc dX4_lay_107 rfl (jb_i k) (by decide) rfl ?_
      refine jj_goto (tgt := 22) dX4_lay_110 (by decide) ?_
      exact jj_keep [true, true, true, true, true, false, false, false] (jj_eq rfl rfl rfl (by rw [← jF_s' (f := fun f => nI (ja t f)) rfl]) ih)
    · intro _
      refine jj_iload dX4_lay_22 rfl ?_
      refine jj_aload_n dX4_lay_24 rfl ?_
      refine jj_getf dX4_lay_25 fl4_15 rfl rfl ?_
      refine jv_alen_i (v := 12) dX4_lay_28 rfl rfl ?_
      refine jj_icmp_ge (tgt := 113) dX4_lay_29 (by decide) (fun _ => ?_) (fun zz => absurd (jb_ge' (n := 12) (by decide)) zz)
      exact jj_leaf dX4_lay_113 rfl rfl
  refine jj_iload_n dX4_lay_0 rfl ?_
  refine jj_iload_n dX4_lay_1 rfl ?_
  refine jj_callS (M2 := m4_number) dX4_lay_2 ml4_22 tm4_number (ev4_number) rfl rfl (by omega) (Nat.le_of_ble_eq_true rfl) ?_
  rw [hte]
  refine jj_istore_n dX4_lay_5 rfl (by decide) rfl ?_
  refine jj_aload_n dX4_lay_6 rfl ?_
  refine jj_iload_n dX4_lay_7 rfl ?_
  refine jj_iconst (v := nI 0) dX4_lay_8 (by decide) ?_
  refine jj_iload_n dX4_lay_9 rfl ?_
  refine jj_callV (M2 := m4_setGoal) dX4_lay_10 ml4_26 tm4_setGoal (ev4_setGoal (nI a) ht (by decide)) rfl rfl rfl rfl rfl (by omega) (Nat.le_of_ble_eq_true rfl) ?_
  refine jj_aload_n dX4_lay_13 rfl ?_
  refine jj_iconst (v := nI 0) dX4_lay_14 (by decide) ?_
  refine jj_iload_n dX4_lay_15 rfl ?_
  refine jj_callV (M2 := m4_setAhead) dX4_lay_16 ml4_30 tm4_setAhead (ev4_setAhead (nI s) (by decide)) rfl rfl rfl rfl rfl (by omega) (Nat.le_of_ble_eq_true rfl) ?_
  refine jj_iconst (v := nI 1) dX4_lay_19 (by decide) ?_
  refine jj_istore dX4_lay_20 (by decide) rfl ?_
  refine jj_eq rfl rfl rfl ?_ (L 1 (by decide) (by decide))
  rw [← lg_s go t 0, ← jF_s' (k := 0) (f := fun f => nI (ja t f)) rfl, la, ls, jF_0]
  show _ = hpT (jU (lg go t 0) (12 * t + 0) (nI a)) (jU ah 0 (nI s))
  have e : lg go t 0 = go := funext fun j => if_neg (by omega)
  rw [e]
set_option maxRecDepth 100000 in
set_option maxHeartbeats 4000000 in
theorem ev4_init {G : jj_G}  : jj_Ev G m4_init 4 [.ref 6] ([.inl (5, [.ref 1, .null, .null, .null, .null, .null, .null, .null]), .inl (2, [.ref 2, .int 0, .int 0, .int 0, .ref 3, .ref 4, .ref 5, .int 0]), .inr (.inl (jv 200 jz0)), .inr (.inl (jv 12 jz0)), .inr (.inl (jv 12 jz0)), .inr (.inl (jv 12 jz0)), .inl (3, [.null, .null])]) 2 732 (none) (hpT (lgG 60) (lgA 60)) := by
  refine jj_Ev_of (lo := [some (.ref 6), none, none]) (by decide +kernel) (Nat.le_of_ble_eq_true rfl) rfl (by trivial) ?_
  have L1 : ∀ a, a < 12 → jj_Go G m4_init 4 48 [some (.ref 6), some (.int (nI a)), none] [] (hpT (lgG ((a + 1) * 5)) (lgA ((a + 1) * 5))) 0 0 (none) (hpT (lgG 60) (lgA 60)) → ∀ s, s ≤ 5 → jj_Go G m4_init 4 31 [some (.ref 6), some (.int (nI a)), some (.int (nI s))] [] (hpT (lgG (a * 5 + s)) (lgA (a * 5 + s))) 0 0 (none) (hpT (lgG 60) (lgA 60)) := by
    intro a ha K
    refine jj_up 5 (fun s hs ih => ?_) ?_
    · have e : hpT (lg (lgG (a * 5 + s)) (a * 5 + s) 12) (jF (fun f => nI (ja (a * 5 + s) f)) (lgA (a * 5 + s)) 12) = hpT (lgG (a * 5 + (s + 1))) (lgA (a * 5 + (s + 1))) := rfl
      have il := ev4_lay (G := G) (go := lgG (a * 5 + s)) (ah := lgA (a * 5 + s)) ha hs
      rw [e] at il
      refine jj_iload_n dX4_init_31 rfl ?_
      refine jj_iconst (v := 5) dX4_init_32 (by decide) ?_
      refine jj_icmp_ge (tgt := 48) dX4_init_33 (by decide) (fun zz => absurd zz (jb_ge hs (by decide))) (fun _ => ?_)
      refine jj_aload_n dX4_init_36 rfl ?_
      refine jj_iload_n dX4_init_37 rfl ?_
      refine jj_iload_n dX4_init_38 rfl ?_
      refine jj_callV (M2 := m4_lay) dX4_init_39 ml4_18 tm4_lay (il) rfl rfl rfl rfl rfl (by omega) (Nat.le_of_ble_eq_true rfl) ?_
      refine jj_iinc dX4_init_42 rfl (jb_i s) (by decide) rfl ?_
      refine jj_goto (tgt := 31) dX4_init_45 (by decide) ?_
      exact ih
    · skip
      refine jj_iload_n dX4_init_31 rfl ?_
      refine jj_iconst (v := 5) dX4_init_32 (by decide) ?_
      refine jj_icmp_ge (tgt := 48) dX4_init_33 (by decide) (fun _ => ?_) (fun zz => absurd (jb_ge' (n := 5) (by decide)) zz)
      exact jj_keep [true, true, false] (jj_eq rfl rfl rfl (by rw [show (a + 1) * 5 = a * 5 + 5 by omega]) K)
  have L2 : ∀ a, a ≤ 12 → jj_Go G m4_init 4 23 [some (.ref 6), some (.int (nI a)), none] [] (hpT (lgG (a * 5)) (lgA (a * 5))) 0 0 (none) (hpT (lgG 60) (lgA 60)) := by
    refine jj_up 12 (fun a ha ih => ?_) ?_
    · have K := L1 a ha (by
        refine jj_iinc dX4_init_48 rfl (jb_i a) (by decide) rfl ?_
        refine jj_goto (tgt := 23) dX4_init_51 (by decide) ?_
        exact ih) 0 (by decide)
      refine jj_iload_n dX4_init_23 rfl ?_
      refine jj_bipush (v := 12) dX4_init_24 (by decide) ?_
      refine jj_icmp_ge (tgt := 54) dX4_init_26 (by decide) (fun zz => absurd zz (jb_ge ha (by decide))) (fun _ => ?_)
      refine jj_iconst (v := nI 0) dX4_init_29 (by decide) ?_
      refine jj_istore_n dX4_init_30 rfl (by decide) rfl ?_
      exact K
    · skip
      refine jj_iload_n dX4_init_23 rfl ?_
      refine jj_bipush (v := 12) dX4_init_24 (by decide) ?_
      refine jj_icmp_ge (tgt := 54) dX4_init_26 (by decide) (fun _ => ?_) (fun zz => absurd (jb_ge' (n := 12) (by decide)) zz)
      exact jj_leaf dX4_init_54 rfl rfl
  refine jj_aload_n dX4_init_0 rfl ?_
  refine jj_obj dX4_init_1 ml4_3 jj_ob1 jj_ob2 (by decide) (Nat.le_of_ble_eq_true rfl) ?_
  refine jj_aload_n dX4_init_4 rfl ?_
  refine jj_sipush (v := 720) dX4_init_5 (by decide) ?_
  refine jj_newaI (N := 720) dX4_init_8 (by decide) (by decide) (by decide) (jv_hI _ 720) (by decide) jj_ac_int ?_
  refine jj_putf dX4_init_10 fw4_9 rfl (Nat.le_of_ble_eq_true rfl) rfl rfl rfl ?_
  refine jj_eq (hh := [.inl (5, [.ref 1, .null, .null, .null, .null, .null, .null, .null]), .inl (2, [.ref 2, .int 0, .int 0, .int 0, .ref 3, .ref 4, .ref 5, .int 0]), .inr (.inl (jv 200 jz0)), .inr (.inl (jv 12 jz0)), .inr (.inl (jv 12 jz0)), .inr (.inl (jv 12 jz0)), .inl (3, [.ref 7, .null]), .inr (.inl (jv 720 jz0))]) rfl rfl rfl rfl ?_
  refine jj_aload_n dX4_init_13 rfl ?_
  refine jj_bipush (v := 12) dX4_init_14 (by decide) ?_
  refine jj_newaI (N := 12) dX4_init_16 (by decide) (by decide) (by decide) (jv_hI _ 12) (by decide) jj_ac_int ?_
  refine jj_putf dX4_init_18 fw4_15 rfl (Nat.le_of_ble_eq_true rfl) rfl rfl rfl ?_
  refine jj_eq (hh := [.inl (5, [.ref 1, .null, .null, .null, .null, .null, .null, .null]), .inl (2, [.ref 2, .int 0, .int 0, .int 0, .ref 3, .ref 4, .ref 5, .int 0]), .inr (.inl (jv 200 jz0)), .inr (.inl (jv 12 jz0)), .inr (.inl (jv 12 jz0)), .inr (.inl (jv 12 jz0)), .inl (3, [.ref 7, .ref 8]), .inr (.inl (jv 720 jz0)), .inr (.inl (jv 12 jz0))]) rfl rfl rfl rfl ?_
  refine jj_iconst (v := nI 0) dX4_init_21 (by decide) ?_
  refine jj_istore_n dX4_init_22 rfl (by decide) rfl ?_
  exact L2 0 (by decide)
def hpW (op : Nat → Int32) : List jj_C := [.inl (5, [.ref 1, .ref 6, .null, .null, .null, .null, .null, .null]), .inl (2, [.ref 2, .int 0, .int 0, .int 0, .ref 3, .ref 4, .ref 5, .int 0]), .inr (.inl (jv 200 jz0)), .inr (.inl (jv 12 jz0)), .inr (.inl (jv 12 jz0)), .inr (.inl (jv 12 jz0)), .inl (3, [.ref 7, .ref 8]), .inr (.inl (jv 720 (lgG 60))), .inr (.inl (jv 12 (lgA 60))), .inl (4, [.ref 10, .ref 11, .ref 12, .int 0, .int 0, .int 0, .int 0, .int 0, .int 0]), .inr (.inl (jv 12 op)), .inr (.inl (jv 12 jz0)), .inr (.inl (jv 12 jz0))]
set_option maxRecDepth 100000 in
set_option maxHeartbeats 4000000 in
theorem ev5_forgetFound_p {G : jj_G} {op : Nat → Int32} : jj_Ev G m5_forgetFound 0 [.ref 9] (hpW op) 0 0 (none) (hpW op) := by
  refine jj_Ev_of (lo := [some (.ref 9)]) (by decide +kernel) (Nat.le_of_ble_eq_true rfl) rfl (by trivial) ?_
  refine jj_aload_n dX5_forgetFound_0 rfl ?_
  refine jj_iconst (v := 0) dX5_forgetFound_1 (by decide) ?_
  refine jj_putf dX5_forgetFound_2 (fw5_33 _) rfl (Nat.le_of_ble_eq_true rfl) rfl rfl rfl ?_
  refine jj_aload_n dX5_forgetFound_5 rfl ?_
  refine jj_iconst (v := 0) dX5_forgetFound_6 (by decide) ?_
  refine jj_putf dX5_forgetFound_7 (fw5_37 _) rfl (Nat.le_of_ble_eq_true rfl) rfl rfl rfl ?_
  exact jj_leaf dX5_forgetFound_10 rfl rfl
set_option maxRecDepth 100000 in
set_option maxHeartbeats 4000000 in
theorem ev5_clear_p {G : jj_G} {op : Nat → Int32} : jj_Ev G m5_clear 3 [.ref 9] (hpW op) 0 0 (none) (hpW (jF (fun f => nI (jb_al f)) op 12)) := by
  refine jj_Ev_of (lo := [some (.ref 9), none]) (by decide +kernel) (Nat.le_of_ble_eq_true rfl) rfl (by trivial) ?_
  have L : ∀ k, k ≤ 12 → jj_Go G m5_clear 3 2 [some (.ref 9), some (.int (nI k))] [] (hpW (jF (fun f => nI (jb_al f)) op k)) 0 0 (none) (hpW (jF (fun f => nI (jb_al f)) op 12)) := by
    refine jj_up 12 (fun k hk ih => ?_) ?_
    · refine jj_iload_n dX5_clear_2 rfl ?_
      refine jj_aload_n dX5_clear_3 rfl ?_
      refine jj_getf dX5_clear_4 fl5_9 rfl rfl ?_
      refine jv_alen_i (v := 12) dX5_clear_7 rfl rfl ?_
      refine jj_icmp_ge (tgt := 27) dX5_clear_8 (by decide) (fun zz => absurd zz (jb_ge hk (by decide))) (fun _ => ?_)
      refine jj_aload_n dX5_clear_11 rfl ?_
      refine jj_getf dX5_clear_12 fl5_9 rfl rfl ?_
      refine jj_iload_n dX5_clear_15 rfl ?_
      refine jj_iload_n dX5_clear_16 rfl ?_
      refine jj_callS (M2 := m0_allBeside) dX5_clear_17 ml5_24 tm0_allBeside (ev0_allBeside hk) rfl rfl (by omega) (Nat.le_of_ble_eq_true rfl) ?_
      refine jv_iast dX5_clear_20 rfl (hk) (by decide) rfl ?_
      refine jj_iinc dX5_clear_21 rfl (jb_i k) (by decide) rfl ?_
      refine jj_goto (tgt := 2) dX5_clear_24 (by decide) ?_
      exact jj_eq rfl rfl rfl (by rw [← jF_s' (f := fun f => nI (jb_al f)) rfl]; rfl) ih
    · refine jj_iload_n dX5_clear_2 rfl ?_
      refine jj_aload_n dX5_clear_3 rfl ?_
      refine jj_getf dX5_clear_4 fl5_9 rfl rfl ?_
      refine jv_alen_i (v := 12) dX5_clear_7 rfl rfl ?_
      refine jj_icmp_ge (tgt := 27) dX5_clear_8 (by decide) (fun _ => ?_) (fun zz => absurd (jb_ge' (n := 12) (by decide)) zz)
      refine jj_aload_n dX5_clear_27 rfl ?_
      refine jj_callV (M2 := m5_forgetFound) dX5_clear_28 ml5_30 tm5_forgetFound (ev5_forgetFound_p) rfl rfl rfl rfl rfl (by omega) (Nat.le_of_ble_eq_true rfl) ?_
      exact jj_leaf dX5_clear_31 rfl rfl
  refine jj_iconst (v := nI 0) dX5_clear_0 (by decide) ?_
  refine jj_istore_n dX5_clear_1 rfl (by decide) rfl ?_
  exact jj_eq rfl rfl rfl (by rw [jF_0]) (L 0 (by decide))
set_option maxRecDepth 100000 in
set_option maxHeartbeats 4000000 in
theorem ev5_init {G : jj_G}  : jj_Ev G m5_init 4 [.ref 9] ([.inl (5, [.ref 1, .ref 6, .null, .null, .null, .null, .null, .null]), .inl (2, [.ref 2, .int 0, .int 0, .int 0, .ref 3, .ref 4, .ref 5, .int 0]), .inr (.inl (jv 200 jz0)), .inr (.inl (jv 12 jz0)), .inr (.inl (jv 12 jz0)), .inr (.inl (jv 12 jz0)), .inl (3, [.ref 7, .ref 8]), .inr (.inl (jv 720 (lgG 60))), .inr (.inl (jv 12 (lgA 60))), .inl (4, [.null, .null, .null, .int 0, .int 0, .int 0, .int 0, .int 0, .int 0])]) 3 36 (none) ([.inl (5, [.ref 1, .ref 6, .null, .null, .null, .null, .null, .null]), .inl (2, [.ref 2, .int 0, .int 0, .int 0, .ref 3, .ref 4, .ref 5, .int 0]), .inr (.inl (jv 200 jz0)), .inr (.inl (jv 12 jz0)), .inr (.inl (jv 12 jz0)), .inr (.inl (jv 12 jz0)), .inl (3, [.ref 7, .ref 8]), .inr (.inl (jv 720 (lgG 60))), .inr (.inl (jv 12 (lgA 60))), .inl (4, [.ref 10, .ref 11, .ref 12, .int 0, .int 0, .int 0, .int 0, .int 0, .int 0]), .inr (.inl (jv 12 (jF (fun f => nI (jb_al f)) jz0 12))), .inr (.inl (jv 12 jz0)), .inr (.inl (jv 12 jz0))]) := by
  refine jj_Ev_of (lo := [some (.ref 9)]) (by decide +kernel) (Nat.le_of_ble_eq_true rfl) rfl (by trivial) ?_
  refine jj_aload_n dX5_init_0 rfl ?_
  refine jj_obj dX5_init_1 ml5_3 jj_ob1 jj_ob2 (by decide) (Nat.le_of_ble_eq_true rfl) ?_
  refine jj_aload_n dX5_init_4 rfl ?_
  refine jj_bipush (v := 12) dX5_init_5 (by decide) ?_
  refine jj_newaI (N := 12) dX5_init_7 (by decide) (by decide) (by decide) (jv_hI _ 12) (by decide) jj_ac_int ?_
  refine jj_putf dX5_init_9 fw5_9 rfl (Nat.le_of_ble_eq_true rfl) rfl rfl rfl ?_
  refine jj_eq (hh := [.inl (5, [.ref 1, .ref 6, .null, .null, .null, .null, .null, .null]), .inl (2, [.ref 2, .int 0, .int 0, .int 0, .ref 3, .ref 4, .ref 5, .int 0]), .inr (.inl (jv 200 jz0)), .inr (.inl (jv 12 jz0)), .inr (.inl (jv 12 jz0)), .inr (.inl (jv 12 jz0)), .inl (3, [.ref 7, .ref 8]), .inr (.inl (jv 720 (lgG 60))), .inr (.inl (jv 12 (lgA 60))), .inl (4, [.ref 10, .null, .null, .int 0, .int 0, .int 0, .int 0, .int 0, .int 0]), .inr (.inl (jv 12 jz0))]) rfl rfl rfl rfl ?_
  refine jj_aload_n dX5_init_12 rfl ?_
  refine jj_bipush (v := 12) dX5_init_13 (by decide) ?_
  refine jj_newaI (N := 12) dX5_init_15 (by decide) (by decide) (by decide) (jv_hI _ 12) (by decide) jj_ac_int ?_
  refine jj_putf dX5_init_17 fw5_15 rfl (Nat.le_of_ble_eq_true rfl) rfl rfl rfl ?_
  refine jj_eq (hh := [.inl (5, [.ref 1, .ref 6, .null, .null, .null, .null, .null, .null]), .inl (2, [.ref 2, .int 0, .int 0, .int 0, .ref 3, .ref 4, .ref 5, .int 0]), .inr (.inl (jv 200 jz0)), .inr (.inl (jv 12 jz0)), .inr (.inl (jv 12 jz0)), .inr (.inl (jv 12 jz0)), .inl (3, [.ref 7, .ref 8]), .inr (.inl (jv 720 (lgG 60))), .inr (.inl (jv 12 (lgA 60))), .inl (4, [.ref 10, .ref 11, .null, .int 0, .int 0, .int 0, .int 0, .int 0, .int 0]), .inr (.inl (jv 12 jz0)), .inr (.inl (jv 12 jz0))]) rfl rfl rfl rfl ?_
  refine jj_aload_n dX5_init_20 rfl ?_
  refine jj_bipush (v := 12) dX5_init_21 (by decide) ?_
  refine jj_newaI (N := 12) dX5_init_23 (by decide) (by decide) (by decide) (jv_hI _ 12) (by decide) jj_ac_int ?_
  refine jj_putf dX5_init_25 fw5_18 rfl (Nat.le_of_ble_eq_true rfl) rfl rfl rfl ?_
  refine jj_eq (hh := [.inl (5, [.ref 1, .ref 6, .null, .null, .null, .null, .null, .null]), .inl (2, [.ref 2, .int 0, .int 0, .int 0, .ref 3, .ref 4, .ref 5, .int 0]), .inr (.inl (jv 200 jz0)), .inr (.inl (jv 12 jz0)), .inr (.inl (jv 12 jz0)), .inr (.inl (jv 12 jz0)), .inl (3, [.ref 7, .ref 8]), .inr (.inl (jv 720 (lgG 60))), .inr (.inl (jv 12 (lgA 60))), .inl (4, [.ref 10, .ref 11, .ref 12, .int 0, .int 0, .int 0, .int 0, .int 0, .int 0]), .inr (.inl (jv 12 jz0)), .inr (.inl (jv 12 jz0)), .inr (.inl (jv 12 jz0))]) rfl rfl rfl rfl ?_
  refine jj_aload_n dX5_init_28 rfl ?_
  refine jj_callV (M2 := m5_clear) dX5_init_29 ml5_21 tm5_clear (ev5_clear_p (op := jz0)) rfl rfl rfl rfl rfl (by omega) (Nat.le_of_ble_eq_true rfl) ?_
  exact jj_leaf dX5_init_32 rfl rfl
