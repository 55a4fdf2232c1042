/-! SCENES (i: 0 told, 1 now, 2 and 3 kept) and what a turning's table tells -/
/-- the first k as f, the others as g -/
def jF {α : Type} (f g : Nat → α) (k : Nat) : Nat → α := fun j => if j < k then f j else g j
theorem jF_0 {α : Type} (f g : Nat → α) : jF f g 0 = g := funext fun j => if_neg (Nat.not_lt_zero j)
theorem jF_in {α : Type} {f g : Nat → α} {k j : Nat} (h : j < k) : jF f g k j = f j := if_pos h
theorem jF_out {α : Type} {f g : Nat → α} {k j : Nat} (h : k ≤ j) : jF f g k j = g j := if_neg (Nat.not_lt.mpr h)
theorem jF_s {α : Type} (f g : Nat → α) (k : Nat) : jU (jF f g k) k (f k) = jF f g (k + 1) := by
  funext j
  unfold jU jF
  by_cases h : j = k
  · subst h
    rw [if_pos rfl, if_pos (Nat.lt_succ_self j)]
  · rw [if_neg h]
    by_cases h2 : j < k
    · rw [if_pos h2, if_pos (by omega)]
    · rw [if_neg h2, if_neg (by omega)]
theorem jF_s' {α : Type} {f g : Nat → α} {k : Nat} {x : α} (h : f k = x) : jU (jF f g k) k x = jF f g (k + 1) := h ▸ jF_s f g k
def j1_all (kd : Nat → Int32) (x : Int32) : Nat → Nat
  | 0 => 0
  | k + 1 => if kd k = x then j1_all kd x k ||| 2 ^ k else j1_all kd x k
theorem j1_all_lt (kd : Nat → Int32) (x : Int32) : ∀ k, k ≤ 12 → j1_all kd x k < 4096 := by
  intro k
  induction k with
  | zero => intro _; exact (by decide : (0 : Nat) < 4096)
  | succ k ih =>
    intro hk
    have h1 := ih (by omega)
    unfold j1_all
    split
    · exact Nat.or_lt_two_pow (n := 12) h1 (Nat.pow_lt_pow_right (by decide) hk)
    · exact h1

set_option maxRecDepth 100000 in
set_option maxHeartbeats 4000000 in
theorem ev1_kindOf_0 {G : jj_G} {s : jj_S} {k : Nat} (hk : k < 12) : jj_Ev G m1_kindOf 0 [.ref 16, .int (nI k)] (jj_m s) 0 0 (some (.int (s0_kd s k))) (jj_m s) := by
  refine jj_Ev_of (lo := [some (.ref 16), some (.int (nI k))]) (by decide +kernel) (Nat.le_of_ble_eq_true rfl) rfl (by trivial) ?_
  refine jj_iload_n dX1_kindOf_0 rfl ?_
  refine jj_if_lt (tgt := 22) dX1_kindOf_1 (by decide) (fun zz => absurd zz (jb_lt0 (by omega))) (fun _ => ?_)
  refine jj_iload_n dX1_kindOf_4 rfl ?_
  refine jj_aload_n dX1_kindOf_5 rfl ?_
  refine jj_getf dX1_kindOf_6 fl1_9 rfl rfl ?_
  refine jv_alen_i (v := 12) dX1_kindOf_9 rfl rfl ?_
  refine jj_icmp_ge (tgt := 22) dX1_kindOf_10 (by decide) (fun zz => absurd zz (jb_ge hk (by decide))) (fun _ => ?_)
  refine jj_aload_n dX1_kindOf_13 rfl ?_
  refine jj_getf dX1_kindOf_14 fl1_9 rfl rfl ?_
  refine jj_iload_n dX1_kindOf_17 rfl ?_
  refine jv_iald dX1_kindOf_18 rfl (hk) (by decide) ?_
  refine jj_goto (tgt := 23) dX1_kindOf_19 (by decide) ?_
  exact jj_leaf dX1_kindOf_23 rfl rfl
set_option maxRecDepth 100000 in
set_option maxHeartbeats 4000000 in
theorem ev1_plant_0 {G : jj_G} {s : jj_S} {k : Nat} (x : Int32) (hk : k < 12) : jj_Ev G m1_plant 0 [.ref 16, .int (nI k), .int x] (jj_m s) 0 0 (none) (jj_m (s0_kdS s (jU (s0_kd s) k x))) := by
  refine jj_Ev_of (lo := [some (.ref 16), some (.int (nI k)), some (.int x)]) (by decide +kernel) (Nat.le_of_ble_eq_true rfl) rfl (by trivial) ?_
  refine jj_iload_n dX1_plant_0 rfl ?_
  refine jj_if_lt (tgt := 20) dX1_plant_1 (by decide) (fun zz => absurd zz (jb_lt0 (by omega))) (fun _ => ?_)
  refine jj_iload_n dX1_plant_4 rfl ?_
  refine jj_aload_n dX1_plant_5 rfl ?_
  refine jj_getf dX1_plant_6 fl1_9 rfl rfl ?_
  refine jv_alen_i (v := 12) dX1_plant_9 rfl rfl ?_
  refine jj_icmp_ge (tgt := 20) dX1_plant_10 (by decide) (fun zz => absurd zz (jb_ge hk (by decide))) (fun _ => ?_)
  refine jj_aload_n dX1_plant_13 rfl ?_
  refine jj_getf dX1_plant_14 fl1_9 rfl rfl ?_
  refine jj_iload_n dX1_plant_17 rfl ?_
  refine jj_iload_n dX1_plant_18 rfl ?_
  refine jv_iast dX1_plant_19 rfl (hk) (by decide) rfl ?_
  exact jj_leaf dX1_plant_20 rfl rfl
set_option maxRecDepth 100000 in
set_option maxHeartbeats 4000000 in
theorem ev1_stand_0 {G : jj_G} {s : jj_S} (x y : Int32) : jj_Ev G m1_stand 0 [.ref 16, .int x, .int y] (jj_m s) 0 0 (none) (jj_m (s0_enS (s0_plS s x) y)) := by
  refine jj_Ev_of (lo := [some (.ref 16), some (.int x), some (.int y)]) (by decide +kernel) (Nat.le_of_ble_eq_true rfl) rfl (by trivial) ?_
  refine jj_aload_n dX1_stand_0 rfl ?_
  refine jj_iload_n dX1_stand_1 rfl ?_
  refine jj_putf dX1_stand_2 (fw1_26 _) rfl (Nat.le_of_ble_eq_true rfl) rfl rfl rfl ?_
  refine jj_aload_n dX1_stand_5 rfl ?_
  refine jj_iload_n dX1_stand_6 rfl ?_
  refine jj_putf dX1_stand_7 (fw1_30 _) rfl (Nat.le_of_ble_eq_true rfl) rfl rfl rfl ?_
  exact jj_leaf dX1_stand_10 rfl rfl
set_option maxRecDepth 100000 in
set_option maxHeartbeats 4000000 in
theorem ev1_kindOf_1 {G : jj_G} {s : jj_S} {k : Nat} (hk : k < 12) : jj_Ev G m1_kindOf 0 [.ref 19, .int (nI k)] (jj_m s) 0 0 (some (.int (s1_kd s k))) (jj_m s) := by
  refine jj_Ev_of (lo := [some (.ref 19), some (.int (nI k))]) (by decide +kernel) (Nat.le_of_ble_eq_true rfl) rfl (by trivial) ?_
  refine jj_iload_n dX1_kindOf_0 rfl ?_
  refine jj_if_lt (tgt := 22) dX1_kindOf_1 (by decide) (fun zz => absurd zz (jb_lt0 (by omega))) (fun _ => ?_)
  refine jj_iload_n dX1_kindOf_4 rfl ?_
  refine jj_aload_n dX1_kindOf_5 rfl ?_
  refine jj_getf dX1_kindOf_6 fl1_9 rfl rfl ?_
  refine jv_alen_i (v := 12) dX1_kindOf_9 rfl rfl ?_
  refine jj_icmp_ge (tgt := 22) dX1_kindOf_10 (by decide) (fun zz => absurd zz (jb_ge hk (by decide))) (fun _ => ?_)
  refine jj_aload_n dX1_kindOf_13 rfl ?_
  refine jj_getf dX1_kindOf_14 fl1_9 rfl rfl ?_
  refine jj_iload_n dX1_kindOf_17 rfl ?_
  refine jv_iald dX1_kindOf_18 rfl (hk) (by decide) ?_
  refine jj_goto (tgt := 23) dX1_kindOf_19 (by decide) ?_
  exact jj_leaf dX1_kindOf_23 rfl rfl
set_option maxRecDepth 100000 in
set_option maxHeartbeats 4000000 in
theorem ev1_plant_1 {G : jj_G} {s : jj_S} {k : Nat} (x : Int32) (hk : k < 12) : jj_Ev G m1_plant 0 [.ref 19, .int (nI k), .int x] (jj_m s) 0 0 (none) (jj_m (s1_kdS s (jU (s1_kd s) k x))) := by
  refine jj_Ev_of (lo := [some (.ref 19), some (.int (nI k)), some (.int x)]) (by decide +kernel) (Nat.le_of_ble_eq_true rfl) rfl (by trivial) ?_
  refine jj_iload_n dX1_plant_0 rfl ?_
  refine jj_if_lt (tgt := 20) dX1_plant_1 (by decide) (fun zz => absurd zz (jb_lt0 (by omega))) (fun _ => ?_)
  refine jj_iload_n dX1_plant_4 rfl ?_
  refine jj_aload_n dX1_plant_5 rfl ?_
  refine jj_getf dX1_plant_6 fl1_9 rfl rfl ?_
  refine jv_alen_i (v := 12) dX1_plant_9 rfl rfl ?_
  refine jj_icmp_ge (tgt := 20) dX1_plant_10 (by decide) (fun zz => absurd zz (jb_ge hk (by decide))) (fun _ => ?_)
  refine jj_aload_n dX1_plant_13 rfl ?_
  refine jj_getf dX1_plant_14 fl1_9 rfl rfl ?_
  refine jj_iload_n dX1_plant_17 rfl ?_
  refine jj_iload_n dX1_plant_18 rfl ?_
  refine jv_iast dX1_plant_19 rfl (hk) (by decide) rfl ?_
  exact jj_leaf dX1_plant_20 rfl rfl
set_option maxRecDepth 100000 in
set_option maxHeartbeats 4000000 in
theorem ev1_stand_1 {G : jj_G} {s : jj_S} (x y : Int32) : jj_Ev G m1_stand 0 [.ref 19, .int x, .int y] (jj_m s) 0 0 (none) (jj_m (s1_enS (s1_plS s x) y)) := by
  refine jj_Ev_of (lo := [some (.ref 19), some (.int x), some (.int y)]) (by decide +kernel) (Nat.le_of_ble_eq_true rfl) rfl (by trivial) ?_
  refine jj_aload_n dX1_stand_0 rfl ?_
  refine jj_iload_n dX1_stand_1 rfl ?_
  refine jj_putf dX1_stand_2 (fw1_26 _) rfl (Nat.le_of_ble_eq_true rfl) rfl rfl rfl ?_
  refine jj_aload_n dX1_stand_5 rfl ?_
  refine jj_iload_n dX1_stand_6 rfl ?_
  refine jj_putf dX1_stand_7 (fw1_30 _) rfl (Nat.le_of_ble_eq_true rfl) rfl rfl rfl ?_
  exact jj_leaf dX1_stand_10 rfl rfl
set_option maxRecDepth 100000 in
set_option maxHeartbeats 4000000 in
theorem ev1_kindOf_2 {G : jj_G} {s : jj_S} {k : Nat} (hk : k < 12) : jj_Ev G m1_kindOf 0 [.ref 22, .int (nI k)] (jj_m s) 0 0 (some (.int (s2_kd s k))) (jj_m s) := by
  refine jj_Ev_of (lo := [some (.ref 22), some (.int (nI k))]) (by decide +kernel) (Nat.le_of_ble_eq_true rfl) rfl (by trivial) ?_
  refine jj_iload_n dX1_kindOf_0 rfl ?_
  refine jj_if_lt (tgt := 22) dX1_kindOf_1 (by decide) (fun zz => absurd zz (jb_lt0 (by omega))) (fun _ => ?_)
  refine jj_iload_n dX1_kindOf_4 rfl ?_
  refine jj_aload_n dX1_kindOf_5 rfl ?_
  refine jj_getf dX1_kindOf_6 fl1_9 rfl rfl ?_
  refine jv_alen_i (v := 12) dX1_kindOf_9 rfl rfl ?_
  refine jj_icmp_ge (tgt := 22) dX1_kindOf_10 (by decide) (fun zz => absurd zz (jb_ge hk (by decide))) (fun _ => ?_)
  refine jj_aload_n dX1_kindOf_13 rfl ?_
  refine jj_getf dX1_kindOf_14 fl1_9 rfl rfl ?_
  refine jj_iload_n dX1_kindOf_17 rfl ?_
  refine jv_iald dX1_kindOf_18 rfl (hk) (by decide) ?_
  refine jj_goto (tgt := 23) dX1_kindOf_19 (by decide) ?_
  exact jj_leaf dX1_kindOf_23 rfl rfl
set_option maxRecDepth 100000 in
set_option maxHeartbeats 4000000 in
theorem ev1_forget_2 {G : jj_G} {s : jj_S}  : jj_Ev G m1_forget 0 [.ref 22] (jj_m s) 0 0 (none) (jj_m (s2_tkS s 0)) := by
  refine jj_Ev_of (lo := [some (.ref 22)]) (by decide +kernel) (Nat.le_of_ble_eq_true rfl) rfl (by trivial) ?_
  refine jj_aload_n dX1_forget_0 rfl ?_
  refine jj_iconst (v := 0) dX1_forget_1 (by decide) ?_
  refine jj_putf dX1_forget_2 (fw1_36 _) rfl (Nat.le_of_ble_eq_true rfl) rfl rfl rfl ?_
  exact jj_leaf dX1_forget_5 rfl rfl
set_option maxRecDepth 100000 in
set_option maxHeartbeats 4000000 in
theorem ev1_isTaken_2 {G : jj_G} {s : jj_S}  (hb : s2_tk s = 0 ∨ s2_tk s = 1) : jj_Ev G m1_isTaken 0 [.ref 22] (jj_m s) 0 0 (some (.int (s2_tk s))) (jj_m s) := by
  refine jj_Ev_of (lo := [some (.ref 22)]) (by decide +kernel) (Nat.le_of_ble_eq_true rfl) rfl hb ?_
  refine jj_aload_n dX1_isTaken_0 rfl ?_
  refine jj_getf dX1_isTaken_1 fl1_36 rfl rfl ?_
  exact jj_leaf dX1_isTaken_4 rfl rfl
set_option maxRecDepth 100000 in
set_option maxHeartbeats 4000000 in
theorem ev1_kindOf_3 {G : jj_G} {s : jj_S} {k : Nat} (hk : k < 12) : jj_Ev G m1_kindOf 0 [.ref 25, .int (nI k)] (jj_m s) 0 0 (some (.int (s3_kd s k))) (jj_m s) := by
  refine jj_Ev_of (lo := [some (.ref 25), some (.int (nI k))]) (by decide +kernel) (Nat.le_of_ble_eq_true rfl) rfl (by trivial) ?_
  refine jj_iload_n dX1_kindOf_0 rfl ?_
  refine jj_if_lt (tgt := 22) dX1_kindOf_1 (by decide) (fun zz => absurd zz (jb_lt0 (by omega))) (fun _ => ?_)
  refine jj_iload_n dX1_kindOf_4 rfl ?_
  refine jj_aload_n dX1_kindOf_5 rfl ?_
  refine jj_getf dX1_kindOf_6 fl1_9 rfl rfl ?_
  refine jv_alen_i (v := 12) dX1_kindOf_9 rfl rfl ?_
  refine jj_icmp_ge (tgt := 22) dX1_kindOf_10 (by decide) (fun zz => absurd zz (jb_ge hk (by decide))) (fun _ => ?_)
  refine jj_aload_n dX1_kindOf_13 rfl ?_
  refine jj_getf dX1_kindOf_14 fl1_9 rfl rfl ?_
  refine jj_iload_n dX1_kindOf_17 rfl ?_
  refine jv_iald dX1_kindOf_18 rfl (hk) (by decide) ?_
  refine jj_goto (tgt := 23) dX1_kindOf_19 (by decide) ?_
  exact jj_leaf dX1_kindOf_23 rfl rfl
set_option maxRecDepth 100000 in
set_option maxHeartbeats 4000000 in
theorem ev1_forget_3 {G : jj_G} {s : jj_S}  : jj_Ev G m1_forget 0 [.ref 25] (jj_m s) 0 0 (none) (jj_m (s3_tkS s 0)) := by
  refine jj_Ev_of (lo := [some (.ref 25)]) (by decide +kernel) (Nat.le_of_ble_eq_true rfl) rfl (by trivial) ?_
  refine jj_aload_n dX1_forget_0 rfl ?_
  refine jj_iconst (v := 0) dX1_forget_1 (by decide) ?_
  refine jj_putf dX1_forget_2 (fw1_36 _) rfl (Nat.le_of_ble_eq_true rfl) rfl rfl rfl ?_
  exact jj_leaf dX1_forget_5 rfl rfl
set_option maxRecDepth 100000 in
set_option maxHeartbeats 4000000 in
theorem ev1_isTaken_3 {G : jj_G} {s : jj_S}  (hb : s3_tk s = 0 ∨ s3_tk s = 1) : jj_Ev G m1_isTaken 0 [.ref 25] (jj_m s) 0 0 (some (.int (s3_tk s))) (jj_m s) := by
  refine jj_Ev_of (lo := [some (.ref 25)]) (by decide +kernel) (Nat.le_of_ble_eq_true rfl) rfl hb ?_
  refine jj_aload_n dX1_isTaken_0 rfl ?_
  refine jj_getf dX1_isTaken_1 fl1_36 rfl rfl ?_
  exact jj_leaf dX1_isTaken_4 rfl rfl
set_option maxRecDepth 100000 in
set_option maxHeartbeats 4000000 in
theorem ev1_place {G : jj_G} {s : jj_S}  : jj_Ev G m1_place 0 [.ref 19] (jj_m s) 0 0 (some (.int (s1_pl s))) (jj_m s) := by
  refine jj_Ev_of (lo := [some (.ref 19)]) (by decide +kernel) (Nat.le_of_ble_eq_true rfl) rfl (by trivial) ?_
  refine jj_aload_n dX1_place_0 rfl ?_
  refine jj_getf dX1_place_1 fl1_26 rfl rfl ?_
  exact jj_leaf dX1_place_4 rfl rfl
set_option maxRecDepth 100000 in
set_option maxHeartbeats 4000000 in
theorem ev1_entry {G : jj_G} {s : jj_S}  : jj_Ev G m1_entry 0 [.ref 19] (jj_m s) 0 0 (some (.int (s1_en s))) (jj_m s) := by
  refine jj_Ev_of (lo := [some (.ref 19)]) (by decide +kernel) (Nat.le_of_ble_eq_true rfl) rfl (by trivial) ?_
  refine jj_aload_n dX1_entry_0 rfl ?_
  refine jj_getf dX1_entry_1 fl1_30 rfl rfl ?_
  exact jj_leaf dX1_entry_4 rfl rfl
set_option maxRecDepth 100000 in
set_option maxHeartbeats 4000000 in
theorem ev1_steps {G : jj_G} {s : jj_S}  : jj_Ev G m1_steps 0 [.ref 19] (jj_m s) 0 0 (some (.int (s1_st s))) (jj_m s) := by
  refine jj_Ev_of (lo := [some (.ref 19)]) (by decide +kernel) (Nat.le_of_ble_eq_true rfl) rfl (by trivial) ?_
  refine jj_aload_n dX1_steps_0 rfl ?_
  refine jj_getf dX1_steps_1 fl1_33 rfl rfl ?_
  exact jj_leaf dX1_steps_4 rfl rfl
set_option maxRecDepth 100000 in
set_option maxHeartbeats 4000000 in
theorem ev1_move {G : jj_G} {s : jj_S} (x y : Int32) : jj_Ev G m1_move 1 [.ref 19, .int x, .int y] (jj_m s) 0 0 (none) (jj_m (s1_stS (s1_enS (s1_plS s x) y) (s1_st s + 1))) := by
  refine jj_Ev_of (lo := [some (.ref 19), some (.int x), some (.int y)]) (by decide +kernel) (Nat.le_of_ble_eq_true rfl) rfl (by trivial) ?_
  refine jj_aload_n dX1_move_0 rfl ?_
  refine jj_iload_n dX1_move_1 rfl ?_
  refine jj_iload_n dX1_move_2 rfl ?_
  refine jj_callV (M2 := m1_stand) dX1_move_3 ml1_18 tm1_stand (ev1_stand_1 (s := s) x y) rfl rfl rfl rfl rfl (by omega) (Nat.le_of_ble_eq_true rfl) ?_
  refine jj_aload_n dX1_move_6 rfl ?_
  refine jj_dup dX1_move_7 rfl ?_
  refine jj_getf dX1_move_8 fl1_33 rfl rfl ?_
  refine jj_iconst (v := 1) dX1_move_11 (by decide) ?_
  refine jj_iadd dX1_move_12 rfl ?_
  refine jj_putf dX1_move_13 (fw1_33 _) rfl (Nat.le_of_ble_eq_true rfl) rfl rfl rfl ?_
  exact jj_leaf dX1_move_16 rfl rfl
set_option maxRecDepth 100000 in
set_option maxHeartbeats 4000000 in
theorem ev1_begin {G : jj_G} {s : jj_S}  : jj_Ev G m1_begin 1 [.ref 16] (jj_m s) 0 0 (none) (jj_m (s0_enS (s0_plS (s0_kdS s (jF (fun _ => (0 : Int32)) (s0_kd s) 12)) 0) 0)) := by
  refine jj_Ev_of (lo := [some (.ref 16), none]) (by decide +kernel) (Nat.le_of_ble_eq_true rfl) rfl (by trivial) ?_
  have L : ∀ k, k ≤ 12 → jj_Go G m1_begin 1 2 [some (.ref 16), some (.int (nI k))] [] (jj_m (s0_kdS s (jF (fun _ => (0 : Int32)) (s0_kd s) k))) 0 0 (none) (jj_m (s0_enS (s0_plS (s0_kdS s (jF (fun _ => (0 : Int32)) (s0_kd s) 12)) 0) 0)) := by
    refine jj_up 12 (fun k hk ih => ?_) ?_
    · refine jj_iload_n dX1_begin_2 rfl ?_
      refine jj_aload_n dX1_begin_3 rfl ?_
      refine jj_getf dX1_begin_4 fl1_9 rfl rfl ?_
      refine jv_alen_i (v := 12) dX1_begin_7 rfl rfl ?_
      refine jj_icmp_ge (tgt := 24) dX1_begin_8 (by decide) (fun zz => absurd zz (jb_ge hk (by decide))) (fun _ => ?_)
      refine jj_aload_n dX1_begin_11 rfl ?_
      refine jj_getf dX1_begin_12 fl1_9 rfl rfl ?_
      refine jj_iload_n dX1_begin_15 rfl ?_
      refine jj_iconst (v := 0) dX1_begin_16 (by decide) ?_
      refine jv_iast dX1_begin_17 rfl (hk) (by decide) rfl ?_
      refine jj_iinc dX1_begin_18 rfl (jb_i k) (by decide) rfl ?_
      refine jj_goto (tgt := 2) dX1_begin_21 (by decide) ?_
      exact jj_eq rfl rfl rfl (by rw [← jF_s' (f := fun _ => (0 : Int32)) rfl]; rfl) ih
    · refine jj_iload_n dX1_begin_2 rfl ?_
      refine jj_aload_n dX1_begin_3 rfl ?_
      refine jj_getf dX1_begin_4 fl1_9 rfl rfl ?_
      refine jv_alen_i (v := 12) dX1_begin_7 rfl rfl ?_
      refine jj_icmp_ge (tgt := 24) dX1_begin_8 (by decide) (fun _ => ?_) (fun zz => absurd (jb_ge' (n := 12) (by decide)) zz)
      refine jj_aload_n dX1_begin_24 rfl ?_
      refine jj_iconst (v := 0) dX1_begin_25 (by decide) ?_
      refine jj_iconst (v := 0) dX1_begin_26 (by decide) ?_
      refine jj_callV (M2 := m1_stand) dX1_begin_27 ml1_18 tm1_stand (ev1_stand_0 (s := s0_kdS s (jF (fun _ => (0 : Int32)) (s0_kd s) 12)) 0 0) rfl rfl rfl rfl rfl (by omega) (Nat.le_of_ble_eq_true rfl) ?_
      exact jj_leaf dX1_begin_30 rfl rfl
  refine jj_iconst (v := 0) dX1_begin_0 (by decide) ?_
  refine jj_istore_n dX1_begin_1 rfl (by decide) rfl ?_
  exact jj_eq rfl rfl rfl (by rw [jF_0]; rfl) (L 0 (by decide))
set_option maxRecDepth 100000 in
set_option maxHeartbeats 4000000 in
theorem ev1_take_1_0 {G : jj_G} {s : jj_S}  : jj_Ev G m1_take 1 [.ref 19, .ref 16] (jj_m s) 0 0 (none) (jj_m (s1_tkS (s1_stS (s1_enS (s1_plS (s1_kdS s (jF (s0_kd s) (s1_kd s) 12)) (s0_pl s)) (s0_en s)) (s0_st s)) 1)) := by
  refine jj_Ev_of (lo := [some (.ref 19), some (.ref 16), none]) (by decide +kernel) (Nat.le_of_ble_eq_true rfl) rfl (by trivial) ?_
  have L : ∀ k, k ≤ 12 → jj_Go G m1_take 1 2 [some (.ref 19), some (.ref 16), some (.int (nI k))] [] (jj_m (s1_kdS s (jF (s0_kd s) (s1_kd s) k))) 0 0 (none) (jj_m (s1_tkS (s1_stS (s1_enS (s1_plS (s1_kdS s (jF (s0_kd s) (s1_kd s) 12)) (s0_pl s)) (s0_en s)) (s0_st s)) 1)) := by
    refine jj_up 12 (fun k hk ih => ?_) ?_
    · refine jj_iload_n dX1_take_2 rfl ?_
      refine jj_aload_n dX1_take_3 rfl ?_
      refine jj_getf dX1_take_4 fl1_9 rfl rfl ?_
      refine jv_alen_i (v := 12) dX1_take_7 rfl rfl ?_
      refine jj_icmp_ge (tgt := 28) dX1_take_8 (by decide) (fun zz => absurd zz (jb_ge hk (by decide))) (fun _ => ?_)
      refine jj_aload_n dX1_take_11 rfl ?_
      refine jj_getf dX1_take_12 fl1_9 rfl rfl ?_
      refine jj_iload_n dX1_take_15 rfl ?_
      refine jj_aload_n dX1_take_16 rfl ?_
      refine jj_iload_n dX1_take_17 rfl ?_
      refine jj_callV (M2 := m1_kindOf) dX1_take_18 ml1_22 tm1_kindOf (ev1_kindOf_0 (s := s1_kdS s (jF (s0_kd s) (s1_kd s) k)) hk) rfl rfl rfl rfl rfl (by omega) (Nat.le_of_ble_eq_true rfl) ?_
      refine jv_iast dX1_take_21 rfl (hk) (by decide) rfl ?_
      refine jj_iinc dX1_take_22 rfl (jb_i k) (by decide) rfl ?_
      refine jj_goto (tgt := 2) dX1_take_25 (by decide) ?_
      exact jj_eq rfl rfl rfl (by rw [← jF_s' (f := s0_kd s) (g := s1_kd s) rfl]; rfl) ih
    · refine jj_iload_n dX1_take_2 rfl ?_
      refine jj_aload_n dX1_take_3 rfl ?_
      refine jj_getf dX1_take_4 fl1_9 rfl rfl ?_
      refine jv_alen_i (v := 12) dX1_take_7 rfl rfl ?_
      refine jj_icmp_ge (tgt := 28) dX1_take_8 (by decide) (fun _ => ?_) (fun zz => absurd (jb_ge' (n := 12) (by decide)) zz)
      refine jj_aload_n dX1_take_28 rfl ?_
      refine jj_aload_n dX1_take_29 rfl ?_
      refine jj_getf dX1_take_30 fl1_26 rfl rfl ?_
      refine jj_putf dX1_take_33 (fw1_26 _) rfl (Nat.le_of_ble_eq_true rfl) rfl rfl rfl ?_
      refine jj_aload_n dX1_take_36 rfl ?_
      refine jj_aload_n dX1_take_37 rfl ?_
      refine jj_getf dX1_take_38 fl1_30 rfl rfl ?_
      refine jj_putf dX1_take_41 (fw1_30 _) rfl (Nat.le_of_ble_eq_true rfl) rfl rfl rfl ?_
      refine jj_aload_n dX1_take_44 rfl ?_
      refine jj_aload_n dX1_take_45 rfl ?_
      refine jj_getf dX1_take_46 fl1_33 rfl rfl ?_
      refine jj_putf dX1_take_49 (fw1_33 _) rfl (Nat.le_of_ble_eq_true rfl) rfl rfl rfl ?_
      refine jj_aload_n dX1_take_52 rfl ?_
      refine jj_iconst (v := 1) dX1_take_53 (by decide) ?_
      refine jj_putf dX1_take_54 (fw1_36 _) rfl (Nat.le_of_ble_eq_true rfl) rfl rfl rfl ?_
      exact jj_leaf dX1_take_57 rfl rfl
  refine jj_iconst (v := 0) dX1_take_0 (by decide) ?_
  refine jj_istore_n dX1_take_1 rfl (by decide) rfl ?_
  exact jj_eq rfl rfl rfl (by rw [jF_0]; rfl) (L 0 (by decide))
set_option maxRecDepth 100000 in
set_option maxHeartbeats 4000000 in
theorem ev1_take_2_1 {G : jj_G} {s : jj_S}  : jj_Ev G m1_take 1 [.ref 22, .ref 19] (jj_m s) 0 0 (none) (jj_m (s2_tkS (s2_stS (s2_enS (s2_plS (s2_kdS s (jF (s1_kd s) (s2_kd s) 12)) (s1_pl s)) (s1_en s)) (s1_st s)) 1)) := by
  refine jj_Ev_of (lo := [some (.ref 22), some (.ref 19), none]) (by decide +kernel) (Nat.le_of_ble_eq_true rfl) rfl (by trivial) ?_
  have L : ∀ k, k ≤ 12 → jj_Go G m1_take 1 2 [some (.ref 22), some (.ref 19), some (.int (nI k))] [] (jj_m (s2_kdS s (jF (s1_kd s) (s2_kd s) k))) 0 0 (none) (jj_m (s2_tkS (s2_stS (s2_enS (s2_plS (s2_kdS s (jF (s1_kd s) (s2_kd s) 12)) (s1_pl s)) (s1_en s)) (s1_st s)) 1)) := by
    refine jj_up 12 (fun k hk ih => ?_) ?_
    · refine jj_iload_n dX1_take_2 rfl ?_
      refine jj_aload_n dX1_take_3 rfl ?_
      refine jj_getf dX1_take_4 fl1_9 rfl rfl ?_
      refine jv_alen_i (v := 12) dX1_take_7 rfl rfl ?_
      refine jj_icmp_ge (tgt := 28) dX1_take_8 (by decide) (fun zz => absurd zz (jb_ge hk (by decide))) (fun _ => ?_)
      refine jj_aload_n dX1_take_11 rfl ?_
      refine jj_getf dX1_take_12 fl1_9 rfl rfl ?_
      refine jj_iload_n dX1_take_15 rfl ?_
      refine jj_aload_n dX1_take_16 rfl ?_
      refine jj_iload_n dX1_take_17 rfl ?_
      refine jj_callV (M2 := m1_kindOf) dX1_take_18 ml1_22 tm1_kindOf (ev1_kindOf_1 (s := s2_kdS s (jF (s1_kd s) (s2_kd s) k)) hk) rfl rfl rfl rfl rfl (by omega) (Nat.le_of_ble_eq_true rfl) ?_
      refine jv_iast dX1_take_21 rfl (hk) (by decide) rfl ?_
      refine jj_iinc dX1_take_22 rfl (jb_i k) (by decide) rfl ?_
      refine jj_goto (tgt := 2) dX1_take_25 (by decide) ?_
      exact jj_eq rfl rfl rfl (by rw [← jF_s' (f := s1_kd s) (g := s2_kd s) rfl]; rfl) ih
    · refine jj_iload_n dX1_take_2 rfl ?_
      refine jj_aload_n dX1_take_3 rfl ?_
      refine jj_getf dX1_take_4 fl1_9 rfl rfl ?_
      refine jv_alen_i (v := 12) dX1_take_7 rfl rfl ?_
      refine jj_icmp_ge (tgt := 28) dX1_take_8 (by decide) (fun _ => ?_) (fun zz => absurd (jb_ge' (n := 12) (by decide)) zz)
      refine jj_aload_n dX1_take_28 rfl ?_
      refine jj_aload_n dX1_take_29 rfl ?_
      refine jj_getf dX1_take_30 fl1_26 rfl rfl ?_
      refine jj_putf dX1_take_33 (fw1_26 _) rfl (Nat.le_of_ble_eq_true rfl) rfl rfl rfl ?_
      refine jj_aload_n dX1_take_36 rfl ?_
      refine jj_aload_n dX1_take_37 rfl ?_
      refine jj_getf dX1_take_38 fl1_30 rfl rfl ?_
      refine jj_putf dX1_take_41 (fw1_30 _) rfl (Nat.le_of_ble_eq_true rfl) rfl rfl rfl ?_
      refine jj_aload_n dX1_take_44 rfl ?_
      refine jj_aload_n dX1_take_45 rfl ?_
      refine jj_getf dX1_take_46 fl1_33 rfl rfl ?_
      refine jj_putf dX1_take_49 (fw1_33 _) rfl (Nat.le_of_ble_eq_true rfl) rfl rfl rfl ?_
      refine jj_aload_n dX1_take_52 rfl ?_
      refine jj_iconst (v := 1) dX1_take_53 (by decide) ?_
      refine jj_putf dX1_take_54 (fw1_36 _) rfl (Nat.le_of_ble_eq_true rfl) rfl rfl rfl ?_
      exact jj_leaf dX1_take_57 rfl rfl
  refine jj_iconst (v := 0) dX1_take_0 (by decide) ?_
  refine jj_istore_n dX1_take_1 rfl (by decide) rfl ?_
  exact jj_eq rfl rfl rfl (by rw [jF_0]; rfl) (L 0 (by decide))
set_option maxRecDepth 100000 in
set_option maxHeartbeats 4000000 in
theorem ev1_take_3_1 {G : jj_G} {s : jj_S}  : jj_Ev G m1_take 1 [.ref 25, .ref 19] (jj_m s) 0 0 (none) (jj_m (s3_tkS (s3_stS (s3_enS (s3_plS (s3_kdS s (jF (s1_kd s) (s3_kd s) 12)) (s1_pl s)) (s1_en s)) (s1_st s)) 1)) := by
  refine jj_Ev_of (lo := [some (.ref 25), some (.ref 19), none]) (by decide +kernel) (Nat.le_of_ble_eq_true rfl) rfl (by trivial) ?_
  have L : ∀ k, k ≤ 12 → jj_Go G m1_take 1 2 [some (.ref 25), some (.ref 19), some (.int (nI k))] [] (jj_m (s3_kdS s (jF (s1_kd s) (s3_kd s) k))) 0 0 (none) (jj_m (s3_tkS (s3_stS (s3_enS (s3_plS (s3_kdS s (jF (s1_kd s) (s3_kd s) 12)) (s1_pl s)) (s1_en s)) (s1_st s)) 1)) := by
    refine jj_up 12 (fun k hk ih => ?_) ?_
    · refine jj_iload_n dX1_take_2 rfl ?_
      refine jj_aload_n dX1_take_3 rfl ?_
      refine jj_getf dX1_take_4 fl1_9 rfl rfl ?_
      refine jv_alen_i (v := 12) dX1_take_7 rfl rfl ?_
      refine jj_icmp_ge (tgt := 28) dX1_take_8 (by decide) (fun zz => absurd zz (jb_ge hk (by decide))) (fun _ => ?_)
      refine jj_aload_n dX1_take_11 rfl ?_
      refine jj_getf dX1_take_12 fl1_9 rfl rfl ?_
      refine jj_iload_n dX1_take_15 rfl ?_
      refine jj_aload_n dX1_take_16 rfl ?_
      refine jj_iload_n dX1_take_17 rfl ?_
      refine jj_callV (M2 := m1_kindOf) dX1_take_18 ml1_22 tm1_kindOf (ev1_kindOf_1 (s := s3_kdS s (jF (s1_kd s) (s3_kd s) k)) hk) rfl rfl rfl rfl rfl (by omega) (Nat.le_of_ble_eq_true rfl) ?_
      refine jv_iast dX1_take_21 rfl (hk) (by decide) rfl ?_
      refine jj_iinc dX1_take_22 rfl (jb_i k) (by decide) rfl ?_
      refine jj_goto (tgt := 2) dX1_take_25 (by decide) ?_
      exact jj_eq rfl rfl rfl (by rw [← jF_s' (f := s1_kd s) (g := s3_kd s) rfl]; rfl) ih
    · refine jj_iload_n dX1_take_2 rfl ?_
      refine jj_aload_n dX1_take_3 rfl ?_
      refine jj_getf dX1_take_4 fl1_9 rfl rfl ?_
      refine jv_alen_i (v := 12) dX1_take_7 rfl rfl ?_
      refine jj_icmp_ge (tgt := 28) dX1_take_8 (by decide) (fun _ => ?_) (fun zz => absurd (jb_ge' (n := 12) (by decide)) zz)
      refine jj_aload_n dX1_take_28 rfl ?_
      refine jj_aload_n dX1_take_29 rfl ?_
      refine jj_getf dX1_take_30 fl1_26 rfl rfl ?_
      refine jj_putf dX1_take_33 (fw1_26 _) rfl (Nat.le_of_ble_eq_true rfl) rfl rfl rfl ?_
      refine jj_aload_n dX1_take_36 rfl ?_
      refine jj_aload_n dX1_take_37 rfl ?_
      refine jj_getf dX1_take_38 fl1_30 rfl rfl ?_
      refine jj_putf dX1_take_41 (fw1_30 _) rfl (Nat.le_of_ble_eq_true rfl) rfl rfl rfl ?_
      refine jj_aload_n dX1_take_44 rfl ?_
      refine jj_aload_n dX1_take_45 rfl ?_
      refine jj_getf dX1_take_46 fl1_33 rfl rfl ?_
      refine jj_putf dX1_take_49 (fw1_33 _) rfl (Nat.le_of_ble_eq_true rfl) rfl rfl rfl ?_
      refine jj_aload_n dX1_take_52 rfl ?_
      refine jj_iconst (v := 1) dX1_take_53 (by decide) ?_
      refine jj_putf dX1_take_54 (fw1_36 _) rfl (Nat.le_of_ble_eq_true rfl) rfl rfl rfl ?_
      exact jj_leaf dX1_take_57 rfl rfl
  refine jj_iconst (v := 0) dX1_take_0 (by decide) ?_
  refine jj_istore_n dX1_take_1 rfl (by decide) rfl ?_
  exact jj_eq rfl rfl rfl (by rw [jF_0]; rfl) (L 0 (by decide))
set_option maxRecDepth 100000 in
set_option maxHeartbeats 4000000 in
theorem ev1_take_1_2 {G : jj_G} {s : jj_S}  : jj_Ev G m1_take 1 [.ref 19, .ref 22] (jj_m s) 0 0 (none) (jj_m (s1_tkS (s1_stS (s1_enS (s1_plS (s1_kdS s (jF (s2_kd s) (s1_kd s) 12)) (s2_pl s)) (s2_en s)) (s2_st s)) 1)) := by
  refine jj_Ev_of (lo := [some (.ref 19), some (.ref 22), none]) (by decide +kernel) (Nat.le_of_ble_eq_true rfl) rfl (by trivial) ?_
  have L : ∀ k, k ≤ 12 → jj_Go G m1_take 1 2 [some (.ref 19), some (.ref 22), some (.int (nI k))] [] (jj_m (s1_kdS s (jF (s2_kd s) (s1_kd s) k))) 0 0 (none) (jj_m (s1_tkS (s1_stS (s1_enS (s1_plS (s1_kdS s (jF (s2_kd s) (s1_kd s) 12)) (s2_pl s)) (s2_en s)) (s2_st s)) 1)) := by
    refine jj_up 12 (fun k hk ih => ?_) ?_
    · refine jj_iload_n dX1_take_2 rfl ?_
      refine jj_aload_n dX1_take_3 rfl ?_
      refine jj_getf dX1_take_4 fl1_9 rfl rfl ?_
      refine jv_alen_i (v := 12) dX1_take_7 rfl rfl ?_
      refine jj_icmp_ge (tgt := 28) dX1_take_8 (by decide) (fun zz => absurd zz (jb_ge hk (by decide))) (fun _ => ?_)
      refine jj_aload_n dX1_take_11 rfl ?_
      refine jj_getf dX1_take_12 fl1_9 rfl rfl ?_
      refine jj_iload_n dX1_take_15 rfl ?_
      refine jj_aload_n dX1_take_16 rfl ?_
      refine jj_iload_n dX1_take_17 rfl ?_
      refine jj_callV (M2 := m1_kindOf) dX1_take_18 ml1_22 tm1_kindOf (ev1_kindOf_2 (s := s1_kdS s (jF (s2_kd s) (s1_kd s) k)) hk) rfl rfl rfl rfl rfl (by omega) (Nat.le_of_ble_eq_true rfl) ?_
      refine jv_iast dX1_take_21 rfl (hk) (by decide) rfl ?_
      refine jj_iinc dX1_take_22 rfl (jb_i k) (by decide) rfl ?_
      refine jj_goto (tgt := 2) dX1_take_25 (by decide) ?_
      exact jj_eq rfl rfl rfl (by rw [← jF_s' (f := s2_kd s) (g := s1_kd s) rfl]; rfl) ih
    · refine jj_iload_n dX1_take_2 rfl ?_
      refine jj_aload_n dX1_take_3 rfl ?_
      refine jj_getf dX1_take_4 fl1_9 rfl rfl ?_
      refine jv_alen_i (v := 12) dX1_take_7 rfl rfl ?_
      refine jj_icmp_ge (tgt := 28) dX1_take_8 (by decide) (fun _ => ?_) (fun zz => absurd (jb_ge' (n := 12) (by decide)) zz)
      refine jj_aload_n dX1_take_28 rfl ?_
      refine jj_aload_n dX1_take_29 rfl ?_
      refine jj_getf dX1_take_30 fl1_26 rfl rfl ?_
      refine jj_putf dX1_take_33 (fw1_26 _) rfl (Nat.le_of_ble_eq_true rfl) rfl rfl rfl ?_
      refine jj_aload_n dX1_take_36 rfl ?_
      refine jj_aload_n dX1_take_37 rfl ?_
      refine jj_getf dX1_take_38 fl1_30 rfl rfl ?_
      refine jj_putf dX1_take_41 (fw1_30 _) rfl (Nat.le_of_ble_eq_true rfl) rfl rfl rfl ?_
      refine jj_aload_n dX1_take_44 rfl ?_
      refine jj_aload_n dX1_take_45 rfl ?_
      refine jj_getf dX1_take_46 fl1_33 rfl rfl ?_
      refine jj_putf dX1_take_49 (fw1_33 _) rfl (Nat.le_of_ble_eq_true rfl) rfl rfl rfl ?_
      refine jj_aload_n dX1_take_52 rfl ?_
      refine jj_iconst (v := 1) dX1_take_53 (by decide) ?_
      refine jj_putf dX1_take_54 (fw1_36 _) rfl (Nat.le_of_ble_eq_true rfl) rfl rfl rfl ?_
      exact jj_leaf dX1_take_57 rfl rfl
  refine jj_iconst (v := 0) dX1_take_0 (by decide) ?_
  refine jj_istore_n dX1_take_1 rfl (by decide) rfl ?_
  exact jj_eq rfl rfl rfl (by rw [jF_0]; rfl) (L 0 (by decide))
set_option maxRecDepth 100000 in
set_option maxHeartbeats 4000000 in
theorem ev1_take_1_3 {G : jj_G} {s : jj_S}  : jj_Ev G m1_take 1 [.ref 19, .ref 25] (jj_m s) 0 0 (none) (jj_m (s1_tkS (s1_stS (s1_enS (s1_plS (s1_kdS s (jF (s3_kd s) (s1_kd s) 12)) (s3_pl s)) (s3_en s)) (s3_st s)) 1)) := by
  refine jj_Ev_of (lo := [some (.ref 19), some (.ref 25), none]) (by decide +kernel) (Nat.le_of_ble_eq_true rfl) rfl (by trivial) ?_
  have L : ∀ k, k ≤ 12 → jj_Go G m1_take 1 2 [some (.ref 19), some (.ref 25), some (.int (nI k))] [] (jj_m (s1_kdS s (jF (s3_kd s) (s1_kd s) k))) 0 0 (none) (jj_m (s1_tkS (s1_stS (s1_enS (s1_plS (s1_kdS s (jF (s3_kd s) (s1_kd s) 12)) (s3_pl s)) (s3_en s)) (s3_st s)) 1)) := by
    refine jj_up 12 (fun k hk ih => ?_) ?_
    · refine jj_iload_n dX1_take_2 rfl ?_
      refine jj_aload_n dX1_take_3 rfl ?_
      refine jj_getf dX1_take_4 fl1_9 rfl rfl ?_
      refine jv_alen_i (v := 12) dX1_take_7 rfl rfl ?_
      refine jj_icmp_ge (tgt := 28) dX1_take_8 (by decide) (fun zz => absurd zz (jb_ge hk (by decide))) (fun _ => ?_)
      refine jj_aload_n dX1_take_11 rfl ?_
      refine jj_getf dX1_take_12 fl1_9 rfl rfl ?_
      refine jj_iload_n dX1_take_15 rfl ?_
      refine jj_aload_n dX1_take_16 rfl ?_
      refine jj_iload_n dX1_take_17 rfl ?_
      refine jj_callV (M2 := m1_kindOf) dX1_take_18 ml1_22 tm1_kindOf (ev1_kindOf_3 (s := s1_kdS s (jF (s3_kd s) (s1_kd s) k)) hk) rfl rfl rfl rfl rfl (by omega) (Nat.le_of_ble_eq_true rfl) ?_
      refine jv_iast dX1_take_21 rfl (hk) (by decide) rfl ?_
      refine jj_iinc dX1_take_22 rfl (jb_i k) (by decide) rfl ?_
      refine jj_goto (tgt := 2) dX1_take_25 (by decide) ?_
      exact jj_eq rfl rfl rfl (by rw [← jF_s' (f := s3_kd s) (g := s1_kd s) rfl]; rfl) ih
    · refine jj_iload_n dX1_take_2 rfl ?_
      refine jj_aload_n dX1_take_3 rfl ?_
      refine jj_getf dX1_take_4 fl1_9 rfl rfl ?_
      refine jv_alen_i (v := 12) dX1_take_7 rfl rfl ?_
      refine jj_icmp_ge (tgt := 28) dX1_take_8 (by decide) (fun _ => ?_) (fun zz => absurd (jb_ge' (n := 12) (by decide)) zz)
      refine jj_aload_n dX1_take_28 rfl ?_
      refine jj_aload_n dX1_take_29 rfl ?_
      refine jj_getf dX1_take_30 fl1_26 rfl rfl ?_
      refine jj_putf dX1_take_33 (fw1_26 _) rfl (Nat.le_of_ble_eq_true rfl) rfl rfl rfl ?_
      refine jj_aload_n dX1_take_36 rfl ?_
      refine jj_aload_n dX1_take_37 rfl ?_
      refine jj_getf dX1_take_38 fl1_30 rfl rfl ?_
      refine jj_putf dX1_take_41 (fw1_30 _) rfl (Nat.le_of_ble_eq_true rfl) rfl rfl rfl ?_
      refine jj_aload_n dX1_take_44 rfl ?_
      refine jj_aload_n dX1_take_45 rfl ?_
      refine jj_getf dX1_take_46 fl1_33 rfl rfl ?_
      refine jj_putf dX1_take_49 (fw1_33 _) rfl (Nat.le_of_ble_eq_true rfl) rfl rfl rfl ?_
      refine jj_aload_n dX1_take_52 rfl ?_
      refine jj_iconst (v := 1) dX1_take_53 (by decide) ?_
      refine jj_putf dX1_take_54 (fw1_36 _) rfl (Nat.le_of_ble_eq_true rfl) rfl rfl rfl ?_
      exact jj_leaf dX1_take_57 rfl rfl
  refine jj_iconst (v := 0) dX1_take_0 (by decide) ?_
  refine jj_istore_n dX1_take_1 rfl (by decide) rfl ?_
  exact jj_eq rfl rfl rfl (by rw [jF_0]; rfl) (L 0 (by decide))
set_option maxRecDepth 100000 in
set_option maxHeartbeats 4000000 in
theorem ev1_allOfKind {G : jj_G} {s : jj_S} (x : Int32) : jj_Ev G m1_allOfKind 0 [.ref 19, .int x] (jj_m s) 0 0 (some (.int (nI (j1_all (s1_kd s) x 12)))) (jj_m s) := by
  refine jj_Ev_of (lo := [some (.ref 19), some (.int x), none, none]) (by decide +kernel) (Nat.le_of_ble_eq_true rfl) rfl (by trivial) ?_
  have L : ∀ k, k ≤ 12 → jj_Go G m1_allOfKind 0 4 [some (.ref 19), some (.int x), some (.int (nI (j1_all (s1_kd s) x k))), some (.int (nI k))] [] (jj_m s) 0 0 (some (.int (nI (j1_all (s1_kd s) x 12)))) (jj_m s) := by
    refine jj_up 12 (fun k hk ih => ?_) ?_
    · refine jj_iload_n dX1_allOfKind_4 rfl ?_
      refine jj_aload_n dX1_allOfKind_5 rfl ?_
      refine jj_getf dX1_allOfKind_6 fl1_9 rfl rfl ?_
      refine jv_alen_i (v := 12) dX1_allOfKind_9 rfl rfl ?_
      refine jj_icmp_ge (tgt := 35) dX1_allOfKind_10 (by decide) (fun zz => absurd zz (jb_ge hk (by decide))) (fun _ => ?_)
      refine jj_aload_n dX1_allOfKind_13 rfl ?_
      refine jj_getf dX1_allOfKind_14 fl1_9 rfl rfl ?_
      refine jj_iload_n dX1_allOfKind_17 rfl ?_
      refine jv_iald dX1_allOfKind_18 rfl (hk) (by decide) ?_
      refine jj_iload_n dX1_allOfKind_19 rfl ?_
      refine jj_icmp_ne (tgt := 29) dX1_allOfKind_20 (by decide) (fun c20 => ?_) (fun c20 => ?_)
      · refine jj_iinc dX1_allOfKind_29 rfl (jb_i k) (by decide) rfl ?_
        refine jj_goto (tgt := 4) dX1_allOfKind_32 (by decide) ?_
        unfold j1_all at ih
        first | (rw [if_neg c20] at ih; exact ih) | (rw [if_pos c20] at ih; exact ih)
      · refine jj_iload_n dX1_allOfKind_23 rfl ?_
        refine jj_iconst (v := 1) dX1_allOfKind_24 (by decide) ?_
        refine jj_iload_n dX1_allOfKind_25 rfl ?_
        refine jj_ishl dX1_allOfKind_26 (jb_2k k (by omega)) ?_
        refine jj_ior dX1_allOfKind_27 (fa_or _ _) ?_
        refine jj_istore_n dX1_allOfKind_28 rfl (by decide) rfl ?_
        refine jj_iinc dX1_allOfKind_29 rfl (jb_i k) (by decide) rfl ?_
        refine jj_goto (tgt := 4) dX1_allOfKind_32 (by decide) ?_
        unfold j1_all at ih
        first | (rw [if_neg c20] at ih; exact ih) | (rw [if_pos c20] at ih; exact ih)
    · refine jj_iload_n dX1_allOfKind_4 rfl ?_
      refine jj_aload_n dX1_allOfKind_5 rfl ?_
      refine jj_getf dX1_allOfKind_6 fl1_9 rfl rfl ?_
      refine jv_alen_i (v := 12) dX1_allOfKind_9 rfl rfl ?_
      refine jj_icmp_ge (tgt := 35) dX1_allOfKind_10 (by decide) (fun _ => ?_) (fun zz => absurd (jb_ge' (n := 12) (by decide)) zz)
      refine jj_iload_n dX1_allOfKind_35 rfl ?_
      exact jj_leaf dX1_allOfKind_36 rfl rfl
  refine jj_iconst (v := 0) dX1_allOfKind_0 (by decide) ?_
  refine jj_istore_n dX1_allOfKind_1 rfl (by decide) rfl ?_
  refine jj_iconst (v := 0) dX1_allOfKind_2 (by decide) ?_
  refine jj_istore_n dX1_allOfKind_3 rfl (by decide) rfl ?_
  exact L 0 (by decide)
set_option maxRecDepth 100000 in
set_option maxHeartbeats 4000000 in
theorem ev4_isTurning {G : jj_G} {h : List jj_C} {t : Nat} (ht : t < 60) : jj_Ev G m4_isTurning 0 [.int (nI t)] (h) 0 0 (some (.int 1)) (h) := by
  refine jj_Ev_of (lo := [some (.int (nI t))]) (by decide +kernel) (Nat.le_of_ble_eq_true rfl) rfl (Or.inr rfl) ?_
  refine jj_iload_n dX4_isTurning_0 rfl ?_
  refine jj_if_lt (tgt := 14) dX4_isTurning_1 (by decide) (fun zz => absurd zz (jb_lt0 (by omega))) (fun _ => ?_)
  refine jj_iload_n dX4_isTurning_4 rfl ?_
  refine jj_bipush (v := 60) dX4_isTurning_5 (by decide) ?_
  refine jj_icmp_ge (tgt := 14) dX4_isTurning_7 (by decide) (fun zz => absurd zz (jb_ge ht (by decide))) (fun _ => ?_)
  refine jj_iconst (v := 1) dX4_isTurning_10 (by decide) ?_
  refine jj_goto (tgt := 15) dX4_isTurning_11 (by decide) ?_
  exact jj_leaf dX4_isTurning_15 rfl rfl
theorem j4_mul (a b : Nat) : nI a * nI b = nI (a * b) := (Int32.ofNat_mul a b).symm
set_option maxRecDepth 100000 in
set_option maxHeartbeats 4000000 in
theorem ev4_number {G : jj_G} {h : List jj_C} {a b : Nat} : jj_Ev G m4_number 0 [.int (nI a), .int (nI b)] (h) 0 0 (some (.int (nI (a * 5 + b)))) (h) := by
  refine jj_Ev_of (lo := [some (.int (nI a)), some (.int (nI b))]) (by decide +kernel) (Nat.le_of_ble_eq_true rfl) rfl (by trivial) ?_
  refine jj_iload_n dX4_number_0 rfl ?_
  refine jj_iconst (v := 5) dX4_number_1 (by decide) ?_
  refine jj_imul dX4_number_2 (j4_mul a 5) ?_
  refine jj_iload_n dX4_number_3 rfl ?_
  refine jj_iadd dX4_number_4 (nI_add _ _) ?_
  exact jj_leaf dX4_number_5 rfl rfl
set_option maxRecDepth 100000 in
set_option maxHeartbeats 4000000 in
theorem ev4_goal {G : jj_G} {s : jj_S} {t f : Nat} (ht : t < 60) (hf : f < 12) : jj_Ev G m4_goal 1 [.ref 6, .int (nI t), .int (nI f)] (jj_m s) 0 0 (some (.int (tn_go s (t * 12 + f)))) (jj_m s) := by
  refine jj_Ev_of (lo := [some (.ref 6), some (.int (nI t)), some (.int (nI f))]) (by decide +kernel) (Nat.le_of_ble_eq_true rfl) rfl (by trivial) ?_
  refine jj_iload_n dX4_goal_0 rfl ?_
  refine jj_callS (M2 := m4_isTurning) dX4_goal_1 ml4_47 tm4_isTurning (ev4_isTurning ht) rfl rfl (by omega) (Nat.le_of_ble_eq_true rfl) ?_
  refine jj_if_eq (tgt := 14) dX4_goal_4 (by decide) (fun zz => absurd zz (by decide)) (fun _ => ?_)
  refine jj_iload_n dX4_goal_7 rfl ?_
  refine jj_callS (M2 := m0_isField) dX4_goal_8 ml4_51 tm0_isField (ev0_isField_v hf) rfl rfl (by omega) (Nat.le_of_ble_eq_true rfl) ?_
  refine jj_if_ne (tgt := 17) dX4_goal_11 (by decide) (fun _ => ?_) (fun zz => absurd zz (by decide))
  refine jj_aload_n dX4_goal_17 rfl ?_
  refine jj_getf dX4_goal_18 fl4_9 rfl rfl ?_
  refine jj_iload_n dX4_goal_21 rfl ?_
  refine jj_bipush (v := 12) dX4_goal_22 (by decide) ?_
  refine jj_imul dX4_goal_24 (j4_mul t 12) ?_
  refine jj_iload_n dX4_goal_25 rfl ?_
  refine jj_iadd dX4_goal_26 (nI_add _ _) ?_
  refine jv_iald dX4_goal_27 rfl (by omega) (by decide) ?_
  exact jj_leaf dX4_goal_28 rfl rfl
/-- the kinds laid to their goals, the first k of them -/
def j1_tu (g : Nat → Nat) (kd tu : Nat → Int32) : Nat → Nat → Int32
  | 0 => tu
  | k + 1 => jU (j1_tu g kd tu k) (g k) (kd k)
def j1_ct (f g : Nat → Int32) : Nat → Nat
  | 0 => 0
  | k + 1 => if f k = g k then j1_ct f g k else j1_ct f g k + 1
theorem j1_ct_le (f g : Nat → Int32) : ∀ k, j1_ct f g k ≤ k := by
  intro k
  induction k with
  | zero => exact Nat.le_refl 0
  | succ k ih => unfold j1_ct; split <;> omega
set_option maxRecDepth 100000 in
set_option maxHeartbeats 4000000 in
theorem ev1_turn {G : jj_G} {s : jj_S} {t : Nat} {g : Nat → Nat} (ht : t < 60) (hg : ∀ k, k < 12 → tn_go s (t * 12 + k) = nI (g k) ∧ g k < 12) : jj_Ev G m1_turn 2 [.ref 19, .ref 6, .int (nI t)] (jj_m s) 0 0 (some (.int (nI (j1_ct (j1_tu g (s1_kd s) (s1_tu s) 12) (s1_kd s) 12)))) (jj_m (s1_kdS (s1_tuS s (j1_tu g (s1_kd s) (s1_tu s) 12)) (jF (j1_tu g (s1_kd s) (s1_tu s) 12) (s1_kd s) 12))) := by
  refine jj_Ev_of (lo := [some (.ref 19), some (.ref 6), some (.int (nI t)), none, none]) (by decide +kernel) (Nat.le_of_ble_eq_true rfl) rfl (by trivial) ?_
  have L2 : ∀ k, k ≤ 12 → jj_Go G m1_turn 2 54 [some (.ref 19), some (.ref 6), some (.int (nI t)), some (.int (nI (j1_ct (j1_tu g (s1_kd s) (s1_tu s) 12) (s1_kd s) k))), some (.int (nI k))] [] (jj_m (s1_kdS (s1_tuS s (j1_tu g (s1_kd s) (s1_tu s) 12)) (jF (j1_tu g (s1_kd s) (s1_tu s) 12) (s1_kd s) k))) 0 0 (some (.int (nI (j1_ct (j1_tu g (s1_kd s) (s1_tu s) 12) (s1_kd s) 12)))) (jj_m (s1_kdS (s1_tuS s (j1_tu g (s1_kd s) (s1_tu s) 12)) (jF (j1_tu g (s1_kd s) (s1_tu s) 12) (s1_kd s) 12))) := by
    refine jj_up 12 (fun k hk ih => ?_) ?_
    · refine jj_iload dX1_turn_54 rfl ?_
      refine jj_aload_n dX1_turn_56 rfl ?_
      refine jj_getf dX1_turn_57 fl1_15 rfl rfl ?_
      refine jv_alen_i (v := 12) dX1_turn_60 rfl rfl ?_
      refine jj_icmp_ge (tgt := 102) dX1_turn_61 (by decide) (fun zz => absurd zz (jb_ge hk (by decide))) (fun _ => ?_)
      refine jj_aload_n dX1_turn_64 rfl ?_
      refine jj_getf dX1_turn_65 fl1_15 rfl rfl ?_
      refine jj_iload dX1_turn_68 rfl ?_
      refine jv_iald dX1_turn_70 rfl (hk) (by decide) ?_
      refine jj_aload_n dX1_turn_71 rfl ?_
      refine jj_iload dX1_turn_72 rfl ?_
      refine jj_callV (M2 := m1_kindOf) dX1_turn_74 ml1_22 tm1_kindOf (ev1_kindOf_1 (s := s1_kdS (s1_tuS s (j1_tu g (s1_kd s) (s1_tu s) 12)) (jF (j1_tu g (s1_kd s) (s1_tu s) 12) (s1_kd s) k)) hk) rfl rfl rfl rfl rfl (by omega) (Nat.le_of_ble_eq_true rfl) ?_
      refine jj_icmp_eq (tgt := 83) dX1_turn_77 (by decide) (fun c77 => ?_) (fun c77 => ?_)
      · refine jj_aload_n dX1_turn_83 rfl ?_
        refine jj_iload dX1_turn_84 rfl ?_
        refine jj_aload_n dX1_turn_86 rfl ?_
        refine jj_getf dX1_turn_87 fl1_15 rfl rfl ?_
        refine jj_iload dX1_turn_90 rfl ?_
        refine jv_iald dX1_turn_92 rfl (hk) (by decide) ?_
        refine jj_callV (M2 := m1_plant) dX1_turn_93 ml1_46 tm1_plant (ev1_plant_1 (s := s1_kdS (s1_tuS s (j1_tu g (s1_kd s) (s1_tu s) 12)) (jF (j1_tu g (s1_kd s) (s1_tu s) 12) (s1_kd s) k)) _ hk) rfl rfl rfl rfl rfl (by omega) (Nat.le_of_ble_eq_true rfl) ?_
        refine jj_iinc dX1_turn_96 rfl (jb_i k) (by decide) rfl ?_
        refine jj_goto (tgt := 54) dX1_turn_99 (by decide) ?_
        unfold j1_ct at ih
        have e : (jF (j1_tu g (s1_kd s) (s1_tu s) 12) (s1_kd s) k) k = s1_kd s k := jF_out (Nat.le_refl k)
        have c := c77
        rw [show s1_kd (s1_kdS (s1_tuS s (j1_tu g (s1_kd s) (s1_tu s) 12)) (jF (j1_tu g (s1_kd s) (s1_tu s) 12) (s1_kd s) k)) k = s1_kd s k from e, show s1_tu (s1_kdS (s1_tuS s (j1_tu g (s1_kd s) (s1_tu s) 12)) (jF (j1_tu g (s1_kd s) (s1_tu s) 12) (s1_kd s) k)) k = (j1_tu g (s1_kd s) (s1_tu s) 12) k from rfl] at c
        first | (rw [if_pos c] at ih; exact jj_eq rfl rfl rfl (by rw [← jF_s ((j1_tu g (s1_kd s) (s1_tu s) 12)) (s1_kd s) k]; rfl) ih) | (rw [if_neg c] at ih; exact jj_eq rfl rfl rfl (by rw [← jF_s ((j1_tu g (s1_kd s) (s1_tu s) 12)) (s1_kd s) k]; rfl) ih)
      · refine jj_iinc dX1_turn_80 rfl (jb_i _) (by decide) rfl ?_
        refine jj_aload_n dX1_turn_83 rfl ?_
        refine jj_iload dX1_turn_84 rfl ?_
        refine jj_aload_n dX1_turn_86 rfl ?_
        refine jj_getf dX1_turn_87 fl1_15 rfl rfl ?_
        refine jj_iload dX1_turn_90 rfl ?_
        refine jv_iald dX1_turn_92 rfl (hk) (by decide) ?_
        refine jj_callV (M2 := m1_plant) dX1_turn_93 ml1_46 tm1_plant (ev1_plant_1 (s := s1_kdS (s1_tuS s (j1_tu g (s1_kd s) (s1_tu s) 12)) (jF (j1_tu g (s1_kd s) (s1_tu s) 12) (s1_kd s) k)) _ hk) rfl rfl rfl rfl rfl (by omega) (Nat.le_of_ble_eq_true rfl) ?_
        refine jj_iinc dX1_turn_96 rfl (jb_i k) (by decide) rfl ?_
        refine jj_goto (tgt := 54) dX1_turn_99 (by decide) ?_
        unfold j1_ct at ih
        have e : (jF (j1_tu g (s1_kd s) (s1_tu s) 12) (s1_kd s) k) k = s1_kd s k := jF_out (Nat.le_refl k)
        have c := c77
        rw [show s1_kd (s1_kdS (s1_tuS s (j1_tu g (s1_kd s) (s1_tu s) 12)) (jF (j1_tu g (s1_kd s) (s1_tu s) 12) (s1_kd s) k)) k = s1_kd s k from e, show s1_tu (s1_kdS (s1_tuS s (j1_tu g (s1_kd s) (s1_tu s) 12)) (jF (j1_tu g (s1_kd s) (s1_tu s) 12) (s1_kd s) k)) k = (j1_tu g (s1_kd s) (s1_tu s) 12) k from rfl] at c
        first | (rw [if_pos c] at ih; exact jj_eq rfl rfl rfl (by rw [← jF_s ((j1_tu g (s1_kd s) (s1_tu s) 12)) (s1_kd s) k]; rfl) ih) | (rw [if_neg c] at ih; exact jj_eq rfl rfl rfl (by rw [← jF_s ((j1_tu g (s1_kd s) (s1_tu s) 12)) (s1_kd s) k]; rfl) ih)
    · refine jj_iload dX1_turn_54 rfl ?_
      refine jj_aload_n dX1_turn_56 rfl ?_
      refine jj_getf dX1_turn_57 fl1_15 rfl rfl ?_
      refine jv_alen_i (v := 12) dX1_turn_60 rfl rfl ?_
      refine jj_icmp_ge (tgt := 102) dX1_turn_61 (by decide) (fun _ => ?_) (fun zz => absurd (jb_ge' (n := 12) (by decide)) zz)
      refine jj_iload_n dX1_turn_102 rfl ?_
      exact jj_leaf dX1_turn_103 rfl rfl
  have L1 : ∀ k, k ≤ 12 → jj_Go G m1_turn 2 2 [some (.ref 19), some (.ref 6), some (.int (nI t)), some (.int (nI k)), none] [] (jj_m (s1_tuS s (j1_tu g (s1_kd s) (s1_tu s) k))) 0 0 (some (.int (nI (j1_ct (j1_tu g (s1_kd s) (s1_tu s) 12) (s1_kd s) 12)))) (jj_m (s1_kdS (s1_tuS s (j1_tu g (s1_kd s) (s1_tu s) 12)) (jF (j1_tu g (s1_kd s) (s1_tu s) 12) (s1_kd s) 12))) := by
    refine jj_up 12 (fun k hk ih => ?_) ?_
    · refine jj_iload_n dX1_turn_2 rfl ?_
      refine jj_bipush (v := 12) dX1_turn_3 (by decide) ?_
      refine jj_icmp_ge (tgt := 49) dX1_turn_5 (by decide) (fun zz => absurd zz (jb_ge hk (by decide))) (fun _ => ?_)
      refine jj_aload_n dX1_turn_8 rfl ?_
      refine jj_iload_n dX1_turn_9 rfl ?_
      refine jj_iload_n dX1_turn_10 rfl ?_
      refine jj_callV (M2 := m4_goal) dX1_turn_11 ml1_40 tm4_goal (ev4_goal (s := s1_tuS s (j1_tu g (s1_kd s) (s1_tu s) k)) ht hk) rfl rfl rfl rfl rfl (by omega) (Nat.le_of_ble_eq_true rfl) ?_
      refine jj_eq (st' := [.int (nI (g k))]) rfl rfl (by rw [← (hg k hk).1]; rfl) rfl ?_
      refine jj_istore dX1_turn_14 (by decide) rfl ?_
      refine jj_iload dX1_turn_16 rfl ?_
      refine jj_if_lt (tgt := 43) dX1_turn_18 (by decide) (fun zz => absurd zz (jb_lt0 (by have := (hg k hk).2; omega))) (fun _ => ?_)
      refine jj_iload dX1_turn_21 rfl ?_
      refine jj_aload_n dX1_turn_23 rfl ?_
      refine jj_getf dX1_turn_24 fl1_15 rfl rfl ?_
      refine jv_alen_i (v := 12) dX1_turn_27 rfl rfl ?_
      refine jj_icmp_ge (tgt := 43) dX1_turn_28 (by decide) (fun zz => absurd zz (jb_ge (hg k hk).2 (by decide))) (fun _ => ?_)
      refine jj_aload_n dX1_turn_31 rfl ?_
      refine jj_getf dX1_turn_32 fl1_15 rfl rfl ?_
      refine jj_iload dX1_turn_35 rfl ?_
      refine jj_aload_n dX1_turn_37 rfl ?_
      refine jj_iload_n dX1_turn_38 rfl ?_
      refine jj_callV (M2 := m1_kindOf) dX1_turn_39 ml1_22 tm1_kindOf (ev1_kindOf_1 (s := s1_tuS s (j1_tu g (s1_kd s) (s1_tu s) k)) hk) rfl rfl rfl rfl rfl (by omega) (Nat.le_of_ble_eq_true rfl) ?_
      refine jv_iast dX1_turn_42 rfl ((hg k hk).2) (by decide) rfl ?_
      refine jj_iinc dX1_turn_43 rfl (jb_i k) (by decide) rfl ?_
      refine jj_goto (tgt := 2) dX1_turn_46 (by decide) ?_
      refine jj_less (lo' := [some (.ref 19), some (.ref 6), some (.int (nI t)), some (.int (nI (k + 1))), none]) (fun j v hj => ?_) (jj_eq rfl rfl rfl rfl ih)
      match j, hj with
      | 0, hj => exact hj
      | 1, hj => exact hj
      | 2, hj => exact hj
      | 3, hj => exact hj
      | 4, hj => exact absurd hj (by simp)
      | j + 5, hj => exact absurd hj (by simp)
    · refine jj_iload_n dX1_turn_2 rfl ?_
      refine jj_bipush (v := 12) dX1_turn_3 (by decide) ?_
      refine jj_icmp_ge (tgt := 49) dX1_turn_5 (by decide) (fun _ => ?_) (fun zz => absurd (jb_ge' (n := 12) (by decide)) zz)
      refine jj_iconst (v := 0) dX1_turn_49 (by decide) ?_
      refine jj_istore_n dX1_turn_50 rfl (by decide) rfl ?_
      refine jj_iconst (v := 0) dX1_turn_51 (by decide) ?_
      refine jj_istore dX1_turn_52 (by decide) rfl ?_
      exact jj_eq rfl rfl rfl (by rw [jF_0]; rfl) (L2 0 (by decide))
  refine jj_iconst (v := 0) dX1_turn_0 (by decide) ?_
  refine jj_istore_n dX1_turn_1 rfl (by decide) rfl ?_
  exact L1 0 (by decide)
