/-! WALLS over o: the fields that are open to each, by bits -/
def j5_ok (s : jj_S) (o : Nat → Nat) : Prop := ∀ f, f < 12 → wa_op s f = nI (o f) ∧ o f < 4096
theorem jb_nm1 {a : Nat} (h : a < 2 ^ 31) : ¬ nI a = -1 := by
  intro q
  have h1 := congrArg Int32.toInt q
  rw [nI_toInt h] at h1
  have h2 : (-1 : Int32).toInt = -1 := by decide
  omega
def j5_sc (o : Nat → Nat) (f : Nat) : Nat → Nat
  | 0 => 0
  | k + 1 => if (o f).testBit (jb_s f k) = true then j5_sc o f k else j5_sc o f k ||| 2 ^ k
theorem j5_sc_lt (o : Nat → Nat) (f : Nat) : ∀ k, k ≤ 5 → j5_sc o f k < 32 := by
  intro k
  induction k with
  | zero => intro _; exact (by decide : (0 : Nat) < 32)
  | succ k ih =>
    intro hk
    have h1 := ih (by omega)
    unfold j5_sc
    split
    · exact h1
    · exact Nat.or_lt_two_pow (n := 5) h1 (Nat.pow_lt_pow_right (by decide) hk)
def j5_wl (o : Nat → Nat) : Nat → Nat
  | 0 => 0
  | k + 1 => j5_wl o k + jb_pc (j5_sc o k 5)
theorem jb_pcn_le (a : Nat) : ∀ k, jb_pcn a k ≤ k := by
  intro k
  induction k with
  | zero => exact Nat.le_refl 0
  | succ k ih => unfold jb_pcn; split <;> omega
theorem j5_wl_le (o : Nat → Nat) : ∀ k, j5_wl o k ≤ 12 * k := by
  intro k
  induction k with
  | zero => exact Nat.le_refl 0
  | succ k ih =>
    have : jb_pc (j5_sc o k 5) ≤ 12 := jb_pcn_le _ 12
    unfold j5_wl
    omega
def j5_any (o : Nat → Nat) (a : Nat) : Nat → Nat
  | 0 => 0
  | k + 1 => if a.testBit k = true then j5_any o a k ||| o k else j5_any o a k
theorem j5_any_lt {o : Nat → Nat} (ho : ∀ f, f < 12 → o f < 4096) (a : Nat) : ∀ k, k ≤ 12 → j5_any o a k < 4096 := by
  intro k
  induction k with
  | zero => intro _; exact (by decide : (0 : Nat) < 4096)
  | succ k ih =>
    intro hk
    have h1 := ih (by omega)
    unfold j5_any
    split
    · exact Nat.or_lt_two_pow (n := 12) h1 (ho k (by omega))
    · exact h1
def j5_in (o : Nat → Nat) (f : Nat) : Nat → Nat
  | 0 => 2 ^ f
  | k + 1 => j5_in o f k ||| j5_any o (j5_in o f k) 12
theorem j5_in_lt {o : Nat → Nat} (ho : ∀ f, f < 12 → o f < 4096) {f : Nat} (hf : f < 12) : ∀ k, j5_in o f k < 4096 := by
  intro k
  induction k with
  | zero => exact Nat.pow_lt_pow_right (by decide) hf
  | succ k ih => exact Nat.or_lt_two_pow (n := 12) ih (j5_any_lt ho _ 12 (Nat.le_refl 12))
/-- insides met so far: their fields, how many -/
def j5_ic (o : Nat → Nat) : Nat → Nat × Nat
  | 0 => (0, 0)
  | k + 1 => if (j5_ic o k).1.testBit k = true then j5_ic o k else ((j5_ic o k).1 ||| j5_in o k 11, (j5_ic o k).2 + 1)
theorem j5_ic_lt {o : Nat → Nat} (ho : ∀ f, f < 12 → o f < 4096) : ∀ k, k ≤ 12 → (j5_ic o k).1 < 4096 := by
  intro k
  induction k with
  | zero => intro _; exact (by decide : (0 : Nat) < 4096)
  | succ k ih =>
    intro hk
    have h1 := ih (by omega)
    unfold j5_ic
    split
    · exact h1
    · exact Nat.or_lt_two_pow (n := 12) h1 (j5_in_lt ho (by omega) 11)
def j5_wa (o : Nat → Nat) (a : Nat) : Bool := jb_all (fun f => o f &&& a != 0) 12
/-- wardens, over the first k sets: how many, the set, how many sets -/
def j5_wst (w : Int32 × Int32 × Nat) (k : Nat) (b : Int32) (ok : Bool) : Int32 × Int32 × Nat :=
  if w.1 = -1 ∨ b < w.1 then (if ok = true then (b, nI k, 1) else w)
  else if b = w.1 then (if ok = true then (w.1, w.2.1, w.2.2 + 1) else w) else w
def j5_wd (o : Nat → Nat) : Nat → Int32 × Int32 × Nat
  | 0 => (-1, -1, 0)
  | k + 1 => j5_wst (j5_wd o k) k (nI (jb_pc k)) (j5_wa o k)
/-- what findWardens does -/
def j5_fw (s : jj_S) (w : Int32 × Int32 × Nat) : jj_S := if wa_wf s = 0 then wa_wfS (wa_wnS (wa_wsS (wa_wcS s w.1) w.2.1) (nI w.2.2)) 1 else s
def j5_cl (a g : Nat) : Nat := a &&& (4095 ^^^ 2 ^ g)
theorem j5_clv {a g : Nat} (ha : a < 4096) (hg : g < 12) : nI a &&& (nI (2 ^ g) ^^^ (-1)) = nI (j5_cl a g) := by
  apply b_ext
  intro i hi
  rw [b_and, b_xor, b_m1 i hi, jb_nb _ _ hi, jb_nb _ _ hi, jb_nb _ _ hi, j5_cl, Nat.testBit_and, Nat.testBit_xor]
  by_cases h12 : i < 12
  · have e : ∀ i, i < 12 → (4095 : Nat).testBit i = true := by decide
    rw [e i h12, Bool.xor_comm]
  · have e : a.testBit i = false := Nat.testBit_lt_two_pow (Nat.lt_of_lt_of_le (show a < 2 ^ 12 from ha) (Nat.pow_le_pow_right (by decide) (show 12 ≤ i by omega)))
    rw [e, Bool.false_and, Bool.false_and]
theorem j5_cl_lt {a g : Nat} (ha : a < 4096) : j5_cl a g < 4096 := Nat.lt_of_le_of_lt Nat.and_le_left ha
set_option maxRecDepth 100000 in
set_option maxHeartbeats 4000000 in
theorem ev5_openTo {G : jj_G} {s : jj_S} {k : Nat} (hk : k < 12) : jj_Ev G m5_openTo 0 [.ref 9, .int (nI k)] (jj_m s) 0 0 (some (.int (wa_op s k))) (jj_m s) := by
  refine jj_Ev_of (lo := [some (.ref 9), some (.int (nI k))]) (by decide +kernel) (Nat.le_of_ble_eq_true rfl) rfl (by trivial) ?_
  refine jj_iload_n dX5_openTo_0 rfl ?_
  refine jj_if_lt (tgt := 22) dX5_openTo_1 (by decide) (fun zz => absurd zz (jb_lt0 (by omega))) (fun _ => ?_)
  refine jj_iload_n dX5_openTo_4 rfl ?_
  refine jj_aload_n dX5_openTo_5 rfl ?_
  refine jj_getf dX5_openTo_6 fl5_9 rfl rfl ?_
  refine jv_alen_i (v := 12) dX5_openTo_9 rfl rfl ?_
  refine jj_icmp_ge (tgt := 22) dX5_openTo_10 (by decide) (fun zz => absurd zz (jb_ge hk (by decide))) (fun _ => ?_)
  refine jj_aload_n dX5_openTo_13 rfl ?_
  refine jj_getf dX5_openTo_14 fl5_9 rfl rfl ?_
  refine jj_iload_n dX5_openTo_17 rfl ?_
  refine jv_iald dX5_openTo_18 rfl (hk) (by decide) ?_
  refine jj_goto (tgt := 23) dX5_openTo_19 (by decide) ?_
  exact jj_leaf dX5_openTo_23 rfl rfl
theorem ev5_openTo_n {G : jj_G} {s : jj_S} {o : Nat → Nat} {k : Nat} (ho : j5_ok s o) (hk : k < 12) : jj_Ev G m5_openTo 0 [.ref 9, .int (nI k)] (jj_m s) 0 0 (some (.int (nI (o k)))) (jj_m s) := by
  have := ev5_openTo (G := G) (s := s) hk
  rwa [(ho k hk).1] at this
set_option maxRecDepth 100000 in
set_option maxHeartbeats 4000000 in
theorem ev5_forgetFound {G : jj_G} {s : jj_S}  : jj_Ev G m5_forgetFound 0 [.ref 9] (jj_m s) 0 0 (none) (jj_m (wa_wfS (wa_rfS s 0) 0)) := by
  refine jj_Ev_of (lo := [some (.ref 9)]) (by decide +kernel) (Nat.le_of_ble_eq_true rfl) rfl (by trivial) ?_
  refine jj_aload_n dX5_forgetFound_0 rfl ?_
  refine jj_iconst (v := 0) dX5_forgetFound_1 (by decide) ?_
  refine jj_putf dX5_forgetFound_2 (fw5_33 _) rfl (Nat.le_of_ble_eq_true rfl) rfl rfl rfl ?_
  refine jj_aload_n dX5_forgetFound_5 rfl ?_
  refine jj_iconst (v := 0) dX5_forgetFound_6 (by decide) ?_
  refine jj_putf dX5_forgetFound_7 (fw5_37 _) rfl (Nat.le_of_ble_eq_true rfl) rfl rfl rfl ?_
  exact jj_leaf dX5_forgetFound_10 rfl rfl
set_option maxRecDepth 100000 in
set_option maxHeartbeats 4000000 in
theorem ev5_setOpen {G : jj_G} {s : jj_S} {k : Nat} (x : Int32) (hk : k < 12) : jj_Ev G m5_setOpen 1 [.ref 9, .int (nI k), .int x] (jj_m s) 0 0 (none) (jj_m (wa_wfS (wa_rfS (wa_opS s (jU (wa_op s) k x)) 0) 0)) := by
  refine jj_Ev_of (lo := [some (.ref 9), some (.int (nI k)), some (.int x)]) (by decide +kernel) (Nat.le_of_ble_eq_true rfl) rfl (by trivial) ?_
  refine jj_iload_n dX5_setOpen_0 rfl ?_
  refine jj_if_lt (tgt := 20) dX5_setOpen_1 (by decide) (fun zz => absurd zz (jb_lt0 (by omega))) (fun _ => ?_)
  refine jj_iload_n dX5_setOpen_4 rfl ?_
  refine jj_aload_n dX5_setOpen_5 rfl ?_
  refine jj_getf dX5_setOpen_6 fl5_9 rfl rfl ?_
  refine jv_alen_i (v := 12) dX5_setOpen_9 rfl rfl ?_
  refine jj_icmp_ge (tgt := 20) dX5_setOpen_10 (by decide) (fun zz => absurd zz (jb_ge hk (by decide))) (fun _ => ?_)
  refine jj_aload_n dX5_setOpen_13 rfl ?_
  refine jj_getf dX5_setOpen_14 fl5_9 rfl rfl ?_
  refine jj_iload_n dX5_setOpen_17 rfl ?_
  refine jj_iload_n dX5_setOpen_18 rfl ?_
  refine jv_iast dX5_setOpen_19 rfl (hk) (by decide) rfl ?_
  refine jj_aload_n dX5_setOpen_20 rfl ?_
  refine jj_callV (M2 := m5_forgetFound) dX5_setOpen_21 ml5_30 tm5_forgetFound (ev5_forgetFound (s := wa_opS s (jU (wa_op s) k x))) rfl rfl rfl rfl rfl (by omega) (Nat.le_of_ble_eq_true rfl) ?_
  exact jj_leaf dX5_setOpen_24 rfl rfl
set_option maxRecDepth 100000 in
set_option maxHeartbeats 4000000 in
theorem ev5_clear {G : jj_G} {s : jj_S}  : jj_Ev G m5_clear 3 [.ref 9] (jj_m s) 0 0 (none) (jj_m (wa_wfS (wa_rfS (wa_opS s (jF (fun f => nI (jb_al f)) (wa_op s) 12)) 0) 0)) := by
  refine jj_Ev_of (lo := [some (.ref 9), none]) (by decide +kernel) (Nat.le_of_ble_eq_true rfl) rfl (by trivial) ?_
  have L : ∀ k, k ≤ 12 → jj_Go G m5_clear 3 2 [some (.ref 9), some (.int (nI k))] [] (jj_m (wa_opS s (jF (fun f => nI (jb_al f)) (wa_op s) k))) 0 0 (none) (jj_m (wa_wfS (wa_rfS (wa_opS s (jF (fun f => nI (jb_al f)) (wa_op s) 12)) 0) 0)) := by
    refine jj_up 12 (fun k hk ih => ?_) ?_
    · refine jj_iload_n dX5_clear_2 rfl ?_
      refine jj_aload_n dX5_clear_3 rfl ?_
      refine jj_getf dX5_clear_4 fl5_9 rfl rfl ?_
      refine jv_alen_i (v := 12) dX5_clear_7 rfl rfl ?_
      refine jj_icmp_ge (tgt := 27) dX5_clear_8 (by decide) (fun zz => absurd zz (jb_ge hk (by decide))) (fun _ => ?_)
      refine jj_aload_n dX5_clear_11 rfl ?_
      refine jj_getf dX5_clear_12 fl5_9 rfl rfl ?_
      refine jj_iload_n dX5_clear_15 rfl ?_
      refine jj_iload_n dX5_clear_16 rfl ?_
      refine jj_callS (M2 := m0_allBeside) dX5_clear_17 ml5_24 tm0_allBeside (ev0_allBeside hk) rfl rfl (by omega) (Nat.le_of_ble_eq_true rfl) ?_
      refine jv_iast dX5_clear_20 rfl (hk) (by decide) rfl ?_
      refine jj_iinc dX5_clear_21 rfl (jb_i k) (by decide) rfl ?_
      refine jj_goto (tgt := 2) dX5_clear_24 (by decide) ?_
      exact jj_eq rfl rfl rfl (by rw [← jF_s' (f := fun f => nI (jb_al f)) rfl]; rfl) ih
    · refine jj_iload_n dX5_clear_2 rfl ?_
      refine jj_aload_n dX5_clear_3 rfl ?_
      refine jj_getf dX5_clear_4 fl5_9 rfl rfl ?_
      refine jv_alen_i (v := 12) dX5_clear_7 rfl rfl ?_
      refine jj_icmp_ge (tgt := 27) dX5_clear_8 (by decide) (fun _ => ?_) (fun zz => absurd (jb_ge' (n := 12) (by decide)) zz)
      refine jj_aload_n dX5_clear_27 rfl ?_
      refine jj_callV (M2 := m5_forgetFound) dX5_clear_28 ml5_30 tm5_forgetFound (ev5_forgetFound (s := wa_opS s (jF (fun f => nI (jb_al f)) (wa_op s) 12))) rfl rfl rfl rfl rfl (by omega) (Nat.le_of_ble_eq_true rfl) ?_
      exact jj_leaf dX5_clear_31 rfl rfl
  refine jj_iconst (v := 0) dX5_clear_0 (by decide) ?_
  refine jj_istore_n dX5_clear_1 rfl (by decide) rfl ?_
  exact jj_eq rfl rfl rfl (by rw [jF_0]; rfl) (L 0 (by decide))
set_option maxRecDepth 100000 in
set_option maxHeartbeats 4000000 in
theorem ev5_through_t {G : jj_G} {s : jj_S} {o : Nat → Nat} {f t : Nat} (ho : j5_ok s o) (hf : f < 12) (ht : t < 5) (hb : (o f).testBit (jb_s f t) = true) : jj_Ev G m5_through 2 [.ref 9, .int (nI f), .int (nI t)] (jj_m s) 0 0 (some (.int (nI (jb_s f t)))) (jj_m s) := by
  refine jj_Ev_of (lo := [some (.ref 9), some (.int (nI f)), some (.int (nI t)), none]) (by decide +kernel) (Nat.le_of_ble_eq_true rfl) rfl (by trivial) ?_
  refine jj_iload_n dX5_through_0 rfl ?_
  refine jj_iload_n dX5_through_1 rfl ?_
  refine jj_callS (M2 := m0_across) dX5_through_2 ml5_51 tm0_across (ev0_across hf ht) rfl rfl (by omega) (Nat.le_of_ble_eq_true rfl) ?_
  refine jj_istore_n dX5_through_5 rfl (by decide) rfl ?_
  refine jj_aload_n dX5_through_6 rfl ?_
  refine jj_iload_n dX5_through_7 rfl ?_
  refine jj_callV (M2 := m5_openTo) dX5_through_8 ml5_44 tm5_openTo (ev5_openTo_n ho hf) rfl rfl rfl rfl rfl (by omega) (Nat.le_of_ble_eq_true rfl) ?_
  refine jj_iload_n dX5_through_11 rfl ?_
  refine jj_callS (M2 := m0_holds) dX5_through_12 ml5_54 tm0_holds (ev0_holds (a := o f) (by have := (ho f hf).2; omega) (jb_s_lt f hf t ht)) rfl rfl (by omega) (Nat.le_of_ble_eq_true rfl) ?_
  refine jj_if_eq (tgt := 22) dX5_through_15 (by decide) (fun zz => absurd zz (by rw [jb_bt hb]; decide)) (fun _ => ?_)
  refine jj_iload_n dX5_through_18 rfl ?_
  refine jj_goto (tgt := 23) dX5_through_19 (by decide) ?_
  exact jj_leaf dX5_through_23 rfl rfl
set_option maxRecDepth 100000 in
set_option maxHeartbeats 4000000 in
theorem ev5_through_f {G : jj_G} {s : jj_S} {o : Nat → Nat} {f t : Nat} (ho : j5_ok s o) (hf : f < 12) (ht : t < 5) (hb : ¬ (o f).testBit (jb_s f t) = true) : jj_Ev G m5_through 2 [.ref 9, .int (nI f), .int (nI t)] (jj_m s) 0 0 (some (.int (-1))) (jj_m s) := by
  refine jj_Ev_of (lo := [some (.ref 9), some (.int (nI f)), some (.int (nI t)), none]) (by decide +kernel) (Nat.le_of_ble_eq_true rfl) rfl (by trivial) ?_
  refine jj_iload_n dX5_through_0 rfl ?_
  refine jj_iload_n dX5_through_1 rfl ?_
  refine jj_callS (M2 := m0_across) dX5_through_2 ml5_51 tm0_across (ev0_across hf ht) rfl rfl (by omega) (Nat.le_of_ble_eq_true rfl) ?_
  refine jj_istore_n dX5_through_5 rfl (by decide) rfl ?_
  refine jj_aload_n dX5_through_6 rfl ?_
  refine jj_iload_n dX5_through_7 rfl ?_
  refine jj_callV (M2 := m5_openTo) dX5_through_8 ml5_44 tm5_openTo (ev5_openTo_n ho hf) rfl rfl rfl rfl rfl (by omega) (Nat.le_of_ble_eq_true rfl) ?_
  refine jj_iload_n dX5_through_11 rfl ?_
  refine jj_callS (M2 := m0_holds) dX5_through_12 ml5_54 tm0_holds (ev0_holds (a := o f) (by have := (ho f hf).2; omega) (jb_s_lt f hf t ht)) rfl rfl (by omega) (Nat.le_of_ble_eq_true rfl) ?_
  refine jj_if_eq (tgt := 22) dX5_through_15 (by decide) (fun _ => ?_) (fun zz => absurd (jb_bf hb) zz)
  refine jj_iconst (v := (-1)) dX5_through_22 (by decide) ?_
  exact jj_leaf dX5_through_23 rfl rfl
set_option maxRecDepth 100000 in
set_option maxHeartbeats 4000000 in
theorem ev5_sidesClosed {G : jj_G} {s : jj_S} {o : Nat → Nat} {f : Nat} (ho : j5_ok s o) (hf : f < 12) : jj_Ev G m5_sidesClosed 3 [.ref 9, .int (nI f)] (jj_m s) 0 0 (some (.int (nI (j5_sc o f 5)))) (jj_m s) := by
  refine jj_Ev_of (lo := [some (.ref 9), some (.int (nI f)), none, none]) (by decide +kernel) (Nat.le_of_ble_eq_true rfl) rfl (by trivial) ?_
  have L : ∀ k, k ≤ 5 → jj_Go G m5_sidesClosed 3 4 [some (.ref 9), some (.int (nI f)), some (.int (nI (j5_sc o f k))), some (.int (nI k))] [] (jj_m s) 0 0 (some (.int (nI (j5_sc o f 5)))) (jj_m s) := by
    refine jj_up 5 (fun k hk ih => ?_) ?_
    · unfold j5_sc at ih
      by_cases hb : (o f).testBit (jb_s f k) = true
      · rw [if_pos hb] at ih
        refine jj_iload_n dX5_sidesClosed_4 rfl ?_
        refine jj_iconst (v := 5) dX5_sidesClosed_5 (by decide) ?_
        refine jj_icmp_ge (tgt := 31) dX5_sidesClosed_6 (by decide) (fun zz => absurd zz (jb_ge hk (by decide))) (fun _ => ?_)
        refine jj_aload_n dX5_sidesClosed_9 rfl ?_
        refine jj_iload_n dX5_sidesClosed_10 rfl ?_
        refine jj_iload_n dX5_sidesClosed_11 rfl ?_
        refine jj_callV (M2 := m5_through) dX5_sidesClosed_12 ml5_58 tm5_through (ev5_through_t ho hf hk hb) rfl rfl rfl rfl rfl (by omega) (Nat.le_of_ble_eq_true rfl) ?_
        refine jj_iconst (v := (-1)) dX5_sidesClosed_15 (by decide) ?_
        refine jj_icmp_ne (tgt := 25) dX5_sidesClosed_16 (by decide) (fun _ => ?_) (fun zz => absurd zz (jb_nm1 (by have := jb_s_lt f hf k hk; omega)))
        refine jj_iinc dX5_sidesClosed_25 rfl (jb_i k) (by decide) rfl ?_
        refine jj_goto (tgt := 4) dX5_sidesClosed_28 (by decide) ?_
        exact ih
      · rw [if_neg hb] at ih
        refine jj_iload_n dX5_sidesClosed_4 rfl ?_
        refine jj_iconst (v := 5) dX5_sidesClosed_5 (by decide) ?_
        refine jj_icmp_ge (tgt := 31) dX5_sidesClosed_6 (by decide) (fun zz => absurd zz (jb_ge hk (by decide))) (fun _ => ?_)
        refine jj_aload_n dX5_sidesClosed_9 rfl ?_
        refine jj_iload_n dX5_sidesClosed_10 rfl ?_
        refine jj_iload_n dX5_sidesClosed_11 rfl ?_
        refine jj_callV (M2 := m5_through) dX5_sidesClosed_12 ml5_58 tm5_through (ev5_through_f ho hf hk hb) rfl rfl rfl rfl rfl (by omega) (Nat.le_of_ble_eq_true rfl) ?_
        refine jj_iconst (v := (-1)) dX5_sidesClosed_15 (by decide) ?_
        refine jj_icmp_ne (tgt := 25) dX5_sidesClosed_16 (by decide) (fun zz => absurd rfl zz) (fun _ => ?_)
        refine jj_iload_n dX5_sidesClosed_19 rfl ?_
        refine jj_iconst (v := 1) dX5_sidesClosed_20 (by decide) ?_
        refine jj_iload_n dX5_sidesClosed_21 rfl ?_
        refine jj_ishl dX5_sidesClosed_22 (jb_2k k (by omega)) ?_
        refine jj_ior dX5_sidesClosed_23 (fa_or _ _) ?_
        refine jj_istore_n dX5_sidesClosed_24 rfl (by decide) rfl ?_
        refine jj_iinc dX5_sidesClosed_25 rfl (jb_i k) (by decide) rfl ?_
        refine jj_goto (tgt := 4) dX5_sidesClosed_28 (by decide) ?_
        exact ih
    · refine jj_iload_n dX5_sidesClosed_4 rfl ?_
      refine jj_iconst (v := 5) dX5_sidesClosed_5 (by decide) ?_
      refine jj_icmp_ge (tgt := 31) dX5_sidesClosed_6 (by decide) (fun _ => ?_) (fun zz => absurd (jb_ge' (n := 5) (by decide)) zz)
      refine jj_iload_n dX5_sidesClosed_31 rfl ?_
      exact jj_leaf dX5_sidesClosed_32 rfl rfl
  refine jj_iconst (v := 0) dX5_sidesClosed_0 (by decide) ?_
  refine jj_istore_n dX5_sidesClosed_1 rfl (by decide) rfl ?_
  refine jj_iconst (v := 0) dX5_sidesClosed_2 (by decide) ?_
  refine jj_istore_n dX5_sidesClosed_3 rfl (by decide) rfl ?_
  exact L 0 (by decide)
set_option maxRecDepth 100000 in
set_option maxHeartbeats 4000000 in
theorem ev5_wallCount {G : jj_G} {s : jj_S} {o : Nat → Nat}  (ho : j5_ok s o) : jj_Ev G m5_wallCount 4 [.ref 9] (jj_m s) 0 0 (some (.int (nI (j5_wl o 12 / 2)))) (jj_m s) := by
  refine jj_Ev_of (lo := [some (.ref 9), none, none]) (by decide +kernel) (Nat.le_of_ble_eq_true rfl) rfl (by trivial) ?_
  have L : ∀ k, k ≤ 12 → jj_Go G m5_wallCount 4 4 [some (.ref 9), some (.int (nI (j5_wl o k))), some (.int (nI k))] [] (jj_m s) 0 0 (some (.int (nI (j5_wl o 12 / 2)))) (jj_m s) := by
    refine jj_up 12 (fun k hk ih => ?_) ?_
    · refine jj_iload_n dX5_wallCount_4 rfl ?_
      refine jj_bipush (v := 12) dX5_wallCount_5 (by decide) ?_
      refine jj_icmp_ge (tgt := 27) dX5_wallCount_7 (by decide) (fun zz => absurd zz (jb_ge hk (by decide))) (fun _ => ?_)
      refine jj_iload_n dX5_wallCount_10 rfl ?_
      refine jj_aload_n dX5_wallCount_11 rfl ?_
      refine jj_iload_n dX5_wallCount_12 rfl ?_
      refine jj_callV (M2 := m5_sidesClosed) dX5_wallCount_13 ml5_61 tm5_sidesClosed (ev5_sidesClosed ho hk) rfl rfl rfl rfl rfl (by omega) (Nat.le_of_ble_eq_true rfl) ?_
      refine jj_callS (M2 := mJ6_bitCount) dX5_wallCount_16 ml5_64 tmJ6_bitCount (evJ6_bitCount (a := j5_sc o k 5) (by have := j5_sc_lt o k 5 (Nat.le_refl 5); omega)) rfl rfl (by omega) (Nat.le_of_ble_eq_true rfl) ?_
      refine jj_iadd dX5_wallCount_19 (nI_add _ _) ?_
      refine jj_istore_n dX5_wallCount_20 rfl (by decide) rfl ?_
      refine jj_iinc dX5_wallCount_21 rfl (jb_i k) (by decide) rfl ?_
      refine jj_goto (tgt := 4) dX5_wallCount_24 (by decide) ?_
      exact ih
    · refine jj_iload_n dX5_wallCount_4 rfl ?_
      refine jj_bipush (v := 12) dX5_wallCount_5 (by decide) ?_
      refine jj_icmp_ge (tgt := 27) dX5_wallCount_7 (by decide) (fun _ => ?_) (fun zz => absurd (jb_ge' (n := 12) (by decide)) zz)
      refine jj_iload_n dX5_wallCount_27 rfl ?_
      refine jj_iconst (v := 2) dX5_wallCount_28 (by decide) ?_
      refine jj_idiv dX5_wallCount_29 (by decide) (pk_div (d := 2) (by have := j5_wl_le o 12; omega) (by decide) (by decide)) ?_
      exact jj_leaf dX5_wallCount_30 rfl rfl
  refine jj_iconst (v := 0) dX5_wallCount_0 (by decide) ?_
  refine jj_istore_n dX5_wallCount_1 rfl (by decide) rfl ?_
  refine jj_iconst (v := 0) dX5_wallCount_2 (by decide) ?_
  refine jj_istore_n dX5_wallCount_3 rfl (by decide) rfl ?_
  exact L 0 (by decide)
set_option maxRecDepth 100000 in
set_option maxHeartbeats 4000000 in
theorem ev5_openToAny {G : jj_G} {s : jj_S} {o : Nat → Nat} {a : Nat} (ho : j5_ok s o) (ha : a < 4096) : jj_Ev G m5_openToAny 2 [.ref 9, .int (nI a)] (jj_m s) 0 0 (some (.int (nI (j5_any o a 12)))) (jj_m s) := by
  refine jj_Ev_of (lo := [some (.ref 9), some (.int (nI a)), none, none]) (by decide +kernel) (Nat.le_of_ble_eq_true rfl) rfl (by trivial) ?_
  have L : ∀ k, k ≤ 12 → jj_Go G m5_openToAny 2 4 [some (.ref 9), some (.int (nI a)), some (.int (nI (j5_any o a k))), some (.int (nI k))] [] (jj_m s) 0 0 (some (.int (nI (j5_any o a 12)))) (jj_m s) := by
    refine jj_up 12 (fun k hk ih => ?_) ?_
    · refine jj_iload_n dX5_openToAny_4 rfl ?_
      refine jj_bipush (v := 12) dX5_openToAny_5 (by decide) ?_
      refine jj_icmp_ge (tgt := 32) dX5_openToAny_7 (by decide) (fun zz => absurd zz (jb_ge hk (by decide))) (fun _ => ?_)
      refine jj_iload_n dX5_openToAny_10 rfl ?_
      refine jj_iload_n dX5_openToAny_11 rfl ?_
      refine jj_callS (M2 := m0_holds) dX5_openToAny_12 ml5_54 tm0_holds (ev0_holds (a := a) (by omega) hk) rfl rfl (by omega) (Nat.le_of_ble_eq_true rfl) ?_
      refine jj_if_eq (tgt := 26) dX5_openToAny_15 (by decide) (fun c15 => ?_) (fun c15 => ?_)
      · refine jj_iinc dX5_openToAny_26 rfl (jb_i k) (by decide) rfl ?_
        refine jj_goto (tgt := 4) dX5_openToAny_29 (by decide) ?_
        unfold j5_any at ih
        first | (rw [if_neg (jb_b0 c15)] at ih; exact ih) | (rw [if_pos (jb_b1 c15)] at ih; exact ih)
      · refine jj_iload_n dX5_openToAny_18 rfl ?_
        refine jj_aload_n dX5_openToAny_19 rfl ?_
        refine jj_iload_n dX5_openToAny_20 rfl ?_
        refine jj_callV (M2 := m5_openTo) dX5_openToAny_21 ml5_44 tm5_openTo (ev5_openTo_n ho hk) rfl rfl rfl rfl rfl (by omega) (Nat.le_of_ble_eq_true rfl) ?_
        refine jj_ior dX5_openToAny_24 (fa_or _ _) ?_
        refine jj_istore_n dX5_openToAny_25 rfl (by decide) rfl ?_
        refine jj_iinc dX5_openToAny_26 rfl (jb_i k) (by decide) rfl ?_
        refine jj_goto (tgt := 4) dX5_openToAny_29 (by decide) ?_
        unfold j5_any at ih
        first | (rw [if_neg (jb_b0 c15)] at ih; exact ih) | (rw [if_pos (jb_b1 c15)] at ih; exact ih)
    · refine jj_iload_n dX5_openToAny_4 rfl ?_
      refine jj_bipush (v := 12) dX5_openToAny_5 (by decide) ?_
      refine jj_icmp_ge (tgt := 32) dX5_openToAny_7 (by decide) (fun _ => ?_) (fun zz => absurd (jb_ge' (n := 12) (by decide)) zz)
      refine jj_iload_n dX5_openToAny_32 rfl ?_
      exact jj_leaf dX5_openToAny_33 rfl rfl
  refine jj_iconst (v := 0) dX5_openToAny_0 (by decide) ?_
  refine jj_istore_n dX5_openToAny_1 rfl (by decide) rfl ?_
  refine jj_iconst (v := 0) dX5_openToAny_2 (by decide) ?_
  refine jj_istore_n dX5_openToAny_3 rfl (by decide) rfl ?_
  exact L 0 (by decide)
set_option maxRecDepth 100000 in
set_option maxHeartbeats 4000000 in
theorem ev5_insideOf {G : jj_G} {s : jj_S} {o : Nat → Nat} {f : Nat} (ho : j5_ok s o) (hf : f < 12) : jj_Ev G m5_insideOf 3 [.ref 9, .int (nI f)] (jj_m s) 0 0 (some (.int (nI (j5_in o f 11)))) (jj_m s) := by
  refine jj_Ev_of (lo := [some (.ref 9), some (.int (nI f)), none, none]) (by decide +kernel) (Nat.le_of_ble_eq_true rfl) rfl (by trivial) ?_
  have hb := j5_in_lt (fun f hf => (ho f hf).2) hf
  have L : ∀ k, k ≤ 11 → jj_Go G m5_insideOf 3 6 [some (.ref 9), some (.int (nI f)), some (.int (nI (j5_in o f k))), some (.int (nI (k + 1)))] [] (jj_m s) 0 0 (some (.int (nI (j5_in o f 11)))) (jj_m s) := by
    refine jj_up 11 (fun k hk ih => ?_) ?_
    · refine jj_iload_n dX5_insideOf_6 rfl ?_
      refine jj_bipush (v := 12) dX5_insideOf_7 (by decide) ?_
      refine jj_icmp_ge (tgt := 26) dX5_insideOf_9 (by decide) (fun zz => absurd zz (jb_ge (k := k + 1) (n := 12) (by omega) (by decide))) (fun _ => ?_)
      refine jj_iload_n dX5_insideOf_12 rfl ?_
      refine jj_aload_n dX5_insideOf_13 rfl ?_
      refine jj_iload_n dX5_insideOf_14 rfl ?_
      refine jj_callV (M2 := m5_openToAny) dX5_insideOf_15 ml5_69 tm5_openToAny (ev5_openToAny ho (hb k)) rfl rfl rfl rfl rfl (by omega) (Nat.le_of_ble_eq_true rfl) ?_
      refine jj_ior dX5_insideOf_18 (fa_or _ _) ?_
      refine jj_istore_n dX5_insideOf_19 rfl (by decide) rfl ?_
      refine jj_iinc dX5_insideOf_20 rfl (jb_i (k + 1)) (by decide) rfl ?_
      refine jj_goto (tgt := 6) dX5_insideOf_23 (by decide) ?_
      exact ih
    · refine jj_iload_n dX5_insideOf_6 rfl ?_
      refine jj_bipush (v := 12) dX5_insideOf_7 (by decide) ?_
      refine jj_icmp_ge (tgt := 26) dX5_insideOf_9 (by decide) (fun _ => ?_) (fun zz => absurd (jb_ge' (n := 12) (by decide)) zz)
      refine jj_iload_n dX5_insideOf_26 rfl ?_
      exact jj_leaf dX5_insideOf_27 rfl rfl
  refine jj_iconst (v := 1) dX5_insideOf_0 (by decide) ?_
  refine jj_iload_n dX5_insideOf_1 rfl ?_
  refine jj_ishl dX5_insideOf_2 (jb_2k f (by omega)) ?_
  refine jj_istore_n dX5_insideOf_3 rfl (by decide) rfl ?_
  refine jj_iconst (v := 1) dX5_insideOf_4 (by decide) ?_
  refine jj_istore_n dX5_insideOf_5 rfl (by decide) rfl ?_
  exact L 0 (by decide)
set_option maxRecDepth 100000 in
set_option maxHeartbeats 4000000 in
theorem ev5_insideCount {G : jj_G} {s : jj_S} {o : Nat → Nat}  (ho : j5_ok s o) : jj_Ev G m5_insideCount 4 [.ref 9] (jj_m s) 0 0 (some (.int (nI (j5_ic o 12).2))) (jj_m s) := by
  refine jj_Ev_of (lo := [some (.ref 9), none, none, none]) (by decide +kernel) (Nat.le_of_ble_eq_true rfl) rfl (by trivial) ?_
  have hb := j5_ic_lt (fun f hf => (ho f hf).2)
  have L : ∀ k, k ≤ 12 → jj_Go G m5_insideCount 4 6 [some (.ref 9), some (.int (nI (j5_ic o k).1)), some (.int (nI (j5_ic o k).2)), some (.int (nI k))] [] (jj_m s) 0 0 (some (.int (nI (j5_ic o 12).2))) (jj_m s) := by
    refine jj_up 12 (fun k hk ih => ?_) ?_
    · refine jj_iload_n dX5_insideCount_6 rfl ?_
      refine jj_bipush (v := 12) dX5_insideCount_7 (by decide) ?_
      refine jj_icmp_ge (tgt := 37) dX5_insideCount_9 (by decide) (fun zz => absurd zz (jb_ge hk (by decide))) (fun _ => ?_)
      refine jj_iload_n dX5_insideCount_12 rfl ?_
      refine jj_iload_n dX5_insideCount_13 rfl ?_
      refine jj_callS (M2 := m0_holds) dX5_insideCount_14 ml5_54 tm0_holds (ev0_holds (a := (j5_ic o k).1) (by have := hb k (by omega); omega) hk) rfl rfl (by omega) (Nat.le_of_ble_eq_true rfl) ?_
      refine jj_if_ne (tgt := 31) dX5_insideCount_17 (by decide) (fun c17 => ?_) (fun c17 => ?_)
      · refine jj_iinc dX5_insideCount_31 rfl (jb_i k) (by decide) rfl ?_
        refine jj_goto (tgt := 6) dX5_insideCount_34 (by decide) ?_
        unfold j5_ic at ih
        first | (rw [if_pos (jb_b1 c17)] at ih; exact ih) | (rw [if_neg (jb_b0 c17)] at ih; exact ih)
      · refine jj_iinc dX5_insideCount_20 rfl (jb_i _) (by decide) rfl ?_
        refine jj_iload_n dX5_insideCount_23 rfl ?_
        refine jj_aload_n dX5_insideCount_24 rfl ?_
        refine jj_iload_n dX5_insideCount_25 rfl ?_
        refine jj_callV (M2 := m5_insideOf) dX5_insideCount_26 ml5_72 tm5_insideOf (ev5_insideOf ho hk) rfl rfl rfl rfl rfl (by omega) (Nat.le_of_ble_eq_true rfl) ?_
        refine jj_ior dX5_insideCount_29 (fa_or _ _) ?_
        refine jj_istore_n dX5_insideCount_30 rfl (by decide) rfl ?_
        refine jj_iinc dX5_insideCount_31 rfl (jb_i k) (by decide) rfl ?_
        refine jj_goto (tgt := 6) dX5_insideCount_34 (by decide) ?_
        unfold j5_ic at ih
        first | (rw [if_pos (jb_b1 c17)] at ih; exact ih) | (rw [if_neg (jb_b0 c17)] at ih; exact ih)
    · refine jj_iload_n dX5_insideCount_6 rfl ?_
      refine jj_bipush (v := 12) dX5_insideCount_7 (by decide) ?_
      refine jj_icmp_ge (tgt := 37) dX5_insideCount_9 (by decide) (fun _ => ?_) (fun zz => absurd (jb_ge' (n := 12) (by decide)) zz)
      refine jj_iload_n dX5_insideCount_37 rfl ?_
      exact jj_leaf dX5_insideCount_38 rfl rfl
  refine jj_iconst (v := 0) dX5_insideCount_0 (by decide) ?_
  refine jj_istore_n dX5_insideCount_1 rfl (by decide) rfl ?_
  refine jj_iconst (v := 0) dX5_insideCount_2 (by decide) ?_
  refine jj_istore_n dX5_insideCount_3 rfl (by decide) rfl ?_
  refine jj_iconst (v := 0) dX5_insideCount_4 (by decide) ?_
  refine jj_istore_n dX5_insideCount_5 rfl (by decide) rfl ?_
  exact L 0 (by decide)
set_option maxRecDepth 100000 in
set_option maxHeartbeats 4000000 in
theorem ev5_wardsAll {G : jj_G} {s : jj_S} {o : Nat → Nat} {a : Nat} (ho : j5_ok s o) (_ha : a < 4096) : jj_Ev G m5_wardsAll 0 [.ref 9, .int (nI a)] (jj_m s) 0 0 (some (.int (jb_b (j5_wa o a = true)))) (jj_m s) := by
  refine jj_Ev_of (lo := [some (.ref 9), some (.int (nI a)), none]) (by decide +kernel) (Nat.le_of_ble_eq_true rfl) rfl (jb_b01 _) ?_
  have L : ∀ k, k ≤ 12 → (∀ j, j < k → ¬ o j &&& a = 0) → jj_Go G m5_wardsAll 0 2 [some (.ref 9), some (.int (nI a)), some (.int (nI k))] [] (jj_m s) 0 0 (some (.int (jb_b (j5_wa o a = true)))) (jj_m s) := by
    refine jj_up 12 (fun k hk ih => ?_) ?_
    · intro hp
      have e1 : wa_op s k = nI (o k) := (ho k hk).1
      have hlt : o k &&& a < 2 ^ 31 := Nat.lt_of_le_of_lt Nat.and_le_left (by have := (ho k hk).2; omega)
      refine jj_iload_n dX5_wardsAll_2 rfl ?_
      refine jj_aload_n dX5_wardsAll_3 rfl ?_
      refine jj_getf dX5_wardsAll_4 fl5_9 rfl rfl ?_
      refine jv_alen_i (v := 12) dX5_wardsAll_7 rfl rfl ?_
      refine jj_icmp_ge (tgt := 30) dX5_wardsAll_8 (by decide) (fun zz => absurd zz (jb_ge hk (by decide))) (fun _ => ?_)
      refine jj_aload_n dX5_wardsAll_11 rfl ?_
      refine jj_getf dX5_wardsAll_12 fl5_9 rfl rfl ?_
      refine jj_iload_n dX5_wardsAll_15 rfl ?_
      refine jv_iald dX5_wardsAll_16 rfl (hk) (by decide) ?_
      refine jj_iload_n dX5_wardsAll_17 rfl ?_
      refine jj_iand (v := nI (o k &&& a)) dX5_wardsAll_18 (by rw [e1]; exact fa_and _ _) ?_
      refine jj_if_ne (tgt := 24) dX5_wardsAll_19 (by decide) (fun c19 => ?_) (fun c19 => ?_)
      · refine jj_iinc dX5_wardsAll_24 rfl (jb_i k) (by decide) rfl ?_
        refine jj_goto (tgt := 2) dX5_wardsAll_27 (by decide) ?_
        refine ih (fun j hj => ?_)
        rcases Nat.lt_or_ge j k with q | q
        · exact hp j q
        · rw [show j = k by omega]
          exact fun z => c19 (by rw [z]; rfl)
      · refine jj_iconst (v := 0) dX5_wardsAll_22 (by decide) ?_
        exact jj_leaf dX5_wardsAll_23 (by unfold j5_wa; rw [jb_bf (fun q => by have := (jb_all_iff _ 12).mp q k hk; simp [(jb_inj hlt (by decide)).mp c19] at this)]; rfl) rfl
    · intro hp
      refine jj_iload_n dX5_wardsAll_2 rfl ?_
      refine jj_aload_n dX5_wardsAll_3 rfl ?_
      refine jj_getf dX5_wardsAll_4 fl5_9 rfl rfl ?_
      refine jv_alen_i (v := 12) dX5_wardsAll_7 rfl rfl ?_
      refine jj_icmp_ge (tgt := 30) dX5_wardsAll_8 (by decide) (fun _ => ?_) (fun zz => absurd (jb_ge' (n := 12) (by decide)) zz)
      refine jj_iconst (v := 1) dX5_wardsAll_30 (by decide) ?_
      exact jj_leaf dX5_wardsAll_31 (by unfold j5_wa; rw [jb_bt ((jb_all_iff _ 12).mpr fun j hj => by simpa using hp j hj)]; rfl) rfl
  refine jj_iconst (v := 0) dX5_wardsAll_0 (by decide) ?_
  refine jj_istore_n dX5_wardsAll_1 rfl (by decide) rfl ?_
  exact L 0 (by decide) (fun j hj => absurd hj (by omega))
set_option maxRecDepth 100000 in
set_option maxHeartbeats 4000000 in
theorem ev5_findWardens {G : jj_G} {s : jj_S} {o : Nat → Nat}  {w : Int32 × Int32 × Nat} (ho : j5_ok s o) (hW : j5_wd o 4096 = w) : jj_Ev G m5_findWardens 1 [.ref 9] (jj_m s) 0 0 (none) (jj_m (j5_fw s w)) := by
  refine jj_Ev_of (lo := [some (.ref 9), none, none, none]) (by decide +kernel) (Nat.le_of_ble_eq_true rfl) rfl (by trivial) ?_
  unfold j5_fw
  by_cases hw : wa_wf s = 0
  · rw [if_pos hw]
    have fin : jj_m (wa_wfS (wa_wnS (wa_wsS (wa_wcS s w.1) w.2.1) (nI w.2.2)) 1) = jj_m (j5_fw s w) := by unfold j5_fw; rw [if_pos hw]
    rw [fin]
    have L : ∀ k, k ≤ 4096 → jj_Go G m5_findWardens 1 25 [some (.ref 9), some (.int (nI k)), none, none] [] (jj_m (wa_wnS (wa_wsS (wa_wcS s (j5_wd o k).1) (j5_wd o k).2.1) (nI (j5_wd o k).2.2))) 0 0 (none) (jj_m (j5_fw s w)) := by
      refine jj_up 4096 (fun k hk ih => ?_) ?_
      · by_cases hA : (j5_wd o k).1 = -1 ∨ nI (jb_pc k) < (j5_wd o k).1
        · have J : jj_Go G m5_findWardens 1 59 [some (.ref 9), some (.int (nI k)), some (.int (nI (jb_pc k))), some (.int 1)] [] (jj_m (wa_wnS (wa_wsS (wa_wcS s (j5_wd o k).1) (j5_wd o k).2.1) (nI (j5_wd o k).2.2))) 0 0 (none) (jj_m (j5_fw s w)) := by
            refine jj_iload_n dX5_findWardens_59 rfl ?_
            refine jj_if_ne (tgt := 71) dX5_findWardens_60 (by decide) (fun _ => ?_) (fun zz => absurd zz (by decide))
            refine jj_aload_n dX5_findWardens_71 rfl ?_
            refine jj_iload_n dX5_findWardens_72 rfl ?_
            refine jj_callV (M2 := m5_wardsAll) dX5_findWardens_73 ml5_88 tm5_wardsAll (ev5_wardsAll (s := (wa_wnS (wa_wsS (wa_wcS s (j5_wd o k).1) (j5_wd o k).2.1) (nI (j5_wd o k).2.2))) (o := o) (a := k) ho (by omega)) rfl rfl rfl rfl rfl (by omega) (Nat.le_of_ble_eq_true rfl) ?_
            refine jj_if_eq (tgt := 108) dX5_findWardens_76 (by decide) (fun c76 => ?_) (fun c76 => ?_)
            · refine jj_iinc dX5_findWardens_108 rfl (jb_i k) (by decide) rfl ?_
              refine jj_goto (tgt := 25) dX5_findWardens_111 (by decide) ?_
              have e : j5_wd o (k + 1) = _ := show j5_wst _ _ _ _ = _ by unfold j5_wst; rw [if_pos hA, if_neg (jb_b0 c76)]
              rw [e] at ih
              refine jj_less (lo' := [some (.ref 9), some (.int (nI (k + 1))), none, none]) (fun j v hj => ?_) (jj_eq rfl rfl rfl rfl ih)
              match j, hj with
              | 0, hj => exact hj
              | 1, hj => exact hj
              | 2, hj => exact absurd hj (by simp)
              | 3, hj => exact absurd hj (by simp)
              | j + 4, hj => exact absurd hj (by simp)
            · refine jj_iload_n dX5_findWardens_79 rfl ?_
              refine jj_if_eq (tgt := 98) dX5_findWardens_80 (by decide) (fun zz => absurd zz (by decide)) (fun _ => ?_)
              refine jj_aload_n dX5_findWardens_83 rfl ?_
              refine jj_iload_n dX5_findWardens_84 rfl ?_
              refine jj_putf dX5_findWardens_85 (fw5_78 _) rfl (Nat.le_of_ble_eq_true rfl) rfl rfl rfl ?_
              refine jj_aload_n dX5_findWardens_88 rfl ?_
              refine jj_iload_n dX5_findWardens_89 rfl ?_
              refine jj_putf dX5_findWardens_90 (fw5_82 _) rfl (Nat.le_of_ble_eq_true rfl) rfl rfl rfl ?_
              refine jj_aload_n dX5_findWardens_93 rfl ?_
              refine jj_iconst (v := 0) dX5_findWardens_94 (by decide) ?_
              refine jj_putf dX5_findWardens_95 (fw5_85 _) rfl (Nat.le_of_ble_eq_true rfl) rfl rfl rfl ?_
              refine jj_aload_n dX5_findWardens_98 rfl ?_
              refine jj_dup dX5_findWardens_99 rfl ?_
              refine jj_getf dX5_findWardens_100 fl5_85 rfl rfl ?_
              refine jj_iconst (v := 1) dX5_findWardens_103 (by decide) ?_
              refine jj_iadd (v := nI 1) dX5_findWardens_104 (by decide) ?_
              refine jj_putf dX5_findWardens_105 (fw5_85 _) rfl (Nat.le_of_ble_eq_true rfl) rfl rfl rfl ?_
              refine jj_iinc dX5_findWardens_108 rfl (jb_i k) (by decide) rfl ?_
              refine jj_goto (tgt := 25) dX5_findWardens_111 (by decide) ?_
              have e : j5_wd o (k + 1) = _ := show j5_wst _ _ _ _ = _ by unfold j5_wst; rw [if_pos hA, if_pos (jb_b1 c76)]
              rw [e] at ih
              refine jj_less (lo' := [some (.ref 9), some (.int (nI (k + 1))), none, none]) (fun j v hj => ?_) (jj_eq rfl rfl rfl rfl ih)
              match j, hj with
              | 0, hj => exact hj
              | 1, hj => exact hj
              | 2, hj => exact absurd hj (by simp)
              | 3, hj => exact absurd hj (by simp)
              | j + 4, hj => exact absurd hj (by simp)
          refine jj_iload_n dX5_findWardens_25 rfl ?_
          refine jj_sipush (v := 4095) dX5_findWardens_26 (by decide) ?_
          refine jj_icmp_gt (tgt := 114) dX5_findWardens_29 (by decide) (fun zz => absurd zz (nI_nlt (a := 4095) (b := k) (by omega) (by omega) |> fun q z => q z)) (fun _ => ?_)
          refine jj_iload_n dX5_findWardens_32 rfl ?_
          refine jj_callS (M2 := mJ6_bitCount) dX5_findWardens_33 ml5_64 tmJ6_bitCount (evJ6_bitCount (a := k) (by omega)) rfl rfl (by omega) (Nat.le_of_ble_eq_true rfl) ?_
          refine jj_istore_n dX5_findWardens_36 rfl (by decide) rfl ?_
          refine jj_aload_n dX5_findWardens_37 rfl ?_
          refine jj_getf dX5_findWardens_38 fl5_78 rfl rfl ?_
          refine jj_iconst (v := (-1)) dX5_findWardens_41 (by decide) ?_
          refine jj_icmp_eq (tgt := 53) dX5_findWardens_42 (by decide) (fun c42 => ?_) (fun c42 => ?_)
          · refine jj_iconst (v := 1) dX5_findWardens_53 (by decide) ?_
            refine jj_goto (tgt := 58) dX5_findWardens_54 (by decide) ?_
            refine jj_istore_n dX5_findWardens_58 rfl (by decide) rfl ?_
            exact J
          · refine jj_iload_n dX5_findWardens_45 rfl ?_
            refine jj_aload_n dX5_findWardens_46 rfl ?_
            refine jj_getf dX5_findWardens_47 fl5_78 rfl rfl ?_
            refine jj_icmp_ge (tgt := 57) dX5_findWardens_50 (by decide) (fun c50 => ?_) (fun c50 => ?_)
            · exact absurd (hA.resolve_left c42) (Int32.not_lt.mpr c50)
            · refine jj_iconst (v := 1) dX5_findWardens_53 (by decide) ?_
              refine jj_goto (tgt := 58) dX5_findWardens_54 (by decide) ?_
              refine jj_istore_n dX5_findWardens_58 rfl (by decide) rfl ?_
              exact J
        · by_cases hB : nI (jb_pc k) = (j5_wd o k).1
          · have J : jj_Go G m5_findWardens 1 59 [some (.ref 9), some (.int (nI k)), some (.int (nI (jb_pc k))), some (.int 0)] [] (jj_m (wa_wnS (wa_wsS (wa_wcS s (j5_wd o k).1) (j5_wd o k).2.1) (nI (j5_wd o k).2.2))) 0 0 (none) (jj_m (j5_fw s w)) := by
              refine jj_iload_n dX5_findWardens_59 rfl ?_
              refine jj_if_ne (tgt := 71) dX5_findWardens_60 (by decide) (fun zz => absurd rfl zz) (fun _ => ?_)
              refine jj_iload_n dX5_findWardens_63 rfl ?_
              refine jj_aload_n dX5_findWardens_64 rfl ?_
              refine jj_getf dX5_findWardens_65 fl5_78 rfl rfl ?_
              refine jj_icmp_ne (tgt := 108) dX5_findWardens_68 (by decide) (fun zz => absurd hB zz) (fun _ => ?_)
              refine jj_aload_n dX5_findWardens_71 rfl ?_
              refine jj_iload_n dX5_findWardens_72 rfl ?_
              refine jj_callV (M2 := m5_wardsAll) dX5_findWardens_73 ml5_88 tm5_wardsAll (ev5_wardsAll (s := (wa_wnS (wa_wsS (wa_wcS s (j5_wd o k).1) (j5_wd o k).2.1) (nI (j5_wd o k).2.2))) (o := o) (a := k) ho (by omega)) rfl rfl rfl rfl rfl (by omega) (Nat.le_of_ble_eq_true rfl) ?_
              refine jj_if_eq (tgt := 108) dX5_findWardens_76 (by decide) (fun c76 => ?_) (fun c76 => ?_)
              · refine jj_iinc dX5_findWardens_108 rfl (jb_i k) (by decide) rfl ?_
                refine jj_goto (tgt := 25) dX5_findWardens_111 (by decide) ?_
                have e : j5_wd o (k + 1) = _ := show j5_wst _ _ _ _ = _ by unfold j5_wst; rw [if_neg hA, if_pos hB, if_neg (jb_b0 c76)]
                rw [e] at ih
                refine jj_less (lo' := [some (.ref 9), some (.int (nI (k + 1))), none, none]) (fun j v hj => ?_) (jj_eq rfl rfl rfl rfl ih)
                match j, hj with
                | 0, hj => exact hj
                | 1, hj => exact hj
                | 2, hj => exact absurd hj (by simp)
                | 3, hj => exact absurd hj (by simp)
                | j + 4, hj => exact absurd hj (by simp)
              · refine jj_iload_n dX5_findWardens_79 rfl ?_
                refine jj_if_eq (tgt := 98) dX5_findWardens_80 (by decide) (fun _ => ?_) (fun zz => absurd rfl zz)
                refine jj_aload_n dX5_findWardens_98 rfl ?_
                refine jj_dup dX5_findWardens_99 rfl ?_
                refine jj_getf dX5_findWardens_100 fl5_85 rfl rfl ?_
                refine jj_iconst (v := 1) dX5_findWardens_103 (by decide) ?_
                refine jj_iadd dX5_findWardens_104 (jb_i _) ?_
                refine jj_putf dX5_findWardens_105 (fw5_85 _) rfl (Nat.le_of_ble_eq_true rfl) rfl rfl rfl ?_
                refine jj_iinc dX5_findWardens_108 rfl (jb_i k) (by decide) rfl ?_
                refine jj_goto (tgt := 25) dX5_findWardens_111 (by decide) ?_
                have e : j5_wd o (k + 1) = _ := show j5_wst _ _ _ _ = _ by unfold j5_wst; rw [if_neg hA, if_pos hB, if_pos (jb_b1 c76)]
                rw [e] at ih
                refine jj_less (lo' := [some (.ref 9), some (.int (nI (k + 1))), none, none]) (fun j v hj => ?_) (jj_eq rfl rfl rfl rfl ih)
                match j, hj with
                | 0, hj => exact hj
                | 1, hj => exact hj
                | 2, hj => exact absurd hj (by simp)
                | 3, hj => exact absurd hj (by simp)
                | j + 4, hj => exact absurd hj (by simp)
            refine jj_iload_n dX5_findWardens_25 rfl ?_
            refine jj_sipush (v := 4095) dX5_findWardens_26 (by decide) ?_
            refine jj_icmp_gt (tgt := 114) dX5_findWardens_29 (by decide) (fun zz => absurd zz (nI_nlt (a := 4095) (b := k) (by omega) (by omega) |> fun q z => q z)) (fun _ => ?_)
            refine jj_iload_n dX5_findWardens_32 rfl ?_
            refine jj_callS (M2 := mJ6_bitCount) dX5_findWardens_33 ml5_64 tmJ6_bitCount (evJ6_bitCount (a := k) (by omega)) rfl rfl (by omega) (Nat.le_of_ble_eq_true rfl) ?_
            refine jj_istore_n dX5_findWardens_36 rfl (by decide) rfl ?_
            refine jj_aload_n dX5_findWardens_37 rfl ?_
            refine jj_getf dX5_findWardens_38 fl5_78 rfl rfl ?_
            refine jj_iconst (v := (-1)) dX5_findWardens_41 (by decide) ?_
            refine jj_icmp_eq (tgt := 53) dX5_findWardens_42 (by decide) (fun zz => absurd zz (fun q => hA (Or.inl q))) (fun _ => ?_)
            refine jj_iload_n dX5_findWardens_45 rfl ?_
            refine jj_aload_n dX5_findWardens_46 rfl ?_
            refine jj_getf dX5_findWardens_47 fl5_78 rfl rfl ?_
            refine jj_icmp_ge (tgt := 57) dX5_findWardens_50 (by decide) (fun _ => ?_) (fun zz => absurd (Int32.not_lt.mp fun q => hA (Or.inr q)) zz)
            refine jj_iconst (v := 0) dX5_findWardens_57 (by decide) ?_
            refine jj_istore_n dX5_findWardens_58 rfl (by decide) rfl ?_
            exact J
          · have e : j5_wd o (k + 1) = _ := show j5_wst _ _ _ _ = _ by unfold j5_wst; rw [if_neg hA, if_neg hB]
            rw [e] at ih
            refine jj_iload_n dX5_findWardens_25 rfl ?_
            refine jj_sipush (v := 4095) dX5_findWardens_26 (by decide) ?_
            refine jj_icmp_gt (tgt := 114) dX5_findWardens_29 (by decide) (fun zz => absurd zz (nI_nlt (a := 4095) (b := k) (by omega) (by omega) |> fun q z => q z)) (fun _ => ?_)
            refine jj_iload_n dX5_findWardens_32 rfl ?_
            refine jj_callS (M2 := mJ6_bitCount) dX5_findWardens_33 ml5_64 tmJ6_bitCount (evJ6_bitCount (a := k) (by omega)) rfl rfl (by omega) (Nat.le_of_ble_eq_true rfl) ?_
            refine jj_istore_n dX5_findWardens_36 rfl (by decide) rfl ?_
            refine jj_aload_n dX5_findWardens_37 rfl ?_
            refine jj_getf dX5_findWardens_38 fl5_78 rfl rfl ?_
            refine jj_iconst (v := (-1)) dX5_findWardens_41 (by decide) ?_
            refine jj_icmp_eq (tgt := 53) dX5_findWardens_42 (by decide) (fun zz => absurd zz (fun q => hA (Or.inl q))) (fun _ => ?_)
            refine jj_iload_n dX5_findWardens_45 rfl ?_
            refine jj_aload_n dX5_findWardens_46 rfl ?_
            refine jj_getf dX5_findWardens_47 fl5_78 rfl rfl ?_
            refine jj_icmp_ge (tgt := 57) dX5_findWardens_50 (by decide) (fun _ => ?_) (fun zz => absurd (Int32.not_lt.mp fun q => hA (Or.inr q)) zz)
            refine jj_iconst (v := 0) dX5_findWardens_57 (by decide) ?_
            refine jj_istore_n dX5_findWardens_58 rfl (by decide) rfl ?_
            refine jj_iload_n dX5_findWardens_59 rfl ?_
            refine jj_if_ne (tgt := 71) dX5_findWardens_60 (by decide) (fun zz => absurd rfl zz) (fun _ => ?_)
            refine jj_iload_n dX5_findWardens_63 rfl ?_
            refine jj_aload_n dX5_findWardens_64 rfl ?_
            refine jj_getf dX5_findWardens_65 fl5_78 rfl rfl ?_
            refine jj_icmp_ne (tgt := 108) dX5_findWardens_68 (by decide) (fun _ => ?_) (fun zz => absurd zz hB)
            refine jj_iinc dX5_findWardens_108 rfl (jb_i k) (by decide) rfl ?_
            refine jj_goto (tgt := 25) dX5_findWardens_111 (by decide) ?_
            refine jj_less (lo' := [some (.ref 9), some (.int (nI (k + 1))), none, none]) (fun j v hj => ?_) (jj_eq rfl rfl rfl rfl ih)
            match j, hj with
            | 0, hj => exact hj
            | 1, hj => exact hj
            | 2, hj => exact absurd hj (by simp)
            | 3, hj => exact absurd hj (by simp)
            | j + 4, hj => exact absurd hj (by simp)
      · rw [hW]
        refine jj_iload_n dX5_findWardens_25 rfl ?_
        refine jj_sipush (v := 4095) dX5_findWardens_26 (by decide) ?_
        refine jj_icmp_gt (tgt := 114) dX5_findWardens_29 (by decide) (fun _ => ?_) (fun zz => absurd (nI_lt (a := 4095) (b := 4096) (by decide) (by decide)) zz)
        refine jj_aload_n dX5_findWardens_114 rfl ?_
        refine jj_iconst (v := 1) dX5_findWardens_115 (by decide) ?_
        refine jj_putf dX5_findWardens_116 (fw5_37 _) rfl (Nat.le_of_ble_eq_true rfl) rfl rfl rfl ?_
        exact jj_leaf dX5_findWardens_119 rfl fin
    refine jj_aload_n dX5_findWardens_0 rfl ?_
    refine jj_getf dX5_findWardens_1 fl5_37 rfl rfl ?_
    refine jj_if_eq (tgt := 8) dX5_findWardens_4 (by decide) (fun _ => ?_) (fun zz => absurd hw zz)
    refine jj_aload_n dX5_findWardens_8 rfl ?_
    refine jj_iconst (v := (-1)) dX5_findWardens_9 (by decide) ?_
    refine jj_putf dX5_findWardens_10 (fw5_78 _) rfl (Nat.le_of_ble_eq_true rfl) rfl rfl rfl ?_
    refine jj_aload_n dX5_findWardens_13 rfl ?_
    refine jj_iconst (v := (-1)) dX5_findWardens_14 (by decide) ?_
    refine jj_putf dX5_findWardens_15 (fw5_82 _) rfl (Nat.le_of_ble_eq_true rfl) rfl rfl rfl ?_
    refine jj_aload_n dX5_findWardens_18 rfl ?_
    refine jj_iconst (v := 0) dX5_findWardens_19 (by decide) ?_
    refine jj_putf dX5_findWardens_20 (fw5_85 _) rfl (Nat.le_of_ble_eq_true rfl) rfl rfl rfl ?_
    refine jj_iconst (v := 0) dX5_findWardens_23 (by decide) ?_
    refine jj_istore_n dX5_findWardens_24 rfl (by decide) rfl ?_
    refine jj_less (lo' := [some (.ref 9), some (.int (nI 0)), none, none]) (fun j v hj => ?_) (jj_eq rfl rfl rfl rfl (L 0 (by decide)))
    match j, hj with
    | 0, hj => exact hj
    | 1, hj => exact hj
    | 2, hj => exact absurd hj (by simp)
    | 3, hj => exact absurd hj (by simp)
    | j + 4, hj => exact absurd hj (by simp)
  · rw [if_neg hw]
    refine jj_aload_n dX5_findWardens_0 rfl ?_
    refine jj_getf dX5_findWardens_1 fl5_37 rfl rfl ?_
    refine jj_if_eq (tgt := 8) dX5_findWardens_4 (by decide) (fun zz => absurd zz hw) (fun _ => ?_)
    exact jj_leaf dX5_findWardens_7 rfl rfl
set_option maxRecDepth 100000 in
set_option maxHeartbeats 4000000 in
theorem ev5_wardenCount {G : jj_G} {s : jj_S} {o : Nat → Nat}  {w : Int32 × Int32 × Nat} (ho : j5_ok s o) (hW : j5_wd o 4096 = w) : jj_Ev G m5_wardenCount 2 [.ref 9] (jj_m s) 0 0 (some (.int (wa_wc (j5_fw s w)))) (jj_m (j5_fw s w)) := by
  refine jj_Ev_of (lo := [some (.ref 9)]) (by decide +kernel) (Nat.le_of_ble_eq_true rfl) rfl (by trivial) ?_
  refine jj_aload_n dX5_wardenCount_0 rfl ?_
  refine jj_callV (M2 := m5_findWardens) dX5_wardenCount_1 ml5_75 tm5_findWardens (ev5_findWardens ho hW) rfl rfl rfl rfl rfl (by omega) (Nat.le_of_ble_eq_true rfl) ?_
  refine jj_aload_n dX5_wardenCount_4 rfl ?_
  refine jj_getf dX5_wardenCount_5 fl5_78 rfl rfl ?_
  exact jj_leaf dX5_wardenCount_8 rfl rfl
set_option maxRecDepth 100000 in
set_option maxHeartbeats 4000000 in
theorem ev5_wardenSet {G : jj_G} {s : jj_S} {o : Nat → Nat}  {w : Int32 × Int32 × Nat} (ho : j5_ok s o) (hW : j5_wd o 4096 = w) : jj_Ev G m5_wardenSet 2 [.ref 9] (jj_m s) 0 0 (some (.int (wa_ws (j5_fw s w)))) (jj_m (j5_fw s w)) := by
  refine jj_Ev_of (lo := [some (.ref 9)]) (by decide +kernel) (Nat.le_of_ble_eq_true rfl) rfl (by trivial) ?_
  refine jj_aload_n dX5_wardenSet_0 rfl ?_
  refine jj_callV (M2 := m5_findWardens) dX5_wardenSet_1 ml5_75 tm5_findWardens (ev5_findWardens ho hW) rfl rfl rfl rfl rfl (by omega) (Nat.le_of_ble_eq_true rfl) ?_
  refine jj_aload_n dX5_wardenSet_4 rfl ?_
  refine jj_getf dX5_wardenSet_5 fl5_82 rfl rfl ?_
  exact jj_leaf dX5_wardenSet_8 rfl rfl
set_option maxRecDepth 100000 in
set_option maxHeartbeats 4000000 in
theorem ev5_wardenSets {G : jj_G} {s : jj_S} {o : Nat → Nat}  {w : Int32 × Int32 × Nat} (ho : j5_ok s o) (hW : j5_wd o 4096 = w) : jj_Ev G m5_wardenSets 2 [.ref 9] (jj_m s) 0 0 (some (.int (wa_wn (j5_fw s w)))) (jj_m (j5_fw s w)) := by
  refine jj_Ev_of (lo := [some (.ref 9)]) (by decide +kernel) (Nat.le_of_ble_eq_true rfl) rfl (by trivial) ?_
  refine jj_aload_n dX5_wardenSets_0 rfl ?_
  refine jj_callV (M2 := m5_findWardens) dX5_wardenSets_1 ml5_75 tm5_findWardens (ev5_findWardens ho hW) rfl rfl rfl rfl rfl (by omega) (Nat.le_of_ble_eq_true rfl) ?_
  refine jj_aload_n dX5_wardenSets_4 rfl ?_
  refine jj_getf dX5_wardenSets_5 fl5_85 rfl rfl ?_
  exact jj_leaf dX5_wardenSets_8 rfl rfl
theorem j5_okS {s : jj_S} {o : Nat → Nat} {f x : Nat} (ho : j5_ok s o) (hx : x < 4096) : j5_ok (wa_wfS (wa_rfS (wa_opS s (jU (wa_op s) f (nI x))) 0) 0) (jU o f x) := by
  intro k hk
  by_cases e : k = f
  · subst e
    exact ⟨(jU_at _ _ _).trans (by rw [jU_at]), by rw [jU_at]; exact hx⟩
  · exact ⟨(jU_ne _ _ e).trans (by rw [jU_ne _ _ e]; exact (ho k hk).1), by rw [jU_ne _ _ e]; exact (ho k hk).2⟩
set_option maxRecDepth 100000 in
set_option maxHeartbeats 4000000 in
theorem ev5_close {G : jj_G} {s : jj_S} {o : Nat → Nat} {f g : Nat} (ho : j5_ok s o) (hf : f < 12) (hg : g < 12) (hs : ¬ jb_sd f g = -1) : jj_Ev G m5_close 3 [.ref 9, .int (nI f), .int (nI g)] (jj_m s) 0 0 (none) (jj_m (wa_wfS (wa_rfS (wa_opS (wa_wfS (wa_rfS (wa_opS s (jU (wa_op s) f (nI (j5_cl (o f) g)))) 0) 0) (jU (wa_op (wa_wfS (wa_rfS (wa_opS s (jU (wa_op s) f (nI (j5_cl (o f) g)))) 0) 0)) g (nI (j5_cl ((jU o f (j5_cl (o f) g)) g) f)))) 0) 0)) := by
  refine jj_Ev_of (lo := [some (.ref 9), some (.int (nI f)), some (.int (nI g))]) (by decide +kernel) (Nat.le_of_ble_eq_true rfl) rfl (by trivial) ?_
  have h1 := j5_okS (f := f) (x := j5_cl (o f) g) ho (j5_cl_lt (ho f hf).2)
  refine jj_iload_n dX5_close_0 rfl ?_
  refine jj_iload_n dX5_close_1 rfl ?_
  refine jj_callS (M2 := m0_sideTo) dX5_close_2 ml5_40 tm0_sideTo (ev0_sideTo hf hg) rfl rfl (by omega) (Nat.le_of_ble_eq_true rfl) ?_
  refine jj_iconst (v := (-1)) dX5_close_5 (by decide) ?_
  refine jj_icmp_eq (tgt := 41) dX5_close_6 (by decide) (fun zz => absurd zz hs) (fun _ => ?_)
  refine jj_aload_n dX5_close_9 rfl ?_
  refine jj_iload_n dX5_close_10 rfl ?_
  refine jj_aload_n dX5_close_11 rfl ?_
  refine jj_iload_n dX5_close_12 rfl ?_
  refine jj_callV (M2 := m5_openTo) dX5_close_13 ml5_44 tm5_openTo (ev5_openTo_n ho hf) rfl rfl rfl rfl rfl (by omega) (Nat.le_of_ble_eq_true rfl) ?_
  refine jj_iconst (v := 1) dX5_close_16 (by decide) ?_
  refine jj_iload_n dX5_close_17 rfl ?_
  refine jj_ishl dX5_close_18 (jb_2k g (by omega)) ?_
  refine jj_iconst (v := (-1)) dX5_close_19 (by decide) ?_
  refine jj_ixor dX5_close_20 rfl ?_
  refine jj_iand dX5_close_21 (j5_clv (ho f hf).2 hg) ?_
  refine jj_callV (M2 := m5_setOpen) dX5_close_22 ml5_47 tm5_setOpen (ev5_setOpen (s := s) _ hf) rfl rfl rfl rfl rfl (by omega) (Nat.le_of_ble_eq_true rfl) ?_
  refine jj_aload_n dX5_close_25 rfl ?_
  refine jj_iload_n dX5_close_26 rfl ?_
  refine jj_aload_n dX5_close_27 rfl ?_
  refine jj_iload_n dX5_close_28 rfl ?_
  refine jj_callV (M2 := m5_openTo) dX5_close_29 ml5_44 tm5_openTo (ev5_openTo_n h1 hg) rfl rfl rfl rfl rfl (by omega) (Nat.le_of_ble_eq_true rfl) ?_
  refine jj_iconst (v := 1) dX5_close_32 (by decide) ?_
  refine jj_iload_n dX5_close_33 rfl ?_
  refine jj_ishl dX5_close_34 (jb_2k f (by omega)) ?_
  refine jj_iconst (v := (-1)) dX5_close_35 (by decide) ?_
  refine jj_ixor dX5_close_36 rfl ?_
  refine jj_iand dX5_close_37 (j5_clv (h1 g hg).2 hf) ?_
  refine jj_callV (M2 := m5_setOpen) dX5_close_38 ml5_47 tm5_setOpen (ev5_setOpen (s := (wa_wfS (wa_rfS (wa_opS s (jU (wa_op s) f (nI (j5_cl (o f) g)))) 0) 0)) _ hg) rfl rfl rfl rfl rfl (by omega) (Nat.le_of_ble_eq_true rfl) ?_
  exact jj_leaf dX5_close_41 rfl rfl
set_option maxRecDepth 100000 in
set_option maxHeartbeats 4000000 in
theorem ev5_open {G : jj_G} {s : jj_S} {o : Nat → Nat} {f g : Nat} (ho : j5_ok s o) (hf : f < 12) (hg : g < 12) (hs : ¬ jb_sd f g = -1) : jj_Ev G m5_open 3 [.ref 9, .int (nI f), .int (nI g)] (jj_m s) 0 0 (none) (jj_m (wa_wfS (wa_rfS (wa_opS (wa_wfS (wa_rfS (wa_opS s (jU (wa_op s) f (nI ((o f) ||| 2 ^ g)))) 0) 0) (jU (wa_op (wa_wfS (wa_rfS (wa_opS s (jU (wa_op s) f (nI ((o f) ||| 2 ^ g)))) 0) 0)) g (nI (((jU o f ((o f) ||| 2 ^ g)) g) ||| 2 ^ f)))) 0) 0)) := by
  refine jj_Ev_of (lo := [some (.ref 9), some (.int (nI f)), some (.int (nI g))]) (by decide +kernel) (Nat.le_of_ble_eq_true rfl) rfl (by trivial) ?_
  have h1 := j5_okS (f := f) (x := (o f) ||| 2 ^ g) ho (Nat.or_lt_two_pow (n := 12) (ho f hf).2 (Nat.pow_lt_pow_right (by decide) hg))
  refine jj_iload_n dX5_open_0 rfl ?_
  refine jj_iload_n dX5_open_1 rfl ?_
  refine jj_callS (M2 := m0_sideTo) dX5_open_2 ml5_40 tm0_sideTo (ev0_sideTo hf hg) rfl rfl (by omega) (Nat.le_of_ble_eq_true rfl) ?_
  refine jj_iconst (v := (-1)) dX5_open_5 (by decide) ?_
  refine jj_icmp_eq (tgt := 37) dX5_open_6 (by decide) (fun zz => absurd zz hs) (fun _ => ?_)
  refine jj_aload_n dX5_open_9 rfl ?_
  refine jj_iload_n dX5_open_10 rfl ?_
  refine jj_aload_n dX5_open_11 rfl ?_
  refine jj_iload_n dX5_open_12 rfl ?_
  refine jj_callV (M2 := m5_openTo) dX5_open_13 ml5_44 tm5_openTo (ev5_openTo_n ho hf) rfl rfl rfl rfl rfl (by omega) (Nat.le_of_ble_eq_true rfl) ?_
  refine jj_iconst (v := 1) dX5_open_16 (by decide) ?_
  refine jj_iload_n dX5_open_17 rfl ?_
  refine jj_ishl dX5_open_18 (jb_2k g (by omega)) ?_
  refine jj_ior dX5_open_19 (fa_or _ _) ?_
  refine jj_callV (M2 := m5_setOpen) dX5_open_20 ml5_47 tm5_setOpen (ev5_setOpen (s := s) _ hf) rfl rfl rfl rfl rfl (by omega) (Nat.le_of_ble_eq_true rfl) ?_
  refine jj_aload_n dX5_open_23 rfl ?_
  refine jj_iload_n dX5_open_24 rfl ?_
  refine jj_aload_n dX5_open_25 rfl ?_
  refine jj_iload_n dX5_open_26 rfl ?_
  refine jj_callV (M2 := m5_openTo) dX5_open_27 ml5_44 tm5_openTo (ev5_openTo_n h1 hg) rfl rfl rfl rfl rfl (by omega) (Nat.le_of_ble_eq_true rfl) ?_
  refine jj_iconst (v := 1) dX5_open_30 (by decide) ?_
  refine jj_iload_n dX5_open_31 rfl ?_
  refine jj_ishl dX5_open_32 (jb_2k f (by omega)) ?_
  refine jj_ior dX5_open_33 (fa_or _ _) ?_
  refine jj_callV (M2 := m5_setOpen) dX5_open_34 ml5_47 tm5_setOpen (ev5_setOpen (s := (wa_wfS (wa_rfS (wa_opS s (jU (wa_op s) f (nI ((o f) ||| 2 ^ g)))) 0) 0)) _ hg) rfl rfl rfl rfl rfl (by omega) (Nat.le_of_ble_eq_true rfl) ?_
  exact jj_leaf dX5_open_37 rfl rfl
