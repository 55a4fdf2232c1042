/-! SHARES: a pair of rows of longs (here, then) -/
abbrev j2_P : Type := (Nat → Int64) × (Nat → Int64)
def j2_S (s : jj_S) (P : j2_P) : jj_S := sh_thS (sh_heS s P.1) P.2
def j2_so (x : Nat) (P : j2_P) (k : Nat) : j2_P := (jF (fun f => if f = x then 1 else 0) P.1 k, jF (fun _ => 0) P.2 k)
def j2_gv (a : Nat) (v : Int64) (th : Nat → Int64) : Nat → Nat → Int64
  | 0 => th
  | k + 1 => if a.testBit k = true then jU (j2_gv a v th k) k (j2_gv a v th k k + v) else j2_gv a v th k
def j2_ar (P : j2_P) (k : Nat) : j2_P := (jF P.2 P.1 k, jF (fun _ => 0) P.2 k)
/-- all give, the first k of them: a field's goals, what it gives -/
def j2_rw (gl : Nat → Nat) (sv : Nat → Int64 → Int64) (P : j2_P) : Nat → Nat → Int64
  | 0 => P.2
  | k + 1 => j2_gv (gl k) (sv k (P.1 k)) (j2_rw gl sv P k) 12
def j2_wk (gl : Nat → Nat) (sv : Nat → Int64 → Int64) (P : j2_P) : Nat → j2_P
  | 0 => P
  | n + 1 => j2_ar ((j2_wk gl sv P n).1, j2_rw gl sv (j2_wk gl sv P n) 12) 12
def j2_gl (o : Nat → Nat) (k : Nat) : Nat := if o k = 0 then 2 ^ k else o k
def j2_sh (c : Nat) : Nat := if c = 0 then 0 else 60 / c
def j2_bl : Nat → Int64
  | 0 => 1
  | k + 1 => j2_bl k * 60
def j2_gcd : Nat → Int64 → Int64 → Int64
  | 0, a, _ => a
  | n + 1, a, b => if b = 0 then a else j2_gcd n b (a - a / b * b)
def j2_od (c ab bl : Int64) (part : Int32) : Int64 := if c = 0 then 0 else if part = 0 then ab / c else bl / c
theorem j2_gl_lt {o : Nat → Nat} (ho : ∀ f, f < 12 → o f < 4096) {k : Nat} (hk : k < 12) : j2_gl o k < 4096 := by
  unfold j2_gl
  split
  · exact Nat.pow_lt_pow_right (a := 2) (by decide) hk
  · exact ho k hk
theorem j2_c0 {x y : Int64} (h : x = y) : lg_cmp x y = 0 := (lg_cmp_eq x y).mpr h
theorem j2_c1 {x y : Int64} (h : lg_cmp x y = 0) : x = y := (lg_cmp_eq x y).mp h
set_option maxRecDepth 100000 in
set_option maxHeartbeats 4000000 in
theorem ev2_setOut {G : jj_G} {s : jj_S} {x : Nat} (hx : x < 12) : jj_Ev G m2_setOut 0 [.ref 13, .int (nI x)] (jj_m s) 0 0 (none) (jj_m (j2_S s (j2_so x (sh_he s, sh_th s) 12))) := by
  refine jj_Ev_of (lo := [some (.ref 13), some (.int (nI x)), none]) (by decide +kernel) (Nat.le_of_ble_eq_true rfl) rfl (by trivial) ?_
  have L : ∀ k, k ≤ 12 → jj_Go G m2_setOut 0 2 [some (.ref 13), some (.int (nI x)), some (.int (nI k))] [] (jj_m (j2_S s (j2_so x (sh_he s, sh_th s) k))) 0 0 (none) (jj_m (j2_S s (j2_so x (sh_he s, sh_th s) 12))) := by
    refine jj_up 12 (fun k hk ih => ?_) ?_
    · refine jj_iload_n dX2_setOut_2 rfl ?_
      refine jj_aload_n dX2_setOut_3 rfl ?_
      refine jj_getf dX2_setOut_4 fl2_9 rfl rfl ?_
      refine jv_alen_l (v := 12) dX2_setOut_7 rfl rfl ?_
      refine jj_icmp_ge (tgt := 49) dX2_setOut_8 (by decide) (fun zz => absurd zz (jb_ge hk (by decide))) (fun _ => ?_)
      refine jj_iload_n dX2_setOut_11 rfl ?_
      refine jj_aload_n dX2_setOut_12 rfl ?_
      refine jj_getf dX2_setOut_13 fl2_15 rfl rfl ?_
      refine jv_alen_l (v := 12) dX2_setOut_16 rfl rfl ?_
      refine jj_icmp_ge (tgt := 49) dX2_setOut_17 (by decide) (fun zz => absurd zz (jb_ge hk (by decide))) (fun _ => ?_)
      refine jj_aload_n dX2_setOut_20 rfl ?_
      refine jj_getf dX2_setOut_21 fl2_9 rfl rfl ?_
      refine jj_iload_n dX2_setOut_24 rfl ?_
      refine jj_iload_n dX2_setOut_25 rfl ?_
      refine jj_iload_n dX2_setOut_26 rfl ?_
      refine jj_icmp_ne (tgt := 34) dX2_setOut_27 (by decide) (fun c27 => ?_) (fun c27 => ?_)
      · refine jj_lconst (v := 0) dX2_setOut_34 (by decide) ?_
        refine jv_last dX2_setOut_35 rfl (hk) (by decide) rfl ?_
        refine jj_aload_n dX2_setOut_36 rfl ?_
        refine jj_getf dX2_setOut_37 fl2_15 rfl rfl ?_
        refine jj_iload_n dX2_setOut_40 rfl ?_
        refine jj_lconst (v := 0) dX2_setOut_41 (by decide) ?_
        refine jv_last dX2_setOut_42 rfl (hk) (by decide) rfl ?_
        refine jj_iinc dX2_setOut_43 rfl (jb_i k) (by decide) rfl ?_
        refine jj_goto (tgt := 2) dX2_setOut_46 (by decide) ?_
        have hx' : x < 2 ^ 31 := by omega
        first | exact jj_eq rfl rfl rfl (by unfold j2_so; rw [← jF_s' (f := fun f => if f = x then (1 : Int64) else 0) (if_pos ((jb_inj (by omega) hx').mp c27)), ← jF_s' (f := fun _ => (0 : Int64)) rfl]; rfl) ih | exact jj_eq rfl rfl rfl (by unfold j2_so; rw [← jF_s' (f := fun f => if f = x then (1 : Int64) else 0) (if_neg fun q => c27 (by rw [q])), ← jF_s' (f := fun _ => (0 : Int64)) rfl]; rfl) ih
      · refine jj_lconst (v := 1) dX2_setOut_30 (by decide) ?_
        refine jj_goto (tgt := 35) dX2_setOut_31 (by decide) ?_
        refine jv_last dX2_setOut_35 rfl (hk) (by decide) rfl ?_
        refine jj_aload_n dX2_setOut_36 rfl ?_
        refine jj_getf dX2_setOut_37 fl2_15 rfl rfl ?_
        refine jj_iload_n dX2_setOut_40 rfl ?_
        refine jj_lconst (v := 0) dX2_setOut_41 (by decide) ?_
        refine jv_last dX2_setOut_42 rfl (hk) (by decide) rfl ?_
        refine jj_iinc dX2_setOut_43 rfl (jb_i k) (by decide) rfl ?_
        refine jj_goto (tgt := 2) dX2_setOut_46 (by decide) ?_
        have hx' : x < 2 ^ 31 := by omega
        first | exact jj_eq rfl rfl rfl (by unfold j2_so; rw [← jF_s' (f := fun f => if f = x then (1 : Int64) else 0) (if_pos ((jb_inj (by omega) hx').mp c27)), ← jF_s' (f := fun _ => (0 : Int64)) rfl]; rfl) ih | exact jj_eq rfl rfl rfl (by unfold j2_so; rw [← jF_s' (f := fun f => if f = x then (1 : Int64) else 0) (if_neg fun q => c27 (by rw [q])), ← jF_s' (f := fun _ => (0 : Int64)) rfl]; rfl) ih
    · refine jj_iload_n dX2_setOut_2 rfl ?_
      refine jj_aload_n dX2_setOut_3 rfl ?_
      refine jj_getf dX2_setOut_4 fl2_9 rfl rfl ?_
      refine jv_alen_l (v := 12) dX2_setOut_7 rfl rfl ?_
      refine jj_icmp_ge (tgt := 49) dX2_setOut_8 (by decide) (fun _ => ?_) (fun zz => absurd (jb_ge' (n := 12) (by decide)) zz)
      exact jj_leaf dX2_setOut_49 rfl rfl
  refine jj_iconst (v := 0) dX2_setOut_0 (by decide) ?_
  refine jj_istore_n dX2_setOut_1 rfl (by decide) rfl ?_
  exact jj_eq rfl rfl rfl (by unfold j2_so; rw [jF_0, jF_0]; rfl) (L 0 (by decide))
set_option maxRecDepth 100000 in
set_option maxHeartbeats 4000000 in
theorem ev2_giveAll {G : jj_G} {s : jj_S} {a : Nat} (v : Int64) (ha : a < 4096) : jj_Ev G m2_giveAll 2 [.ref 13, .int (nI a), .long v] (jj_m s) 0 0 (none) (jj_m (sh_thS s (j2_gv a v (sh_th s) 12))) := by
  refine jj_Ev_of (lo := [some (.ref 13), some (.int (nI a)), some (.long v), none, none]) (by decide +kernel) (Nat.le_of_ble_eq_true rfl) rfl (by trivial) ?_
  have L : ∀ k, k ≤ 12 → jj_Go G m2_giveAll 2 3 [some (.ref 13), some (.int (nI a)), some (.long v), none, some (.int (nI k))] [] (jj_m (sh_thS s (j2_gv a v (sh_th s) k))) 0 0 (none) (jj_m (sh_thS s (j2_gv a v (sh_th s) 12))) := by
    refine jj_up 12 (fun k hk ih => ?_) ?_
    · refine jj_iload dX2_giveAll_3 rfl ?_
      refine jj_aload_n dX2_giveAll_5 rfl ?_
      refine jj_getf dX2_giveAll_6 fl2_15 rfl rfl ?_
      refine jv_alen_l (v := 12) dX2_giveAll_9 rfl rfl ?_
      refine jj_icmp_ge (tgt := 39) dX2_giveAll_10 (by decide) (fun zz => absurd zz (jb_ge hk (by decide))) (fun _ => ?_)
      refine jj_iload_n dX2_giveAll_13 rfl ?_
      refine jj_iload dX2_giveAll_14 rfl ?_
      refine jj_callS (M2 := m0_holds) dX2_giveAll_16 ml2_53 tm0_holds (ev0_holds (a := a) (by omega) hk) rfl rfl (by omega) (Nat.le_of_ble_eq_true rfl) ?_
      refine jj_if_eq (tgt := 33) dX2_giveAll_19 (by decide) (fun c19 => ?_) (fun c19 => ?_)
      · refine jj_iinc dX2_giveAll_33 rfl (jb_i k) (by decide) rfl ?_
        refine jj_goto (tgt := 3) dX2_giveAll_36 (by decide) ?_
        unfold j2_gv at ih
        first | (rw [if_neg (jb_b0 c19)] at ih; exact jj_eq rfl rfl rfl rfl ih) | (rw [if_pos (jb_b1 c19)] at ih; exact jj_eq rfl rfl rfl rfl ih)
      · refine jj_aload_n dX2_giveAll_22 rfl ?_
        refine jj_getf dX2_giveAll_23 fl2_15 rfl rfl ?_
        refine jj_iload dX2_giveAll_26 rfl ?_
        refine jj_dup2 dX2_giveAll_28 rfl rfl ?_
        refine jv_lald dX2_giveAll_29 rfl (hk) (by decide) ?_
        refine jj_lload_n dX2_giveAll_30 rfl ?_
        refine jj_ladd dX2_giveAll_31 rfl ?_
        refine jv_last dX2_giveAll_32 rfl (hk) (by decide) rfl ?_
        refine jj_iinc dX2_giveAll_33 rfl (jb_i k) (by decide) rfl ?_
        refine jj_goto (tgt := 3) dX2_giveAll_36 (by decide) ?_
        unfold j2_gv at ih
        first | (rw [if_neg (jb_b0 c19)] at ih; exact jj_eq rfl rfl rfl rfl ih) | (rw [if_pos (jb_b1 c19)] at ih; exact jj_eq rfl rfl rfl rfl ih)
    · refine jj_iload dX2_giveAll_3 rfl ?_
      refine jj_aload_n dX2_giveAll_5 rfl ?_
      refine jj_getf dX2_giveAll_6 fl2_15 rfl rfl ?_
      refine jv_alen_l (v := 12) dX2_giveAll_9 rfl rfl ?_
      refine jj_icmp_ge (tgt := 39) dX2_giveAll_10 (by decide) (fun _ => ?_) (fun zz => absurd (jb_ge' (n := 12) (by decide)) zz)
      exact jj_leaf dX2_giveAll_39 rfl rfl
  refine jj_iconst (v := 0) dX2_giveAll_0 (by decide) ?_
  refine jj_istore dX2_giveAll_1 (by decide) rfl ?_
  exact jj_eq rfl rfl rfl rfl (L 0 (by decide))
set_option maxRecDepth 100000 in
set_option maxHeartbeats 4000000 in
theorem ev2_arrive {G : jj_G} {s : jj_S}  : jj_Ev G m2_arrive 0 [.ref 13] (jj_m s) 0 0 (none) (jj_m (j2_S s (j2_ar (sh_he s, sh_th s) 12))) := by
  refine jj_Ev_of (lo := [some (.ref 13), none]) (by decide +kernel) (Nat.le_of_ble_eq_true rfl) rfl (by trivial) ?_
  have L : ∀ k, k ≤ 12 → jj_Go G m2_arrive 0 2 [some (.ref 13), some (.int (nI k))] [] (jj_m (j2_S s (j2_ar (sh_he s, sh_th s) k))) 0 0 (none) (jj_m (j2_S s (j2_ar (sh_he s, sh_th s) 12))) := by
    refine jj_up 12 (fun k hk ih => ?_) ?_
    · refine jj_iload_n dX2_arrive_2 rfl ?_
      refine jj_aload_n dX2_arrive_3 rfl ?_
      refine jj_getf dX2_arrive_4 fl2_9 rfl rfl ?_
      refine jv_alen_l (v := 12) dX2_arrive_7 rfl rfl ?_
      refine jj_icmp_ge (tgt := 45) dX2_arrive_8 (by decide) (fun zz => absurd zz (jb_ge hk (by decide))) (fun _ => ?_)
      refine jj_iload_n dX2_arrive_11 rfl ?_
      refine jj_aload_n dX2_arrive_12 rfl ?_
      refine jj_getf dX2_arrive_13 fl2_15 rfl rfl ?_
      refine jv_alen_l (v := 12) dX2_arrive_16 rfl rfl ?_
      refine jj_icmp_ge (tgt := 45) dX2_arrive_17 (by decide) (fun zz => absurd zz (jb_ge hk (by decide))) (fun _ => ?_)
      refine jj_aload_n dX2_arrive_20 rfl ?_
      refine jj_getf dX2_arrive_21 fl2_9 rfl rfl ?_
      refine jj_iload_n dX2_arrive_24 rfl ?_
      refine jj_aload_n dX2_arrive_25 rfl ?_
      refine jj_getf dX2_arrive_26 fl2_15 rfl rfl ?_
      refine jj_iload_n dX2_arrive_29 rfl ?_
      refine jv_lald dX2_arrive_30 rfl (hk) (by decide) ?_
      refine jv_last dX2_arrive_31 rfl (hk) (by decide) rfl ?_
      refine jj_aload_n dX2_arrive_32 rfl ?_
      refine jj_getf dX2_arrive_33 fl2_15 rfl rfl ?_
      refine jj_iload_n dX2_arrive_36 rfl ?_
      refine jj_lconst (v := 0) dX2_arrive_37 (by decide) ?_
      refine jv_last dX2_arrive_38 rfl (hk) (by decide) rfl ?_
      refine jj_iinc dX2_arrive_39 rfl (jb_i k) (by decide) rfl ?_
      refine jj_goto (tgt := 2) dX2_arrive_42 (by decide) ?_
      exact jj_eq rfl rfl rfl (by unfold j2_ar; rw [← jF_s' (f := sh_th s) (g := sh_he s) (show sh_th s k = jF (fun _ => (0 : Int64)) (sh_th s) k k from (jF_out (Nat.le_refl k)).symm), ← jF_s' (f := fun _ => (0 : Int64)) rfl]; rfl) ih
    · refine jj_iload_n dX2_arrive_2 rfl ?_
      refine jj_aload_n dX2_arrive_3 rfl ?_
      refine jj_getf dX2_arrive_4 fl2_9 rfl rfl ?_
      refine jv_alen_l (v := 12) dX2_arrive_7 rfl rfl ?_
      refine jj_icmp_ge (tgt := 45) dX2_arrive_8 (by decide) (fun _ => ?_) (fun zz => absurd (jb_ge' (n := 12) (by decide)) zz)
      exact jj_leaf dX2_arrive_45 rfl rfl
  refine jj_iconst (v := 0) dX2_arrive_0 (by decide) ?_
  refine jj_istore_n dX2_arrive_1 rfl (by decide) rfl ?_
  exact jj_eq rfl rfl rfl (by unfold j2_ar; rw [jF_0, jF_0]; rfl) (L 0 (by decide))
set_option maxRecDepth 100000 in
set_option maxHeartbeats 4000000 in
theorem ev2_hereAt {G : jj_G} {s : jj_S} {k : Nat} (hk : k < 12) : jj_Ev G m2_hereAt 0 [.ref 13, .int (nI k)] (jj_m s) 0 0 (some (.long (sh_he s k))) (jj_m s) := by
  refine jj_Ev_of (lo := [some (.ref 13), some (.int (nI k))]) (by decide +kernel) (Nat.le_of_ble_eq_true rfl) rfl (by trivial) ?_
  refine jj_iload_n dX2_hereAt_0 rfl ?_
  refine jj_if_lt (tgt := 22) dX2_hereAt_1 (by decide) (fun zz => absurd zz (jb_lt0 (by omega))) (fun _ => ?_)
  refine jj_iload_n dX2_hereAt_4 rfl ?_
  refine jj_aload_n dX2_hereAt_5 rfl ?_
  refine jj_getf dX2_hereAt_6 fl2_9 rfl rfl ?_
  refine jv_alen_l (v := 12) dX2_hereAt_9 rfl rfl ?_
  refine jj_icmp_ge (tgt := 22) dX2_hereAt_10 (by decide) (fun zz => absurd zz (jb_ge hk (by decide))) (fun _ => ?_)
  refine jj_aload_n dX2_hereAt_13 rfl ?_
  refine jj_getf dX2_hereAt_14 fl2_9 rfl rfl ?_
  refine jj_iload_n dX2_hereAt_17 rfl ?_
  refine jv_lald dX2_hereAt_18 rfl (hk) (by decide) ?_
  refine jj_goto (tgt := 23) dX2_hereAt_19 (by decide) ?_
  exact jj_leaf dX2_hereAt_23 rfl rfl
set_option maxRecDepth 100000 in
set_option maxHeartbeats 4000000 in
theorem ev2_sharesOf {G : jj_G} {h : List jj_C} {c : Nat} (hc : c < 2 ^ 31) : jj_Ev G m2_sharesOf 0 [.int (nI c)] (h) 0 0 (some (.int (nI (j2_sh c)))) (h) := by
  refine jj_Ev_of (lo := [some (.int (nI c))]) (by decide +kernel) (Nat.le_of_ble_eq_true rfl) rfl (by trivial) ?_
  refine jj_iload_n dX2_sharesOf_0 rfl ?_
  refine jj_if_ne (tgt := 8) dX2_sharesOf_1 (by decide) (fun c1 => ?_) (fun c1 => ?_)
  · refine jj_bipush (v := 60) dX2_sharesOf_8 (by decide) ?_
    refine jj_iload_n dX2_sharesOf_10 rfl ?_
    refine jj_idiv dX2_sharesOf_11 c1 (pk_div (a := 60) (by decide) (Nat.pos_of_ne_zero fun q => c1 (by rw [q]; rfl)) (by omega)) ?_
    exact jj_leaf dX2_sharesOf_12 (by rw [show j2_sh c = 60 / c from if_neg fun q => c1 (by rw [q]; rfl)]; rfl) rfl
  · refine jj_iconst (v := 0) dX2_sharesOf_4 (by decide) ?_
    refine jj_goto (tgt := 12) dX2_sharesOf_5 (by decide) ?_
    exact jj_leaf dX2_sharesOf_12 (by rw [show j2_sh c = 0 from if_pos ((jb_inj (by omega) (by decide)).mp c1)]; rfl) rfl
set_option maxRecDepth 100000 in
set_option maxHeartbeats 4000000 in
theorem ev2_commonDivisor {G : jj_G} {h : List jj_C} (x y : Int64) : jj_Ev G m2_commonDivisor 0 [.long x, .long y] (h) 0 0 (some (.long (j2_gcd 200 x y))) (h) := by
  refine jj_Ev_of (lo := [some (.long x), none, some (.long y), none, none, none, none, none, none, none, none]) (by decide +kernel) (Nat.le_of_ble_eq_true rfl) rfl (by trivial) ?_
  have L : ∀ k, k ≤ 200 → ∀ a b : Int64, jj_Go G m2_commonDivisor 0 9 [none, none, none, none, some (.long a), none, some (.long b), none, some (.int (nI k)), none, none] [] (h) 0 0 (some (.long (j2_gcd (200 - k) a b))) (h) := by
    refine jj_up 200 (fun k hk ih => ?_) ?_
    · intro a b
      have e : 200 - k = (200 - (k + 1)) + 1 := by omega
      rw [e, j2_gcd]
      by_cases hb : b = 0
      · rw [if_pos hb]
        refine jj_iload dX2_commonDivisor_9 rfl ?_
        refine jj_sipush (v := 200) dX2_commonDivisor_11 (by decide) ?_
        refine jj_icmp_ge (tgt := 45) dX2_commonDivisor_14 (by decide) (fun zz => absurd zz (jb_ge hk (by decide))) (fun _ => ?_)
        refine jj_lload dX2_commonDivisor_17 rfl ?_
        refine jj_lconst (v := 0) dX2_commonDivisor_19 (by decide) ?_
        refine jj_lcmp dX2_commonDivisor_20 rfl ?_
        refine jj_if_eq (tgt := 45) dX2_commonDivisor_21 (by decide) (fun _ => ?_) (fun zz => absurd (j2_c0 hb) zz)
        refine jj_lload dX2_commonDivisor_45 rfl ?_
        exact jj_leaf dX2_commonDivisor_47 rfl rfl
      · rw [if_neg hb]
        refine jj_iload dX2_commonDivisor_9 rfl ?_
        refine jj_sipush (v := 200) dX2_commonDivisor_11 (by decide) ?_
        refine jj_icmp_ge (tgt := 45) dX2_commonDivisor_14 (by decide) (fun zz => absurd zz (jb_ge hk (by decide))) (fun _ => ?_)
        refine jj_lload dX2_commonDivisor_17 rfl ?_
        refine jj_lconst (v := 0) dX2_commonDivisor_19 (by decide) ?_
        refine jj_lcmp dX2_commonDivisor_20 rfl ?_
        refine jj_if_eq (tgt := 45) dX2_commonDivisor_21 (by decide) (fun zz => absurd zz (fun q => hb (j2_c1 q))) (fun _ => ?_)
        refine jj_lload dX2_commonDivisor_24 rfl ?_
        refine jj_lload dX2_commonDivisor_26 rfl ?_
        refine jj_lrem dX2_commonDivisor_28 hb rfl ?_
        refine jj_lstore dX2_commonDivisor_29 (by decide) rfl ?_
        refine jj_lload dX2_commonDivisor_31 rfl ?_
        refine jj_lstore dX2_commonDivisor_33 (by decide) rfl ?_
        refine jj_lload dX2_commonDivisor_35 rfl ?_
        refine jj_lstore dX2_commonDivisor_37 (by decide) rfl ?_
        refine jj_iinc dX2_commonDivisor_39 rfl (jb_i k) (by decide) rfl ?_
        refine jj_goto (tgt := 9) dX2_commonDivisor_42 (by decide) ?_
        refine jj_less (lo' := [none, none, none, none, some (.long _), none, some (.long _), none, some (.int (nI (k + 1))), none, none]) (fun j v hj => ?_) (ih b (a - a / b * b))
        match j, hj with
        | 0, hj => exact absurd hj (by simp)
        | 1, hj => exact absurd hj (by simp)
        | 2, hj => exact absurd hj (by simp)
        | 3, hj => exact absurd hj (by simp)
        | 4, hj => exact hj
        | 5, hj => exact absurd hj (by simp)
        | 6, hj => exact hj
        | 7, hj => exact absurd hj (by simp)
        | 8, hj => exact hj
        | 9, hj => exact absurd hj (by simp)
        | 10, hj => exact absurd hj (by simp)
        | j + 11, hj => exact absurd hj (by simp)
    · intro a b
      rw [Nat.sub_self, j2_gcd]
      refine jj_iload dX2_commonDivisor_9 rfl ?_
      refine jj_sipush (v := 200) dX2_commonDivisor_11 (by decide) ?_
      refine jj_icmp_ge (tgt := 45) dX2_commonDivisor_14 (by decide) (fun _ => ?_) (fun zz => absurd (jb_ge' (n := 200) (by decide)) zz)
      refine jj_lload dX2_commonDivisor_45 rfl ?_
      exact jj_leaf dX2_commonDivisor_47 rfl rfl
  refine jj_lload_n dX2_commonDivisor_0 rfl ?_
  refine jj_lstore dX2_commonDivisor_1 (by decide) rfl ?_
  refine jj_lload_n dX2_commonDivisor_3 rfl ?_
  refine jj_lstore dX2_commonDivisor_4 (by decide) rfl ?_
  refine jj_iconst (v := 0) dX2_commonDivisor_6 (by decide) ?_
  refine jj_istore dX2_commonDivisor_7 (by decide) rfl ?_
  refine jj_less (lo' := [none, none, none, none, some (.long x), none, some (.long y), none, some (.int (nI 0)), none, none]) (fun j v hj => ?_) (L 0 (by decide) x y)
  match j, hj with
  | 0, hj => exact absurd hj (by simp)
  | 1, hj => exact absurd hj (by simp)
  | 2, hj => exact absurd hj (by simp)
  | 3, hj => exact absurd hj (by simp)
  | 4, hj => exact hj
  | 5, hj => exact absurd hj (by simp)
  | 6, hj => exact hj
  | 7, hj => exact absurd hj (by simp)
  | 8, hj => exact hj
  | 9, hj => exact absurd hj (by simp)
  | 10, hj => exact absurd hj (by simp)
  | j + 11, hj => exact absurd hj (by simp)
set_option maxRecDepth 100000 in
set_option maxHeartbeats 4000000 in
theorem ev2_walkCount {G : jj_G} {s : jj_S} {o : Nat → Nat} {x y n : Nat} (ho : j5_ok s o) (hx : x < 12) (hy : y < 12) (hn : n < 100) : jj_Ev G m2_walkCount 3 [.ref 13, .ref 9, .int (nI x), .int (nI y), .int (nI n)] (jj_m s) 0 0 (some (.long ((j2_wk o (fun _ v => v) (j2_so x (sh_he s, sh_th s) 12) n).1 y))) (jj_m (j2_S s (j2_wk o (fun _ v => v) (j2_so x (sh_he s, sh_th s) 12) n))) := by
  refine jj_Ev_of (lo := [some (.ref 13), some (.ref 9), some (.int (nI x)), some (.int (nI y)), some (.int (nI n)), none, none]) (by decide +kernel) (Nat.le_of_ble_eq_true rfl) rfl (by trivial) ?_
  have L : ∀ k, k ≤ n → jj_Go G m2_walkCount 3 8 [some (.ref 13), some (.ref 9), some (.int (nI x)), some (.int (nI y)), some (.int (nI n)), some (.int (nI k)), none] [] (jj_m (j2_S s (j2_wk o (fun _ v => v) (j2_so x (sh_he s, sh_th s) 12) k))) 0 0 (some (.long ((j2_wk o (fun _ v => v) (j2_so x (sh_he s, sh_th s) 12) n).1 y))) (jj_m (j2_S s (j2_wk o (fun _ v => v) (j2_so x (sh_he s, sh_th s) 12) n))) := by
    refine jj_up n (fun i hi ih => ?_) ?_
    · have eP : (j2_wk o (fun _ v => v) (j2_so x (sh_he s, sh_th s) 12) (i + 1)) = j2_ar ((j2_wk o (fun _ v => v) (j2_so x (sh_he s, sh_th s) 12) i).1, j2_rw o (fun _ v => v) (j2_wk o (fun _ v => v) (j2_so x (sh_he s, sh_th s) 12) i) 12) 12 := rfl
      rw [eP] at ih
      generalize hPi : (j2_wk o (fun _ v => v) (j2_so x (sh_he s, sh_th s) 12) i) = P at ih ⊢
      have L2 : ∀ k, k ≤ 12 → jj_Go G m2_walkCount 3 18 [some (.ref 13), some (.ref 9), some (.int (nI x)), some (.int (nI y)), some (.int (nI n)), some (.int (nI i)), some (.int (nI k))] [] (jj_m (j2_S s (P.1, j2_rw o (fun _ v => v) P k))) 0 0 (some (.long ((j2_wk o (fun _ v => v) (j2_so x (sh_he s, sh_th s) 12) n).1 y))) (jj_m (j2_S s (j2_wk o (fun _ v => v) (j2_so x (sh_he s, sh_th s) 12) n))) := by
        refine jj_up 12 (fun k hk ih => ?_) ?_
        · refine jj_iload dX2_walkCount_18 rfl ?_
          refine jj_aload_n dX2_walkCount_20 rfl ?_
          refine jj_getf dX2_walkCount_21 fl2_9 rfl rfl ?_
          refine jv_alen_l (v := 12) dX2_walkCount_24 rfl rfl ?_
          refine jj_icmp_ge (tgt := 51) dX2_walkCount_25 (by decide) (fun zz => absurd zz (jb_ge hk (by decide))) (fun _ => ?_)
          refine jj_aload_n dX2_walkCount_28 rfl ?_
          refine jj_aload_n dX2_walkCount_29 rfl ?_
          refine jj_iload dX2_walkCount_30 rfl ?_
          refine jj_callV (M2 := m5_openTo) dX2_walkCount_32 ml2_22 tm5_openTo (ev5_openTo_n (s := j2_S s (P.1, j2_rw o (fun _ v => v) P k)) ho hk) rfl rfl rfl rfl rfl (by omega) (Nat.le_of_ble_eq_true rfl) ?_
          refine jj_aload_n dX2_walkCount_35 rfl ?_
          refine jj_getf dX2_walkCount_36 fl2_9 rfl rfl ?_
          refine jj_iload dX2_walkCount_39 rfl ?_
          refine jv_lald dX2_walkCount_41 rfl (hk) (by decide) ?_
          refine jj_callV (M2 := m2_giveAll) dX2_walkCount_42 ml2_28 tm2_giveAll (ev2_giveAll (s := j2_S s (P.1, j2_rw o (fun _ v => v) P k)) (a := o k) _ (ho k hk).2) rfl rfl rfl rfl rfl (by omega) (Nat.le_of_ble_eq_true rfl) ?_
          refine jj_iinc dX2_walkCount_45 rfl (jb_i k) (by decide) rfl ?_
          refine jj_goto (tgt := 18) dX2_walkCount_48 (by decide) ?_
          exact jj_eq rfl rfl rfl rfl ih
        · refine jj_iload dX2_walkCount_18 rfl ?_
          refine jj_aload_n dX2_walkCount_20 rfl ?_
          refine jj_getf dX2_walkCount_21 fl2_9 rfl rfl ?_
          refine jv_alen_l (v := 12) dX2_walkCount_24 rfl rfl ?_
          refine jj_icmp_ge (tgt := 51) dX2_walkCount_25 (by decide) (fun _ => ?_) (fun zz => absurd (jb_ge' (n := 12) (by decide)) zz)
          refine jj_aload_n dX2_walkCount_51 rfl ?_
          refine jj_callV (M2 := m2_arrive) dX2_walkCount_52 ml2_32 tm2_arrive (ev2_arrive (s := j2_S s (P.1, j2_rw o (fun _ v => v) P 12))) rfl rfl rfl rfl rfl (by omega) (Nat.le_of_ble_eq_true rfl) ?_
          refine jj_iinc dX2_walkCount_55 rfl (jb_i i) (by decide) rfl ?_
          refine jj_goto (tgt := 8) dX2_walkCount_58 (by decide) ?_
          refine jj_less (lo' := [some (.ref 13), some (.ref 9), some (.int (nI x)), some (.int (nI y)), some (.int (nI n)), some (.int (nI (i + 1))), none]) (fun j v hj => ?_) (jj_eq rfl rfl rfl rfl ih)
          match j, hj with
          | 0, hj => exact hj
          | 1, hj => exact hj
          | 2, hj => exact hj
          | 3, hj => exact hj
          | 4, hj => exact hj
          | 5, hj => exact hj
          | 6, hj => exact absurd hj (by simp)
          | j + 7, hj => exact absurd hj (by simp)
      refine jj_iload dX2_walkCount_8 rfl ?_
      refine jj_iload dX2_walkCount_10 rfl ?_
      refine jj_icmp_ge (tgt := 61) dX2_walkCount_12 (by decide) (fun zz => absurd zz (nI_ge (a := i) (b := n) hi (by omega))) (fun _ => ?_)
      refine jj_iconst (v := 0) dX2_walkCount_15 (by decide) ?_
      refine jj_istore dX2_walkCount_16 (by decide) rfl ?_
      exact jj_eq rfl rfl rfl rfl (L2 0 (by decide))
    · skip
      refine jj_iload dX2_walkCount_8 rfl ?_
      refine jj_iload dX2_walkCount_10 rfl ?_
      refine jj_icmp_ge (tgt := 61) dX2_walkCount_12 (by decide) (fun _ => ?_) (fun zz => absurd (nI_le (Nat.le_refl n) (by omega)) zz)
      refine jj_aload_n dX2_walkCount_61 rfl ?_
      refine jj_iload_n dX2_walkCount_62 rfl ?_
      refine jj_callV (M2 := m2_hereAt) dX2_walkCount_63 ml2_35 tm2_hereAt (ev2_hereAt (s := j2_S s (j2_wk o (fun _ v => v) (j2_so x (sh_he s, sh_th s) 12) n)) hy) rfl rfl rfl rfl rfl (by omega) (Nat.le_of_ble_eq_true rfl) ?_
      exact jj_leaf dX2_walkCount_66 rfl rfl
  refine jj_aload_n dX2_walkCount_0 rfl ?_
  refine jj_iload_n dX2_walkCount_1 rfl ?_
  refine jj_callV (M2 := m2_setOut) dX2_walkCount_2 ml2_18 tm2_setOut (ev2_setOut (s := s) hx) rfl rfl rfl rfl rfl (by omega) (Nat.le_of_ble_eq_true rfl) ?_
  refine jj_iconst (v := 0) dX2_walkCount_5 (by decide) ?_
  refine jj_istore dX2_walkCount_6 (by decide) rfl ?_
  exact jj_eq rfl rfl rfl rfl (L 0 (Nat.zero_le n))
set_option maxRecDepth 100000 in
set_option maxHeartbeats 4000000 in
theorem ev2_oddsPart {G : jj_G} {s : jj_S} {o : Nat → Nat} {x y n : Nat} (part : Int32) (ho : j5_ok s o) (hx : x < 12) (hy : y < 12) (hn : n < 100) : jj_Ev G m2_oddsPart 3 [.ref 13, .ref 9, .int (nI x), .int (nI y), .int (nI n), .int part] (jj_m s) 0 0 (some (.long (j2_od (j2_gcd 200 ((j2_wk (j2_gl o) (fun k v => v * (nI (j2_sh (jb_pc (j2_gl o k)))).toInt64) (j2_so x (sh_he s, sh_th s) 12) n).1 y) (j2_bl n)) ((j2_wk (j2_gl o) (fun k v => v * (nI (j2_sh (jb_pc (j2_gl o k)))).toInt64) (j2_so x (sh_he s, sh_th s) 12) n).1 y) (j2_bl n) part))) (jj_m (j2_S s (j2_wk (j2_gl o) (fun k v => v * (nI (j2_sh (jb_pc (j2_gl o k)))).toInt64) (j2_so x (sh_he s, sh_th s) 12) n))) := by
  refine jj_Ev_of (lo := [some (.ref 13), some (.ref 9), some (.int (nI x)), some (.int (nI y)), some (.int (nI n)), some (.int part), none, none, none, none, none, none]) (by decide +kernel) (Nat.le_of_ble_eq_true rfl) rfl (by trivial) ?_
  have L : ∀ k, k ≤ n → jj_Go G m2_oddsPart 3 11 [some (.ref 13), some (.ref 9), some (.int (nI x)), some (.int (nI y)), some (.int (nI n)), some (.int part), some (.long (j2_bl k)), none, some (.int (nI k)), none, none, none] [] (jj_m (j2_S s (j2_wk (j2_gl o) (fun k v => v * (nI (j2_sh (jb_pc (j2_gl o k)))).toInt64) (j2_so x (sh_he s, sh_th s) 12) k))) 0 0 (some (.long (j2_od (j2_gcd 200 ((j2_wk (j2_gl o) (fun k v => v * (nI (j2_sh (jb_pc (j2_gl o k)))).toInt64) (j2_so x (sh_he s, sh_th s) 12) n).1 y) (j2_bl n)) ((j2_wk (j2_gl o) (fun k v => v * (nI (j2_sh (jb_pc (j2_gl o k)))).toInt64) (j2_so x (sh_he s, sh_th s) 12) n).1 y) (j2_bl n) part))) (jj_m (j2_S s (j2_wk (j2_gl o) (fun k v => v * (nI (j2_sh (jb_pc (j2_gl o k)))).toInt64) (j2_so x (sh_he s, sh_th s) 12) n))) := by
    refine jj_up n (fun i hi ih => ?_) ?_
    · have eP : (j2_wk (j2_gl o) (fun k v => v * (nI (j2_sh (jb_pc (j2_gl o k)))).toInt64) (j2_so x (sh_he s, sh_th s) 12) (i + 1)) = j2_ar ((j2_wk (j2_gl o) (fun k v => v * (nI (j2_sh (jb_pc (j2_gl o k)))).toInt64) (j2_so x (sh_he s, sh_th s) 12) i).1, j2_rw (j2_gl o) (fun k v => v * (nI (j2_sh (jb_pc (j2_gl o k)))).toInt64) (j2_wk (j2_gl o) (fun k v => v * (nI (j2_sh (jb_pc (j2_gl o k)))).toInt64) (j2_so x (sh_he s, sh_th s) 12) i) 12) 12 := rfl
      rw [eP] at ih
      generalize hPi : (j2_wk (j2_gl o) (fun k v => v * (nI (j2_sh (jb_pc (j2_gl o k)))).toInt64) (j2_so x (sh_he s, sh_th s) 12) i) = P at ih ⊢
      generalize hPn : (j2_wk (j2_gl o) (fun k v => v * (nI (j2_sh (jb_pc (j2_gl o k)))).toInt64) (j2_so x (sh_he s, sh_th s) 12) n) = PN at ih ⊢
      have L2 : ∀ k, k ≤ 12 → jj_Go G m2_oddsPart 3 21 [some (.ref 13), some (.ref 9), some (.int (nI x)), some (.int (nI y)), some (.int (nI n)), some (.int part), some (.long (j2_bl i)), none, some (.int (nI i)), some (.int (nI k)), none, none] [] (jj_m (j2_S s (P.1, j2_rw (j2_gl o) (fun k v => v * (nI (j2_sh (jb_pc (j2_gl o k)))).toInt64) P k))) 0 0 (some (.long (j2_od (j2_gcd 200 (PN.1 y) (j2_bl n)) (PN.1 y) (j2_bl n) part))) (jj_m (j2_S s PN)) := by
        refine jj_up 12 (fun k hk ih => ?_) ?_
        · have hgl := j2_gl_lt (fun f hf => (ho f hf).2) hk
          by_cases hz : o k = 0
          · have eg : j2_gl o k = 2 ^ k := if_pos hz
            refine jj_iload dX2_oddsPart_21 rfl ?_
            refine jj_aload_n dX2_oddsPart_23 rfl ?_
            refine jj_getf dX2_oddsPart_24 fl2_9 rfl rfl ?_
            refine jv_alen_l (v := 12) dX2_oddsPart_27 rfl rfl ?_
            refine jj_icmp_ge (tgt := 84) dX2_oddsPart_28 (by decide) (fun zz => absurd zz (jb_ge hk (by decide))) (fun _ => ?_)
            refine jj_aload_n dX2_oddsPart_31 rfl ?_
            refine jj_iload dX2_oddsPart_32 rfl ?_
            refine jj_callV (M2 := m5_openTo) dX2_oddsPart_34 ml2_22 tm5_openTo (ev5_openTo_n (s := j2_S s (P.1, j2_rw (j2_gl o) (fun k v => v * (nI (j2_sh (jb_pc (j2_gl o k)))).toInt64) P k)) ho hk) rfl rfl rfl rfl rfl (by omega) (Nat.le_of_ble_eq_true rfl) ?_
            refine jj_istore dX2_oddsPart_37 (by decide) rfl ?_
            refine jj_iload dX2_oddsPart_39 rfl ?_
            refine jj_if_ne (tgt := 51) dX2_oddsPart_41 (by decide) (fun zz => absurd (by rw [hz]; rfl) zz) (fun _ => ?_)
            refine jj_iconst (v := 1) dX2_oddsPart_44 (by decide) ?_
            refine jj_iload dX2_oddsPart_45 rfl ?_
            refine jj_ishl dX2_oddsPart_47 ((jb_2k k (by omega)).trans (by rw [← eg])) ?_
            refine jj_goto (tgt := 53) dX2_oddsPart_48 (by decide) ?_
            refine jj_istore dX2_oddsPart_53 (by decide) rfl ?_
            refine jj_aload_n dX2_oddsPart_55 rfl ?_
            refine jj_iload dX2_oddsPart_56 rfl ?_
            refine jj_aload_n dX2_oddsPart_58 rfl ?_
            refine jj_getf dX2_oddsPart_59 fl2_9 rfl rfl ?_
            refine jj_iload dX2_oddsPart_62 rfl ?_
            refine jv_lald dX2_oddsPart_64 rfl (hk) (by decide) ?_
            refine jj_iload dX2_oddsPart_65 rfl ?_
            refine jj_callS (M2 := mJ6_bitCount) dX2_oddsPart_67 ml2_39 tmJ6_bitCount (evJ6_bitCount (a := j2_gl o k) hgl) rfl rfl (by omega) (Nat.le_of_ble_eq_true rfl) ?_
            refine jj_callS (M2 := m2_sharesOf) dX2_oddsPart_70 ml2_44 tm2_sharesOf (ev2_sharesOf (c := jb_pc (j2_gl o k)) (by have : jb_pc (j2_gl o k) ≤ 12 := jb_pcn_le _ 12; omega)) rfl rfl (by omega) (Nat.le_of_ble_eq_true rfl) ?_
            refine jj_i2l dX2_oddsPart_73 rfl ?_
            refine jj_lmul dX2_oddsPart_74 rfl ?_
            refine jj_callV (M2 := m2_giveAll) dX2_oddsPart_75 ml2_28 tm2_giveAll (ev2_giveAll (s := j2_S s (P.1, j2_rw (j2_gl o) (fun k v => v * (nI (j2_sh (jb_pc (j2_gl o k)))).toInt64) P k)) (a := j2_gl o k) _ hgl) rfl rfl rfl rfl rfl (by omega) (Nat.le_of_ble_eq_true rfl) ?_
            refine jj_iinc dX2_oddsPart_78 rfl (jb_i k) (by decide) rfl ?_
            refine jj_goto (tgt := 21) dX2_oddsPart_81 (by decide) ?_
            refine jj_less (lo' := [some (.ref 13), some (.ref 9), some (.int (nI x)), some (.int (nI y)), some (.int (nI n)), some (.int part), some (.long (j2_bl i)), none, some (.int (nI i)), some (.int (nI (k + 1))), none, none]) (fun j v hj => ?_) (jj_eq rfl rfl rfl rfl ih)
            match j, hj with
            | 0, hj => exact hj
            | 1, hj => exact hj
            | 2, hj => exact hj
            | 3, hj => exact hj
            | 4, hj => exact hj
            | 5, hj => exact hj
            | 6, hj => exact hj
            | 7, hj => exact absurd hj (by simp)
            | 8, hj => exact hj
            | 9, hj => exact hj
            | 10, hj => exact absurd hj (by simp)
            | 11, hj => exact absurd hj (by simp)
            | j + 12, hj => exact absurd hj (by simp)
          · have eg : j2_gl o k = o k := if_neg hz
            refine jj_iload dX2_oddsPart_21 rfl ?_
            refine jj_aload_n dX2_oddsPart_23 rfl ?_
            refine jj_getf dX2_oddsPart_24 fl2_9 rfl rfl ?_
            refine jv_alen_l (v := 12) dX2_oddsPart_27 rfl rfl ?_
            refine jj_icmp_ge (tgt := 84) dX2_oddsPart_28 (by decide) (fun zz => absurd zz (jb_ge hk (by decide))) (fun _ => ?_)
            refine jj_aload_n dX2_oddsPart_31 rfl ?_
            refine jj_iload dX2_oddsPart_32 rfl ?_
            refine jj_callV (M2 := m5_openTo) dX2_oddsPart_34 ml2_22 tm5_openTo (ev5_openTo_n (s := j2_S s (P.1, j2_rw (j2_gl o) (fun k v => v * (nI (j2_sh (jb_pc (j2_gl o k)))).toInt64) P k)) ho hk) rfl rfl rfl rfl rfl (by omega) (Nat.le_of_ble_eq_true rfl) ?_
            refine jj_istore dX2_oddsPart_37 (by decide) rfl ?_
            refine jj_iload dX2_oddsPart_39 rfl ?_
            refine jj_if_ne (tgt := 51) dX2_oddsPart_41 (by decide) (fun _ => ?_) (fun zz => absurd zz (fun q => hz ((jb_inj (by have := (ho k hk).2; omega) (by decide)).mp q)))
            refine jj_iload dX2_oddsPart_51 rfl ?_
            rw [← eg]
            refine jj_istore dX2_oddsPart_53 (by decide) rfl ?_
            refine jj_aload_n dX2_oddsPart_55 rfl ?_
            refine jj_iload dX2_oddsPart_56 rfl ?_
            refine jj_aload_n dX2_oddsPart_58 rfl ?_
            refine jj_getf dX2_oddsPart_59 fl2_9 rfl rfl ?_
            refine jj_iload dX2_oddsPart_62 rfl ?_
            refine jv_lald dX2_oddsPart_64 rfl (hk) (by decide) ?_
            refine jj_iload dX2_oddsPart_65 rfl ?_
            refine jj_callS (M2 := mJ6_bitCount) dX2_oddsPart_67 ml2_39 tmJ6_bitCount (evJ6_bitCount (a := j2_gl o k) hgl) rfl rfl (by omega) (Nat.le_of_ble_eq_true rfl) ?_
            refine jj_callS (M2 := m2_sharesOf) dX2_oddsPart_70 ml2_44 tm2_sharesOf (ev2_sharesOf (c := jb_pc (j2_gl o k)) (by have : jb_pc (j2_gl o k) ≤ 12 := jb_pcn_le _ 12; omega)) rfl rfl (by omega) (Nat.le_of_ble_eq_true rfl) ?_
            refine jj_i2l dX2_oddsPart_73 rfl ?_
            refine jj_lmul dX2_oddsPart_74 rfl ?_
            refine jj_callV (M2 := m2_giveAll) dX2_oddsPart_75 ml2_28 tm2_giveAll (ev2_giveAll (s := j2_S s (P.1, j2_rw (j2_gl o) (fun k v => v * (nI (j2_sh (jb_pc (j2_gl o k)))).toInt64) P k)) (a := j2_gl o k) _ hgl) rfl rfl rfl rfl rfl (by omega) (Nat.le_of_ble_eq_true rfl) ?_
            refine jj_iinc dX2_oddsPart_78 rfl (jb_i k) (by decide) rfl ?_
            refine jj_goto (tgt := 21) dX2_oddsPart_81 (by decide) ?_
            refine jj_less (lo' := [some (.ref 13), some (.ref 9), some (.int (nI x)), some (.int (nI y)), some (.int (nI n)), some (.int part), some (.long (j2_bl i)), none, some (.int (nI i)), some (.int (nI (k + 1))), none, none]) (fun j v hj => ?_) (jj_eq rfl rfl rfl rfl ih)
            match j, hj with
            | 0, hj => exact hj
            | 1, hj => exact hj
            | 2, hj => exact hj
            | 3, hj => exact hj
            | 4, hj => exact hj
            | 5, hj => exact hj
            | 6, hj => exact hj
            | 7, hj => exact absurd hj (by simp)
            | 8, hj => exact hj
            | 9, hj => exact hj
            | 10, hj => exact absurd hj (by simp)
            | 11, hj => exact absurd hj (by simp)
            | j + 12, hj => exact absurd hj (by simp)
        · refine jj_iload dX2_oddsPart_21 rfl ?_
          refine jj_aload_n dX2_oddsPart_23 rfl ?_
          refine jj_getf dX2_oddsPart_24 fl2_9 rfl rfl ?_
          refine jv_alen_l (v := 12) dX2_oddsPart_27 rfl rfl ?_
          refine jj_icmp_ge (tgt := 84) dX2_oddsPart_28 (by decide) (fun _ => ?_) (fun zz => absurd (jb_ge' (n := 12) (by decide)) zz)
          refine jj_aload_n dX2_oddsPart_84 rfl ?_
          refine jj_callV (M2 := m2_arrive) dX2_oddsPart_85 ml2_32 tm2_arrive (ev2_arrive (s := j2_S s (P.1, j2_rw (j2_gl o) (fun k v => v * (nI (j2_sh (jb_pc (j2_gl o k)))).toInt64) P 12))) rfl rfl rfl rfl rfl (by omega) (Nat.le_of_ble_eq_true rfl) ?_
          refine jj_lload dX2_oddsPart_88 rfl ?_
          refine jj_ldc2 dX2_oddsPart_90 kc2_47 ?_
          refine jj_lmul dX2_oddsPart_93 rfl ?_
          refine jj_lstore dX2_oddsPart_94 (by decide) rfl ?_
          refine jj_iinc dX2_oddsPart_96 rfl (jb_i i) (by decide) rfl ?_
          refine jj_goto (tgt := 11) dX2_oddsPart_99 (by decide) ?_
          refine jj_less (lo' := [some (.ref 13), some (.ref 9), some (.int (nI x)), some (.int (nI y)), some (.int (nI n)), some (.int part), some (.long (j2_bl (i + 1))), none, some (.int (nI (i + 1))), none, none, none]) (fun j v hj => ?_) (jj_eq rfl rfl rfl rfl ih)
          match j, hj with
          | 0, hj => exact hj
          | 1, hj => exact hj
          | 2, hj => exact hj
          | 3, hj => exact hj
          | 4, hj => exact hj
          | 5, hj => exact hj
          | 6, hj => exact hj
          | 7, hj => exact absurd hj (by simp)
          | 8, hj => exact hj
          | 9, hj => exact absurd hj (by simp)
          | 10, hj => exact absurd hj (by simp)
          | 11, hj => exact absurd hj (by simp)
          | j + 12, hj => exact absurd hj (by simp)
      refine jj_iload dX2_oddsPart_11 rfl ?_
      refine jj_iload dX2_oddsPart_13 rfl ?_
      refine jj_icmp_ge (tgt := 102) dX2_oddsPart_15 (by decide) (fun zz => absurd zz (nI_ge (a := i) (b := n) hi (by omega))) (fun _ => ?_)
      refine jj_iconst (v := 0) dX2_oddsPart_18 (by decide) ?_
      refine jj_istore dX2_oddsPart_19 (by decide) rfl ?_
      refine jj_less (lo' := [some (.ref 13), some (.ref 9), some (.int (nI x)), some (.int (nI y)), some (.int (nI n)), some (.int part), some (.long (j2_bl i)), none, some (.int (nI i)), some (.int (nI 0)), none, none]) (fun j v hj => ?_) (jj_eq rfl rfl rfl rfl (L2 0 (by decide)))
      match j, hj with
      | 0, hj => exact hj
      | 1, hj => exact hj
      | 2, hj => exact hj
      | 3, hj => exact hj
      | 4, hj => exact hj
      | 5, hj => exact hj
      | 6, hj => exact hj
      | 7, hj => exact absurd hj (by simp)
      | 8, hj => exact hj
      | 9, hj => exact hj
      | 10, hj => exact absurd hj (by simp)
      | 11, hj => exact absurd hj (by simp)
      | j + 12, hj => exact absurd hj (by simp)
    · generalize hPn : (j2_wk (j2_gl o) (fun k v => v * (nI (j2_sh (jb_pc (j2_gl o k)))).toInt64) (j2_so x (sh_he s, sh_th s) 12) n) = PN
      unfold j2_od
      by_cases hc : j2_gcd 200 (PN.1 y) (j2_bl n) = 0
      · rw [if_pos hc]
        refine jj_iload dX2_oddsPart_11 rfl ?_
        refine jj_iload dX2_oddsPart_13 rfl ?_
        refine jj_icmp_ge (tgt := 102) dX2_oddsPart_15 (by decide) (fun _ => ?_) (fun zz => absurd (nI_le (Nat.le_refl n) (by omega)) zz)
        refine jj_aload_n dX2_oddsPart_102 rfl ?_
        refine jj_iload_n dX2_oddsPart_103 rfl ?_
        refine jj_callV (M2 := m2_hereAt) dX2_oddsPart_104 ml2_35 tm2_hereAt (ev2_hereAt (s := j2_S s PN) hy) rfl rfl rfl rfl rfl (by omega) (Nat.le_of_ble_eq_true rfl) ?_
        refine jj_lstore dX2_oddsPart_107 (by decide) rfl ?_
        refine jj_lload dX2_oddsPart_109 rfl ?_
        refine jj_lload dX2_oddsPart_111 rfl ?_
        refine jj_callS (M2 := m2_commonDivisor) dX2_oddsPart_113 ml2_49 tm2_commonDivisor (ev2_commonDivisor (PN.1 y) (j2_bl n)) rfl rfl (by omega) (Nat.le_of_ble_eq_true rfl) ?_
        refine jj_lstore dX2_oddsPart_116 (by decide) rfl ?_
        refine jj_lload dX2_oddsPart_118 rfl ?_
        refine jj_lconst (v := 0) dX2_oddsPart_120 (by decide) ?_
        refine jj_lcmp dX2_oddsPart_121 rfl ?_
        refine jj_if_ne (tgt := 127) dX2_oddsPart_122 (by decide) (fun zz => absurd (j2_c0 hc) zz) (fun _ => ?_)
        refine jj_lconst (v := 0) dX2_oddsPart_125 (by decide) ?_
        exact jj_leaf dX2_oddsPart_126 rfl rfl
      · rw [if_neg hc]
        refine jj_iload dX2_oddsPart_11 rfl ?_
        refine jj_iload dX2_oddsPart_13 rfl ?_
        refine jj_icmp_ge (tgt := 102) dX2_oddsPart_15 (by decide) (fun _ => ?_) (fun zz => absurd (nI_le (Nat.le_refl n) (by omega)) zz)
        refine jj_aload_n dX2_oddsPart_102 rfl ?_
        refine jj_iload_n dX2_oddsPart_103 rfl ?_
        refine jj_callV (M2 := m2_hereAt) dX2_oddsPart_104 ml2_35 tm2_hereAt (ev2_hereAt (s := j2_S s PN) hy) rfl rfl rfl rfl rfl (by omega) (Nat.le_of_ble_eq_true rfl) ?_
        refine jj_lstore dX2_oddsPart_107 (by decide) rfl ?_
        refine jj_lload dX2_oddsPart_109 rfl ?_
        refine jj_lload dX2_oddsPart_111 rfl ?_
        refine jj_callS (M2 := m2_commonDivisor) dX2_oddsPart_113 ml2_49 tm2_commonDivisor (ev2_commonDivisor (PN.1 y) (j2_bl n)) rfl rfl (by omega) (Nat.le_of_ble_eq_true rfl) ?_
        refine jj_lstore dX2_oddsPart_116 (by decide) rfl ?_
        refine jj_lload dX2_oddsPart_118 rfl ?_
        refine jj_lconst (v := 0) dX2_oddsPart_120 (by decide) ?_
        refine jj_lcmp dX2_oddsPart_121 rfl ?_
        refine jj_if_ne (tgt := 127) dX2_oddsPart_122 (by decide) (fun _ => ?_) (fun zz => absurd zz (fun q => hc (j2_c1 q)))
        refine jj_iload dX2_oddsPart_127 rfl ?_
        refine jj_if_ne (tgt := 140) dX2_oddsPart_129 (by decide) (fun c129 => ?_) (fun c129 => ?_)
        · refine jj_lload dX2_oddsPart_140 rfl ?_
          refine jj_lload dX2_oddsPart_142 rfl ?_
          refine jj_ldiv dX2_oddsPart_144 hc rfl ?_
          exact jj_leaf dX2_oddsPart_145 (by rw [if_neg c129]; rfl) rfl
        · refine jj_lload dX2_oddsPart_132 rfl ?_
          refine jj_lload dX2_oddsPart_134 rfl ?_
          refine jj_ldiv dX2_oddsPart_136 hc rfl ?_
          refine jj_goto (tgt := 145) dX2_oddsPart_137 (by decide) ?_
          exact jj_leaf dX2_oddsPart_145 (by rw [if_pos c129]; rfl) rfl
  refine jj_lconst (v := 1) dX2_oddsPart_0 (by decide) ?_
  refine jj_lstore dX2_oddsPart_1 (by decide) rfl ?_
  refine jj_aload_n dX2_oddsPart_3 rfl ?_
  refine jj_iload_n dX2_oddsPart_4 rfl ?_
  refine jj_callV (M2 := m2_setOut) dX2_oddsPart_5 ml2_18 tm2_setOut (ev2_setOut (s := s) hx) rfl rfl rfl rfl rfl (by omega) (Nat.le_of_ble_eq_true rfl) ?_
  refine jj_iconst (v := 0) dX2_oddsPart_8 (by decide) ?_
  refine jj_istore dX2_oddsPart_9 (by decide) rfl ?_
  exact jj_eq rfl rfl rfl rfl (L 0 (Nat.zero_le n))
