/-! THE CLASS: its calls, but town and fault -/
theorem j1_all_bit (kd : Nat → Int32) (x : Int32) : ∀ n i, (j1_all kd x n).testBit i = (decide (i < n) && decide (kd i = x)) := by
  intro n
  induction n with
  | zero => intro i; show (0 : Nat).testBit i = _; rw [Nat.zero_testBit]; simp
  | succ n ih =>
    intro i
    unfold j1_all
    by_cases z : kd n = x
    · rw [if_pos z, Nat.testBit_or, ih, Nat.testBit_two_pow]
      by_cases e : n = i
      · subst e; simp [z]
      · have e2 : (i < n) ↔ (i < n + 1) := by omega
        simp [e, e2]
    · rw [if_neg z, ih]
      by_cases e : n = i
      · subst e; simp [z]
      · have e2 : (i < n) ↔ (i < n + 1) := by omega
        simp [e2]
theorem j1_ct_e (a : Nat) (kd : Nat → Int32) (x : Int32) : ∀ k, k ≤ 12 → jb_pcn (a &&& j1_all kd x 12) k = j7_ct a kd x k := by
  intro k
  induction k with
  | zero => intro _; rfl
  | succ k ih =>
    intro hk
    rw [jb_pcn, j7_ct, ih (by omega), Nat.testBit_and, j1_all_bit, decide_eq_true (show k < 12 by omega), Bool.true_and]
    by_cases h1 : a.testBit k = true
    · by_cases h2 : kd k = x
      · simp [h1, h2]
      · simp [h1, h2]
    · simp [h1]
theorem j1_kc_e (kd : Nat → Int32) (x : Int32) : ∀ k, k ≤ 12 → jb_pcn (j1_all kd x 12) k = j7_kc kd x k := by
  intro k
  induction k with
  | zero => intro _; rfl
  | succ k ih =>
    intro hk
    rw [jb_pcn, j7_kc, ih (by omega), j1_all_bit, decide_eq_true (show k < 12 by omega), Bool.true_and]
    by_cases h2 : kd k = x
    · simp [h2]
    · simp [h2]
set_option maxRecDepth 100000 in
set_option maxHeartbeats 1500000 in
theorem evJ9_max {G : jj_G} {h : List jj_C} (x y : Int32) : jj_Ev G mJ9_max 0 [.int x, .int y] (h) 0 0 (some (.int (if x < y then y else x))) (h) := by
  refine jj_Ev_of (lo := [some (.int x), some (.int y)]) (by decide +kernel) (Nat.le_of_ble_eq_true rfl) rfl (by trivial) ?_
  by_cases z : x < y
  · rw [if_pos z]
    refine jj_iload_n dJ9_max_7cf53_0 rfl ?_
    refine jj_iload_n dJ9_max_7cf53_1 rfl ?_
    refine jj_icmp_lt (tgt := 9) dJ9_max_7cf53_2 (by decide) (fun _ => ?_) (fun zz => absurd z zz)
    refine jj_iload_n dJ9_max_7cf53_9 rfl ?_
    exact jj_leaf dJ9_max_7cf53_10 rfl rfl
  · rw [if_neg z]
    refine jj_iload_n dJ9_max_7cf53_0 rfl ?_
    refine jj_iload_n dJ9_max_7cf53_1 rfl ?_
    refine jj_icmp_lt (tgt := 9) dJ9_max_7cf53_2 (by decide) (fun zz => absurd zz z) (fun _ => ?_)
    refine jj_iload_n dJ9_max_7cf53_5 rfl ?_
    refine jj_goto (tgt := 10) dJ9_max_7cf53_6 (by decide) ?_
    exact jj_leaf dJ9_max_7cf53_10 rfl rfl
set_option maxRecDepth 100000 in
set_option maxHeartbeats 1500000 in
theorem ev6_openOfKind {G : jj_G} {s : jj_S} {o : Nat → Nat} {f : Nat} (x : Int32) (ho : j5_ok s o) (hf : f < 12) : jj_Ev G m6_openOfKind 1 [.ref 0, .int (nI f), .int x] (jj_m s) 0 0 (some (.int (nI (j7_ct (o f) (s1_kd s) x 12)))) (jj_m s) := by
  refine jj_Ev_of (lo := [some (.ref 0), some (.int (nI f)), some (.int x)]) (by decide +kernel) (Nat.le_of_ble_eq_true rfl) rfl (by trivial) ?_
  have e1 : jb_pc (o f &&& j1_all (s1_kd s) x 12) = j7_ct (o f) (s1_kd s) x 12 := j1_ct_e _ _ _ 12 (Nat.le_refl 12)
  have h1 := (ho f hf).2
  rw [← e1]
  refine jj_aload_n dX6_openOfKind_0 rfl ?_
  refine jj_getf dX6_openOfKind_1 fl6_26 rfl rfl ?_
  refine jj_iload_n dX6_openOfKind_4 rfl ?_
  refine jj_callV (M2 := m5_openTo) dX6_openOfKind_5 ml6_146 tm5_openTo (ev5_openTo_n ho hf) rfl rfl rfl rfl rfl (by omega) (Nat.le_of_ble_eq_true rfl) ?_
  refine jj_aload_n dX6_openOfKind_8 rfl ?_
  refine jj_getf dX6_openOfKind_9 fl6_44 rfl rfl ?_
  refine jj_iload_n dX6_openOfKind_12 rfl ?_
  refine jj_callV (M2 := m1_allOfKind) dX6_openOfKind_13 ml6_161 tm1_allOfKind (ev1_allOfKind x) rfl rfl rfl rfl rfl (by omega) (Nat.le_of_ble_eq_true rfl) ?_
  refine jj_iand dX6_openOfKind_16 (fa_and _ _) ?_
  refine jj_callS (M2 := mJ6_bitCount) dX6_openOfKind_17 ml6_164 tmJ6_bitCount (evJ6_bitCount (a := o f &&& j1_all (s1_kd s) x 12) (Nat.lt_of_le_of_lt Nat.and_le_left h1)) rfl rfl (by omega) (Nat.le_of_ble_eq_true rfl) ?_
  exact jj_leaf dX6_openOfKind_20 rfl rfl
set_option maxRecDepth 100000 in
set_option maxHeartbeats 1500000 in
theorem ev6_taxOf {G : jj_G} {s : jj_S} {o : Nat → Nat} {f n : Nat} (ho : j5_ok s o) (hf : f < 12) (hk : s1_kd s f = nI n) (hn : n < 4) : jj_Ev G m6_taxOf 2 [.ref 0, .int (nI f)] (jj_m s) 0 0 (some (.int (j7_tx n (j7_ct (o f) (s1_kd s) 3 12) (j7_ct (o f) (s1_kd s) 1 12)))) (jj_m s) := by
  refine jj_Ev_of (lo := [some (.ref 0), some (.int (nI f))]) (by decide +kernel) (Nat.le_of_ble_eq_true rfl) rfl (by trivial) ?_
  have h3 := j7_ct_le (o f) (s1_kd s) 3 12
  have h1 := j7_ct_le (o f) (s1_kd s) 1 12
  have hk0 := hk
  rcases (show n = 0 ∨ n = 1 ∨ n = 2 ∨ n = 3 by omega) with q | q | q | q
  · subst q
    refine jj_aload_n dX6_taxOf_0 rfl ?_
    refine jj_getf dX6_taxOf_1 fl6_44 rfl rfl ?_
    refine jj_iload_n dX6_taxOf_4 rfl ?_
    refine jj_callV (M2 := m1_kindOf) dX6_taxOf_5 ml6_137 tm1_kindOf (ev1_kindOf_1 hf) rfl rfl rfl rfl rfl (by omega) (Nat.le_of_ble_eq_true rfl) ?_
    rw [hk0]
    refine jj_swOut (tgt := 60) dX6_taxOf_8 (by decide) (by decide) ?_
    refine jj_iconst (v := 0) dX6_taxOf_60 (by decide) ?_
    exact jj_leaf dX6_taxOf_61 rfl rfl
  · subst q
    refine jj_aload_n dX6_taxOf_0 rfl ?_
    refine jj_getf dX6_taxOf_1 fl6_44 rfl rfl ?_
    refine jj_iload_n dX6_taxOf_4 rfl ?_
    refine jj_callV (M2 := m1_kindOf) dX6_taxOf_5 ml6_137 tm1_kindOf (ev1_kindOf_1 hf) rfl rfl rfl rfl rfl (by omega) (Nat.le_of_ble_eq_true rfl) ?_
    rw [hk0]
    refine jj_swIn (tgt := 36) (off := 28) dX6_taxOf_8 (by decide) (by decide) (by decide) (by decide) ?_
    refine jj_iconst (v := 2) dX6_taxOf_36 (by decide) ?_
    refine jj_aload_n dX6_taxOf_37 rfl ?_
    refine jj_iload_n dX6_taxOf_38 rfl ?_
    refine jj_iconst (v := 3) dX6_taxOf_39 (by decide) ?_
    refine jj_callV (M2 := m6_openOfKind) dX6_taxOf_40 ml6_153 tm6_openOfKind (ev6_openOfKind 3 ho hf) rfl rfl rfl rfl rfl (by omega) (Nat.le_of_ble_eq_true rfl) ?_
    refine jj_iadd (v := nI (2 + (j7_ct (o f) (s1_kd s) 3 12))) dX6_taxOf_43 (nI_add 2 _) ?_
    exact jj_leaf dX6_taxOf_44 rfl rfl
  · subst q
    have e1 : (if (0 : Int32) < nI 3 - nI (j7_ct (o f) (s1_kd s) 1 12) then nI 3 - nI (j7_ct (o f) (s1_kd s) 1 12) else 0) = nI (3 - (j7_ct (o f) (s1_kd s) 1 12)) := by
      by_cases z : nI 3 - nI (j7_ct (o f) (s1_kd s) 1 12) < 0
      · rw [if_neg (fun q => absurd (Int32.lt_trans q z) (by decide)), (j7_sub (by omega)).1 z]
      · rw [(j7_sub (by omega)).2 z]
        by_cases z2 : (0 : Int32) < nI (3 - (j7_ct (o f) (s1_kd s) 1 12))
        · rw [if_pos z2]
        · rw [if_neg z2]
          exact (Int32.le_antisymm (Int32.not_lt.mp z2) (nI_pos' (by omega))).symm
    refine jj_aload_n dX6_taxOf_0 rfl ?_
    refine jj_getf dX6_taxOf_1 fl6_44 rfl rfl ?_
    refine jj_iload_n dX6_taxOf_4 rfl ?_
    refine jj_callV (M2 := m1_kindOf) dX6_taxOf_5 ml6_137 tm1_kindOf (ev1_kindOf_1 hf) rfl rfl rfl rfl rfl (by omega) (Nat.le_of_ble_eq_true rfl) ?_
    rw [hk0]
    refine jj_swIn (tgt := 45) (off := 37) dX6_taxOf_8 (by decide) (by decide) (by decide) (by decide) ?_
    refine jj_iconst (v := 0) dX6_taxOf_45 (by decide) ?_
    refine jj_iconst (v := 3) dX6_taxOf_46 (by decide) ?_
    refine jj_aload_n dX6_taxOf_47 rfl ?_
    refine jj_iload_n dX6_taxOf_48 rfl ?_
    refine jj_iconst (v := 1) dX6_taxOf_49 (by decide) ?_
    refine jj_callV (M2 := m6_openOfKind) dX6_taxOf_50 ml6_153 tm6_openOfKind (ev6_openOfKind 1 ho hf) rfl rfl rfl rfl rfl (by omega) (Nat.le_of_ble_eq_true rfl) ?_
    refine jj_isub dX6_taxOf_53 rfl ?_
    refine jj_callS (M2 := mJ9_max) dX6_taxOf_54 ml6_156 tmJ9_max (evJ9_max 0 (nI 3 - nI (j7_ct (o f) (s1_kd s) 1 12))) rfl rfl (by omega) (Nat.le_of_ble_eq_true rfl) ?_
    exact jj_leaf dX6_taxOf_57 (by rw [e1]; rfl) rfl
  · subst q
    refine jj_aload_n dX6_taxOf_0 rfl ?_
    refine jj_getf dX6_taxOf_1 fl6_44 rfl rfl ?_
    refine jj_iload_n dX6_taxOf_4 rfl ?_
    refine jj_callV (M2 := m1_kindOf) dX6_taxOf_5 ml6_137 tm1_kindOf (ev1_kindOf_1 hf) rfl rfl rfl rfl rfl (by omega) (Nat.le_of_ble_eq_true rfl) ?_
    rw [hk0]
    refine jj_swIn (tgt := 58) (off := 50) dX6_taxOf_8 (by decide) (by decide) (by decide) (by decide) ?_
    refine jj_iconst (v := 1) dX6_taxOf_58 (by decide) ?_
    exact jj_leaf dX6_taxOf_59 rfl rfl
def j6_tF (s : jj_S) (o kn : Nat → Nat) (f : Nat) : Int32 := j7_tx (kn f) (j7_ct (o f) (s1_kd s) 3 12) (j7_ct (o f) (s1_kd s) 1 12)
set_option maxRecDepth 100000 in
set_option maxHeartbeats 1500000 in
theorem ev6_taxOfAll {G : jj_G} {s : jj_S} {o : Nat → Nat} {kn : Nat → Nat} (ho : j5_ok s o) (hkn : ∀ f, f < 12 → s1_kd s f = nI (kn f) ∧ kn f < 4) : jj_Ev G m6_taxOfAll 3 [.ref 0] (jj_m s) 0 0 (some (.int (j7_ts (j6_tF s o kn) 12))) (jj_m s) := by
  refine jj_Ev_of (lo := [some (.ref 0), none, none]) (by decide +kernel) (Nat.le_of_ble_eq_true rfl) rfl (by trivial) ?_
  have L : ∀ k, k ≤ 12 → jj_Go G m6_taxOfAll 3 4 [some (.ref 0), some (.int (j7_ts (j6_tF s o kn) k)), some (.int (nI k))] [] (jj_m s) 0 0 (some (.int (j7_ts (j6_tF s o kn) 12))) (jj_m s) := by
    refine jj_up 12 (fun k hk ih => ?_) ?_
    · obtain ⟨hk1, hk2⟩ := hkn k hk
      have ht := ev6_taxOf (G := G) ho hk hk1 hk2
      have e1 : j7_ts (j6_tF s o kn) (k + 1) = j7_ts (j6_tF s o kn) k + j7_tx (kn k) (j7_ct (o k) (s1_kd s) 3 12) (j7_ct (o k) (s1_kd s) 1 12) := rfl
      rw [e1] at ih
      refine jj_iload_n dX6_taxOfAll_4 rfl ?_
      refine jj_bipush (v := 12) dX6_taxOfAll_5 (by decide) ?_
      refine jj_icmp_ge (tgt := 24) dX6_taxOfAll_7 (by decide) (fun zz => absurd zz (jb_ge hk (by decide))) (fun _ => ?_)
      refine jj_iload_n dX6_taxOfAll_10 rfl ?_
      refine jj_aload_n dX6_taxOfAll_11 rfl ?_
      refine jj_iload_n dX6_taxOfAll_12 rfl ?_
      refine jj_callV (M2 := m6_taxOf) dX6_taxOfAll_13 ml6_143 tm6_taxOf (ht) rfl rfl rfl rfl rfl (by omega) (Nat.le_of_ble_eq_true rfl) ?_
      refine jj_iadd dX6_taxOfAll_16 rfl ?_
      refine jj_istore_n dX6_taxOfAll_17 rfl (by decide) rfl ?_
      refine jj_iinc dX6_taxOfAll_18 rfl (jb_i k) (by decide) rfl ?_
      refine jj_goto (tgt := 4) dX6_taxOfAll_21 (by decide) ?_
      exact ih
    · refine jj_iload_n dX6_taxOfAll_4 rfl ?_
      refine jj_bipush (v := 12) dX6_taxOfAll_5 (by decide) ?_
      refine jj_icmp_ge (tgt := 24) dX6_taxOfAll_7 (by decide) (fun _ => ?_) (fun zz => absurd (jb_ge' (n := 12) (by decide)) zz)
      refine jj_iload_n dX6_taxOfAll_24 rfl ?_
      exact jj_leaf dX6_taxOfAll_25 rfl rfl
  refine jj_iconst (v := 0) dX6_taxOfAll_0 (by decide) ?_
  refine jj_istore_n dX6_taxOfAll_1 rfl (by decide) rfl ?_
  refine jj_iconst (v := 0) dX6_taxOfAll_2 (by decide) ?_
  refine jj_istore_n dX6_taxOfAll_3 rfl (by decide) rfl ?_
  exact L 0 (by decide)
theorem j6_rng {x : Int32} (h : ¬ (1 ≤ x ∧ x ≤ 8)) : x < 1 ∨ (¬ x < 1 ∧ ¬ x ≤ 8) := by
  by_cases z : x < 1
  · exact .inl z
  · exact .inr ⟨z, fun q => h ⟨Int32.not_lt.mp z, q⟩⟩
theorem j6_n1 : ∀ n, n < 9 → 1 ≤ n → ¬ nI n < 1 ∧ nI n ≤ 8 := by decide +kernel
set_option maxRecDepth 100000 in
set_option maxHeartbeats 1500000 in
theorem ev6_write_b {G : jj_G} {s : jj_S} {x : Int32} (v : Int64) (hx : ¬ (1 ≤ x ∧ x ≤ 8)) : jj_Ev G m6_write 1 [.ref 0, .long v, .int x] (jj_m s) 0 0 (some (.int (-3))) (jj_m s) := by
  refine jj_Ev_of (lo := [some (.ref 0), some (.long v), none, some (.int x)]) (by decide +kernel) (Nat.le_of_ble_eq_true rfl) rfl (by trivial) ?_
  rcases j6_rng hx with h1 | ⟨h1, h2⟩
  · skip
    refine jj_iload_n dX6_write_0 rfl ?_
    refine jj_iconst (v := 1) dX6_write_1 (by decide) ?_
    refine jj_icmp_lt (tgt := 11) dX6_write_2 (by decide) (fun _ => ?_) (fun zz => absurd h1 zz)
    refine jj_bipush (v := (-3)) dX6_write_11 (by decide) ?_
    exact jj_leaf dX6_write_13 rfl rfl
  · skip
    refine jj_iload_n dX6_write_0 rfl ?_
    refine jj_iconst (v := 1) dX6_write_1 (by decide) ?_
    refine jj_icmp_lt (tgt := 11) dX6_write_2 (by decide) (fun zz => absurd zz h1) (fun _ => ?_)
    refine jj_iload_n dX6_write_5 rfl ?_
    refine jj_bipush (v := 8) dX6_write_6 (by decide) ?_
    refine jj_icmp_le (tgt := 14) dX6_write_8 (by decide) (fun zz => absurd zz h2) (fun _ => ?_)
    refine jj_bipush (v := (-3)) dX6_write_11 (by decide) ?_
    exact jj_leaf dX6_write_13 rfl rfl
set_option maxRecDepth 100000 in
set_option maxHeartbeats 1500000 in
theorem ev6_write {G : jj_G} {s : jj_S} {L n : Nat} (v : Int64) (hL : L ≤ 200) (hn : 1 ≤ n ∧ n ≤ 8) : jj_Ev G m6_write 1 [.ref 0, .long v, .int (nI n)] (jj_m (tx_lenS s (nI L))) 0 0 (some (.int (if L + n ≤ 200 then nI (L + n) else -5))) (jj_m (if L + n ≤ 200 then tx_lenS (tx_sgS s (j3_ap v (tx_sg s) L n)) (nI (L + n)) else tx_lenS s (nI L))) := by
  refine jj_Ev_of (lo := [some (.ref 0), some (.long v), none, some (.int (nI n))]) (by decide +kernel) (Nat.le_of_ble_eq_true rfl) rfl (by trivial) ?_
  obtain ⟨r1, r2⟩ := j6_n1 n (by omega) hn.1
  by_cases z : L + n ≤ 200
  · rw [if_pos z, if_pos z]
    refine jj_iload_n dX6_write_0 rfl ?_
    refine jj_iconst (v := 1) dX6_write_1 (by decide) ?_
    refine jj_icmp_lt (tgt := 11) dX6_write_2 (by decide) (fun zz => absurd zz r1) (fun _ => ?_)
    refine jj_iload_n dX6_write_5 rfl ?_
    refine jj_bipush (v := 8) dX6_write_6 (by decide) ?_
    refine jj_icmp_le (tgt := 14) dX6_write_8 (by decide) (fun _ => ?_) (fun zz => absurd r2 zz)
    refine jj_aload_n dX6_write_14 rfl ?_
    refine jj_getf dX6_write_15 fl6_12 rfl rfl ?_
    refine jj_iload_n dX6_write_18 rfl ?_
    refine jj_callV (M2 := m3_hasRoomFor) dX6_write_19 ml6_53 tm3_hasRoomFor (ev3_hasRoomFor (s := s) (L := L) (n := n) hL (by omega)) rfl rfl rfl rfl rfl (by omega) (Nat.le_of_ble_eq_true rfl) ?_
    refine jj_if_ne (tgt := 28) dX6_write_22 (by decide) (fun _ => ?_) (fun zz => absurd zz (by rw [jb_bt (show n ≤ 200 - L by omega)]; decide))
    refine jj_aload_n dX6_write_28 rfl ?_
    refine jj_getf dX6_write_29 fl6_12 rfl rfl ?_
    refine jj_lload_n dX6_write_32 rfl ?_
    refine jj_iload_n dX6_write_33 rfl ?_
    refine jj_callV (M2 := m3_append) dX6_write_34 ml6_57 tm3_append (ev3_append (s := s) v z) rfl rfl rfl rfl rfl (by omega) (Nat.le_of_ble_eq_true rfl) ?_
    exact jj_leaf dX6_write_37 rfl rfl
  · rw [if_neg z, if_neg z]
    refine jj_iload_n dX6_write_0 rfl ?_
    refine jj_iconst (v := 1) dX6_write_1 (by decide) ?_
    refine jj_icmp_lt (tgt := 11) dX6_write_2 (by decide) (fun zz => absurd zz r1) (fun _ => ?_)
    refine jj_iload_n dX6_write_5 rfl ?_
    refine jj_bipush (v := 8) dX6_write_6 (by decide) ?_
    refine jj_icmp_le (tgt := 14) dX6_write_8 (by decide) (fun _ => ?_) (fun zz => absurd r2 zz)
    refine jj_aload_n dX6_write_14 rfl ?_
    refine jj_getf dX6_write_15 fl6_12 rfl rfl ?_
    refine jj_iload_n dX6_write_18 rfl ?_
    refine jj_callV (M2 := m3_hasRoomFor) dX6_write_19 ml6_53 tm3_hasRoomFor (ev3_hasRoomFor (s := s) (L := L) (n := n) hL (by omega)) rfl rfl rfl rfl rfl (by omega) (Nat.le_of_ble_eq_true rfl) ?_
    refine jj_if_ne (tgt := 28) dX6_write_22 (by decide) (fun zz => absurd (jb_bf (show ¬ n ≤ 200 - L by omega)) zz) (fun _ => ?_)
    refine jj_bipush (v := (-5)) dX6_write_25 (by decide) ?_
    exact jj_leaf dX6_write_27 rfl rfl
set_option maxRecDepth 100000 in
set_option maxHeartbeats 1500000 in
theorem ev6_erase {G : jj_G} {s : jj_S}  : jj_Ev G m6_erase 1 [.ref 0] (jj_m s) 0 0 (some (.int (tx_len s))) (jj_m (tx_lenS s 0)) := by
  refine jj_Ev_of (lo := [some (.ref 0)]) (by decide +kernel) (Nat.le_of_ble_eq_true rfl) rfl (by trivial) ?_
  refine jj_aload_n dX6_erase_0 rfl ?_
  refine jj_getf dX6_erase_1 fl6_12 rfl rfl ?_
  refine jj_callV (M2 := m3_clear) dX6_erase_4 ml6_61 tm3_clear (ev3_clear) rfl rfl rfl rfl rfl (by omega) (Nat.le_of_ble_eq_true rfl) ?_
  exact jj_leaf dX6_erase_7 rfl rfl
set_option maxRecDepth 100000 in
set_option maxHeartbeats 1500000 in
theorem ev6_beside {G : jj_G} {s : jj_S} {f t : Nat} (hf : f < 12) (ht : t < 5) : jj_Ev G m6_beside 2 [.ref 0, .int (nI f), .int (nI t)] (jj_m s) 0 0 (some (.int (nI (jb_s f t)))) (jj_m s) := by
  refine jj_Ev_of (lo := [some (.ref 0), some (.int (nI f)), some (.int (nI t))]) (by decide +kernel) (Nat.le_of_ble_eq_true rfl) rfl (by trivial) ?_
  refine jj_iload_n dX6_beside_0 rfl ?_
  refine jj_iload_n dX6_beside_1 rfl ?_
  refine jj_callS (M2 := m0_across) dX6_beside_2 ml6_110 tm0_across (ev0_across hf ht) rfl rfl (by omega) (Nat.le_of_ble_eq_true rfl) ?_
  exact jj_leaf dX6_beside_5 rfl rfl
set_option maxRecDepth 100000 in
set_option maxHeartbeats 1500000 in
theorem ev6_beside_b {G : jj_G} {s : jj_S} (x y : Int32) (h : ¬ (vF x ∧ vS y)) : jj_Ev G m6_beside 2 [.ref 0, .int x, .int y] (jj_m s) 0 0 (some (.int (-2))) (jj_m s) := by
  refine jj_Ev_of (lo := [some (.ref 0), some (.int x), some (.int y)]) (by decide +kernel) (Nat.le_of_ble_eq_true rfl) rfl (by trivial) ?_
  refine jj_iload_n dX6_beside_0 rfl ?_
  refine jj_iload_n dX6_beside_1 rfl ?_
  refine jj_callS (M2 := m0_across) dX6_beside_2 ml6_110 tm0_across (ev0_across_b x y h) rfl rfl (by omega) (Nat.le_of_ble_eq_true rfl) ?_
  exact jj_leaf dX6_beside_5 rfl rfl
theorem ev0_isField_f {G : jj_G} {h : List jj_C} {x : Int32} (hx : ¬ vF x) : jj_Ev G m0_isField 0 [.int x] (h) 0 0 (some (.int 0)) (h) := by
  have e := ev0_isField (G := G) (h := h) x
  rwa [jb_bf hx] at e
theorem ev0_isSide_f {G : jj_G} {h : List jj_C} {x : Int32} (hx : ¬ vS x) : jj_Ev G m0_isSide 0 [.int x] (h) 0 0 (some (.int 0)) (h) := by
  have e := ev0_isSide (G := G) (h := h) x
  rwa [jb_bf hx] at e
set_option maxRecDepth 100000 in
set_option maxHeartbeats 1500000 in
theorem ev6_side {G : jj_G} {s : jj_S} {f g : Nat} (hf : f < 12) (hg : g < 12) : jj_Ev G m6_side 3 [.ref 0, .int (nI f), .int (nI g)] (jj_m s) 0 0 (some (.int (jb_sd f g))) (jj_m s) := by
  refine jj_Ev_of (lo := [some (.ref 0), some (.int (nI f)), some (.int (nI g))]) (by decide +kernel) (Nat.le_of_ble_eq_true rfl) rfl (by trivial) ?_
  refine jj_iload_n dX6_side_0 rfl ?_
  refine jj_callS (M2 := m0_isField) dX6_side_1 ml6_116 tm0_isField (ev0_isField_v hf) rfl rfl (by omega) (Nat.le_of_ble_eq_true rfl) ?_
  refine jj_if_eq (tgt := 14) dX6_side_4 (by decide) (fun zz => absurd zz (by decide)) (fun _ => ?_)
  refine jj_iload_n dX6_side_7 rfl ?_
  refine jj_callS (M2 := m0_isField) dX6_side_8 ml6_116 tm0_isField (ev0_isField_v hg) rfl rfl (by omega) (Nat.le_of_ble_eq_true rfl) ?_
  refine jj_if_ne (tgt := 17) dX6_side_11 (by decide) (fun _ => ?_) (fun zz => absurd zz (by decide))
  refine jj_iload_n dX6_side_17 rfl ?_
  refine jj_iload_n dX6_side_18 rfl ?_
  refine jj_callS (M2 := m0_sideTo) dX6_side_19 ml6_119 tm0_sideTo (ev0_sideTo hf hg) rfl rfl (by omega) (Nat.le_of_ble_eq_true rfl) ?_
  exact jj_leaf dX6_side_22 rfl rfl
set_option maxRecDepth 100000 in
set_option maxHeartbeats 1500000 in
theorem ev6_side_b {G : jj_G} {s : jj_S} (x y : Int32) (h : ¬ (vF x ∧ vF y)) : jj_Ev G m6_side 3 [.ref 0, .int x, .int y] (jj_m s) 0 0 (some (.int (-2))) (jj_m s) := by
  refine jj_Ev_of (lo := [some (.ref 0), some (.int x), some (.int y)]) (by decide +kernel) (Nat.le_of_ble_eq_true rfl) rfl (by trivial) ?_
  by_cases hx : vF x
  · have hy : ¬ vF y := fun q => h ⟨hx, q⟩
    obtain ⟨f, hf, rfl⟩ := vF_n hx
    refine jj_iload_n dX6_side_0 rfl ?_
    refine jj_callS (M2 := m0_isField) dX6_side_1 ml6_116 tm0_isField (ev0_isField_v hf) rfl rfl (by omega) (Nat.le_of_ble_eq_true rfl) ?_
    refine jj_if_eq (tgt := 14) dX6_side_4 (by decide) (fun zz => absurd zz (by decide)) (fun _ => ?_)
    refine jj_iload_n dX6_side_7 rfl ?_
    refine jj_callS (M2 := m0_isField) dX6_side_8 ml6_116 tm0_isField (ev0_isField_f hy) rfl rfl (by omega) (Nat.le_of_ble_eq_true rfl) ?_
    refine jj_if_ne (tgt := 17) dX6_side_11 (by decide) (fun zz => absurd rfl zz) (fun _ => ?_)
    refine jj_bipush (v := (-2)) dX6_side_14 (by decide) ?_
    exact jj_leaf dX6_side_16 rfl rfl
  · skip
    refine jj_iload_n dX6_side_0 rfl ?_
    refine jj_callS (M2 := m0_isField) dX6_side_1 ml6_116 tm0_isField (ev0_isField_f hx) rfl rfl (by omega) (Nat.le_of_ble_eq_true rfl) ?_
    refine jj_if_eq (tgt := 14) dX6_side_4 (by decide) (fun _ => ?_) (fun zz => absurd rfl zz)
    refine jj_bipush (v := (-2)) dX6_side_14 (by decide) ?_
    exact jj_leaf dX6_side_16 rfl rfl
set_option maxRecDepth 100000 in
set_option maxHeartbeats 1500000 in
theorem ev6_far {G : jj_G} {s : jj_S} {f g : Nat} (hf : f < 12) (hg : g < 12) : jj_Ev G m6_far 5 [.ref 0, .int (nI f), .int (nI g)] (jj_m s) 0 0 (some (.int (nI (jb_far f g)))) (jj_m s) := by
  refine jj_Ev_of (lo := [some (.ref 0), some (.int (nI f)), some (.int (nI g))]) (by decide +kernel) (Nat.le_of_ble_eq_true rfl) rfl (by trivial) ?_
  refine jj_iload_n dX6_far_0 rfl ?_
  refine jj_callS (M2 := m0_isField) dX6_far_1 ml6_116 tm0_isField (ev0_isField_v hf) rfl rfl (by omega) (Nat.le_of_ble_eq_true rfl) ?_
  refine jj_if_eq (tgt := 14) dX6_far_4 (by decide) (fun zz => absurd zz (by decide)) (fun _ => ?_)
  refine jj_iload_n dX6_far_7 rfl ?_
  refine jj_callS (M2 := m0_isField) dX6_far_8 ml6_116 tm0_isField (ev0_isField_v hg) rfl rfl (by omega) (Nat.le_of_ble_eq_true rfl) ?_
  refine jj_if_ne (tgt := 17) dX6_far_11 (by decide) (fun _ => ?_) (fun zz => absurd zz (by decide))
  refine jj_iload_n dX6_far_17 rfl ?_
  refine jj_iload_n dX6_far_18 rfl ?_
  refine jj_callS (M2 := m0_distance) dX6_far_19 ml6_122 tm0_distance (ev0_distance hf hg) rfl rfl (by omega) (Nat.le_of_ble_eq_true rfl) ?_
  exact jj_leaf dX6_far_22 rfl rfl
set_option maxRecDepth 100000 in
set_option maxHeartbeats 1500000 in
theorem ev6_far_b {G : jj_G} {s : jj_S} (x y : Int32) (h : ¬ (vF x ∧ vF y)) : jj_Ev G m6_far 5 [.ref 0, .int x, .int y] (jj_m s) 0 0 (some (.int (-2))) (jj_m s) := by
  refine jj_Ev_of (lo := [some (.ref 0), some (.int x), some (.int y)]) (by decide +kernel) (Nat.le_of_ble_eq_true rfl) rfl (by trivial) ?_
  by_cases hx : vF x
  · have hy : ¬ vF y := fun q => h ⟨hx, q⟩
    obtain ⟨f, hf, rfl⟩ := vF_n hx
    refine jj_iload_n dX6_far_0 rfl ?_
    refine jj_callS (M2 := m0_isField) dX6_far_1 ml6_116 tm0_isField (ev0_isField_v hf) rfl rfl (by omega) (Nat.le_of_ble_eq_true rfl) ?_
    refine jj_if_eq (tgt := 14) dX6_far_4 (by decide) (fun zz => absurd zz (by decide)) (fun _ => ?_)
    refine jj_iload_n dX6_far_7 rfl ?_
    refine jj_callS (M2 := m0_isField) dX6_far_8 ml6_116 tm0_isField (ev0_isField_f hy) rfl rfl (by omega) (Nat.le_of_ble_eq_true rfl) ?_
    refine jj_if_ne (tgt := 17) dX6_far_11 (by decide) (fun zz => absurd rfl zz) (fun _ => ?_)
    refine jj_bipush (v := (-2)) dX6_far_14 (by decide) ?_
    exact jj_leaf dX6_far_16 rfl rfl
  · skip
    refine jj_iload_n dX6_far_0 rfl ?_
    refine jj_callS (M2 := m0_isField) dX6_far_1 ml6_116 tm0_isField (ev0_isField_f hx) rfl rfl (by omega) (Nat.le_of_ble_eq_true rfl) ?_
    refine jj_if_eq (tgt := 14) dX6_far_4 (by decide) (fun _ => ?_) (fun zz => absurd rfl zz)
    refine jj_bipush (v := (-2)) dX6_far_14 (by decide) ?_
    exact jj_leaf dX6_far_16 rfl rfl
set_option maxRecDepth 100000 in
set_option maxHeartbeats 1500000 in
theorem ev6_other {G : jj_G} {s : jj_S} {f : Nat} (hf : f < 12) : jj_Ev G m6_other 6 [.ref 0, .int (nI f)] (jj_m s) 0 0 (some (.int (nI (jb_op f)))) (jj_m s) := by
  refine jj_Ev_of (lo := [some (.ref 0), some (.int (nI f))]) (by decide +kernel) (Nat.le_of_ble_eq_true rfl) rfl (by trivial) ?_
  refine jj_iload_n dX6_other_0 rfl ?_
  refine jj_callS (M2 := m0_isField) dX6_other_1 ml6_116 tm0_isField (ev0_isField_v hf) rfl rfl (by omega) (Nat.le_of_ble_eq_true rfl) ?_
  refine jj_if_ne (tgt := 10) dX6_other_4 (by decide) (fun _ => ?_) (fun zz => absurd zz (by decide))
  refine jj_iload_n dX6_other_10 rfl ?_
  refine jj_callS (M2 := m0_opposite) dX6_other_11 ml6_125 tm0_opposite (ev0_opposite hf) rfl rfl (by omega) (Nat.le_of_ble_eq_true rfl) ?_
  exact jj_leaf dX6_other_14 rfl rfl
set_option maxRecDepth 100000 in
set_option maxHeartbeats 1500000 in
theorem ev6_other_b {G : jj_G} {s : jj_S} (x : Int32) (h : ¬ vF x) : jj_Ev G m6_other 6 [.ref 0, .int x] (jj_m s) 0 0 (some (.int (-2))) (jj_m s) := by
  refine jj_Ev_of (lo := [some (.ref 0), some (.int x)]) (by decide +kernel) (Nat.le_of_ble_eq_true rfl) rfl (by trivial) ?_
  refine jj_iload_n dX6_other_0 rfl ?_
  refine jj_callS (M2 := m0_isField) dX6_other_1 ml6_116 tm0_isField (ev0_isField_f h) rfl rfl (by omega) (Nat.le_of_ble_eq_true rfl) ?_
  refine jj_if_ne (tgt := 10) dX6_other_4 (by decide) (fun zz => absurd rfl zz) (fun _ => ?_)
  refine jj_bipush (v := (-2)) dX6_other_7 (by decide) ?_
  exact jj_leaf dX6_other_9 rfl rfl
set_option maxRecDepth 100000 in
set_option maxHeartbeats 1500000 in
theorem ev6_goes {G : jj_G} {s : jj_S} {g : Nat → Nat → Nat} {a t f : Nat} (hg : j4_ok s g) (ha : a < 12) (ht : t < 5) (hf : f < 12) : jj_Ev G m6_goes 2 [.ref 0, .int (nI a), .int (nI t), .int (nI f)] (jj_m s) 0 0 (some (.int (nI (g (5 * a + t) f)))) (jj_m s) := by
  refine jj_Ev_of (lo := [some (.ref 0), some (.int (nI a)), some (.int (nI t)), some (.int (nI f))]) (by decide +kernel) (Nat.le_of_ble_eq_true rfl) rfl (by trivial) ?_
  have h60 : a * 5 + t < 60 := by omega
  rw [show 5 * a + t = a * 5 + t by omega]
  refine jj_iload_n dX6_goes_0 rfl ?_
  refine jj_callS (M2 := m0_isField) dX6_goes_1 ml6_116 tm0_isField (ev0_isField_v ha) rfl rfl (by omega) (Nat.le_of_ble_eq_true rfl) ?_
  refine jj_if_eq (tgt := 21) dX6_goes_4 (by decide) (fun zz => absurd zz (by decide)) (fun _ => ?_)
  refine jj_iload_n dX6_goes_7 rfl ?_
  refine jj_callS (M2 := m0_isSide) dX6_goes_8 ml6_128 tm0_isSide (ev0_isSide_v ht) rfl rfl (by omega) (Nat.le_of_ble_eq_true rfl) ?_
  refine jj_if_eq (tgt := 21) dX6_goes_11 (by decide) (fun zz => absurd zz (by decide)) (fun _ => ?_)
  refine jj_iload_n dX6_goes_14 rfl ?_
  refine jj_callS (M2 := m0_isField) dX6_goes_15 ml6_116 tm0_isField (ev0_isField_v hf) rfl rfl (by omega) (Nat.le_of_ble_eq_true rfl) ?_
  refine jj_if_ne (tgt := 24) dX6_goes_18 (by decide) (fun _ => ?_) (fun zz => absurd zz (by decide))
  refine jj_aload_n dX6_goes_24 rfl ?_
  refine jj_getf dX6_goes_25 fl6_19 rfl rfl ?_
  refine jj_iload_n dX6_goes_28 rfl ?_
  refine jj_iload_n dX6_goes_29 rfl ?_
  refine jj_callS (M2 := m4_number) dX6_goes_30 ml6_131 tm4_number (ev4_number) rfl rfl (by omega) (Nat.le_of_ble_eq_true rfl) ?_
  refine jj_iload_n dX6_goes_33 rfl ?_
  refine jj_callV (M2 := m4_goal) dX6_goes_34 ml6_134 tm4_goal (ev4_goal_n hg h60 hf) rfl rfl rfl rfl rfl (by omega) (Nat.le_of_ble_eq_true rfl) ?_
  exact jj_leaf dX6_goes_37 rfl rfl
set_option maxRecDepth 100000 in
set_option maxHeartbeats 1500000 in
theorem ev6_goes_b {G : jj_G} {s : jj_S} (x y z : Int32) (h : ¬ (vF x ∧ vS y ∧ vF z)) : jj_Ev G m6_goes 2 [.ref 0, .int x, .int y, .int z] (jj_m s) 0 0 (some (.int (-2))) (jj_m s) := by
  refine jj_Ev_of (lo := [some (.ref 0), some (.int x), some (.int y), some (.int z)]) (by decide +kernel) (Nat.le_of_ble_eq_true rfl) rfl (by trivial) ?_
  by_cases hx : vF x
  · obtain ⟨f, hf, rfl⟩ := vF_n hx
    by_cases hy : vS y
    · have hz : ¬ vF z := fun hz => h ⟨hx, hy, hz⟩
      obtain ⟨t, ht, rfl⟩ := vS_n hy
      refine jj_iload_n dX6_goes_0 rfl ?_
      refine jj_callS (M2 := m0_isField) dX6_goes_1 ml6_116 tm0_isField (ev0_isField_v hf) rfl rfl (by omega) (Nat.le_of_ble_eq_true rfl) ?_
      refine jj_if_eq (tgt := 21) dX6_goes_4 (by decide) (fun zz => absurd zz (by decide)) (fun _ => ?_)
      refine jj_iload_n dX6_goes_7 rfl ?_
      refine jj_callS (M2 := m0_isSide) dX6_goes_8 ml6_128 tm0_isSide (ev0_isSide_v ht) rfl rfl (by omega) (Nat.le_of_ble_eq_true rfl) ?_
      refine jj_if_eq (tgt := 21) dX6_goes_11 (by decide) (fun zz => absurd zz (by decide)) (fun _ => ?_)
      refine jj_iload_n dX6_goes_14 rfl ?_
      refine jj_callS (M2 := m0_isField) dX6_goes_15 ml6_116 tm0_isField (ev0_isField_f hz) rfl rfl (by omega) (Nat.le_of_ble_eq_true rfl) ?_
      refine jj_if_ne (tgt := 24) dX6_goes_18 (by decide) (fun zz => absurd rfl zz) (fun _ => ?_)
      refine jj_bipush (v := (-2)) dX6_goes_21 (by decide) ?_
      exact jj_leaf dX6_goes_23 rfl rfl
    · skip
      refine jj_iload_n dX6_goes_0 rfl ?_
      refine jj_callS (M2 := m0_isField) dX6_goes_1 ml6_116 tm0_isField (ev0_isField_v hf) rfl rfl (by omega) (Nat.le_of_ble_eq_true rfl) ?_
      refine jj_if_eq (tgt := 21) dX6_goes_4 (by decide) (fun zz => absurd zz (by decide)) (fun _ => ?_)
      refine jj_iload_n dX6_goes_7 rfl ?_
      refine jj_callS (M2 := m0_isSide) dX6_goes_8 ml6_128 tm0_isSide (ev0_isSide_f hy) rfl rfl (by omega) (Nat.le_of_ble_eq_true rfl) ?_
      refine jj_if_eq (tgt := 21) dX6_goes_11 (by decide) (fun _ => ?_) (fun zz => absurd rfl zz)
      refine jj_bipush (v := (-2)) dX6_goes_21 (by decide) ?_
      exact jj_leaf dX6_goes_23 rfl rfl
  · skip
    refine jj_iload_n dX6_goes_0 rfl ?_
    refine jj_callS (M2 := m0_isField) dX6_goes_1 ml6_116 tm0_isField (ev0_isField_f hx) rfl rfl (by omega) (Nat.le_of_ble_eq_true rfl) ?_
    refine jj_if_eq (tgt := 21) dX6_goes_4 (by decide) (fun _ => ?_) (fun zz => absurd rfl zz)
    refine jj_bipush (v := (-2)) dX6_goes_21 (by decide) ?_
    exact jj_leaf dX6_goes_23 rfl rfl
set_option maxRecDepth 100000 in
set_option maxHeartbeats 1500000 in
theorem ev6_field_b {G : jj_G} {s : jj_S} (x y : Int32) (h : ¬ vF x) : jj_Ev G m6_field 4 [.ref 0, .int x, .int y] (jj_m s) 0 0 (some (.int (-2))) (jj_m s) := by
  refine jj_Ev_of (lo := [some (.ref 0), some (.int x), some (.int y)]) (by decide +kernel) (Nat.le_of_ble_eq_true rfl) rfl (by trivial) ?_
  refine jj_iload_n dX6_field_0 rfl ?_
  refine jj_callS (M2 := m0_isField) dX6_field_1 ml6_116 tm0_isField (ev0_isField_f h) rfl rfl (by omega) (Nat.le_of_ble_eq_true rfl) ?_
  refine jj_if_ne (tgt := 10) dX6_field_4 (by decide) (fun zz => absurd rfl zz) (fun _ => ?_)
  refine jj_bipush (v := (-2)) dX6_field_7 (by decide) ?_
  exact jj_leaf dX6_field_9 rfl rfl
set_option maxRecDepth 100000 in
set_option maxHeartbeats 1500000 in
theorem ev6_field_0 {G : jj_G} {s : jj_S} {f : Nat} (hf : f < 12)  : jj_Ev G m6_field 4 [.ref 0, .int (nI f), .int 0] (jj_m s) 0 0 (some (.int (s1_kd s f))) (jj_m s) := by
  refine jj_Ev_of (lo := [some (.ref 0), some (.int (nI f)), some (.int 0)]) (by decide +kernel) (Nat.le_of_ble_eq_true rfl) rfl (by trivial) ?_
  refine jj_iload_n dX6_field_0 rfl ?_
  refine jj_callS (M2 := m0_isField) dX6_field_1 ml6_116 tm0_isField (ev0_isField_v hf) rfl rfl (by omega) (Nat.le_of_ble_eq_true rfl) ?_
  refine jj_if_ne (tgt := 10) dX6_field_4 (by decide) (fun _ => ?_) (fun zz => absurd zz (by decide))
  refine jj_iload_n dX6_field_10 rfl ?_
  refine jj_swIn (tgt := 40) (off := 29) dX6_field_11 (by decide) (by decide) (by decide) (by decide) ?_
  refine jj_aload_n dX6_field_40 rfl ?_
  refine jj_getf dX6_field_41 fl6_44 rfl rfl ?_
  refine jj_iload_n dX6_field_44 rfl ?_
  refine jj_callV (M2 := m1_kindOf) dX6_field_45 ml6_137 tm1_kindOf (ev1_kindOf_1 hf) rfl rfl rfl rfl rfl (by omega) (Nat.le_of_ble_eq_true rfl) ?_
  exact jj_leaf dX6_field_48 rfl rfl
set_option maxRecDepth 100000 in
set_option maxHeartbeats 1500000 in
theorem ev6_field_1 {G : jj_G} {s : jj_S} {o : Nat → Nat} {f : Nat} (hf : f < 12) (ho : j5_ok s o) : jj_Ev G m6_field 4 [.ref 0, .int (nI f), .int 1] (jj_m s) 0 0 (some (.int (nI (j5_sc o f 5)))) (jj_m s) := by
  refine jj_Ev_of (lo := [some (.ref 0), some (.int (nI f)), some (.int 1)]) (by decide +kernel) (Nat.le_of_ble_eq_true rfl) rfl (by trivial) ?_
  refine jj_iload_n dX6_field_0 rfl ?_
  refine jj_callS (M2 := m0_isField) dX6_field_1 ml6_116 tm0_isField (ev0_isField_v hf) rfl rfl (by omega) (Nat.le_of_ble_eq_true rfl) ?_
  refine jj_if_ne (tgt := 10) dX6_field_4 (by decide) (fun _ => ?_) (fun zz => absurd zz (by decide))
  refine jj_iload_n dX6_field_10 rfl ?_
  refine jj_swIn (tgt := 49) (off := 38) dX6_field_11 (by decide) (by decide) (by decide) (by decide) ?_
  refine jj_aload_n dX6_field_49 rfl ?_
  refine jj_getf dX6_field_50 fl6_26 rfl rfl ?_
  refine jj_iload_n dX6_field_53 rfl ?_
  refine jj_callV (M2 := m5_sidesClosed) dX6_field_54 ml6_140 tm5_sidesClosed (ev5_sidesClosed ho hf) rfl rfl rfl rfl rfl (by omega) (Nat.le_of_ble_eq_true rfl) ?_
  exact jj_leaf dX6_field_57 rfl rfl
set_option maxRecDepth 100000 in
set_option maxHeartbeats 1500000 in
theorem ev6_field_2 {G : jj_G} {s : jj_S} {o : Nat → Nat} {n : Nat} {f : Nat} (hf : f < 12) (ho : j5_ok s o) (hk : s1_kd s f = nI n) (hn : n < 4) : jj_Ev G m6_field 4 [.ref 0, .int (nI f), .int 2] (jj_m s) 0 0 (some (.int (j7_tx n (j7_ct (o f) (s1_kd s) 3 12) (j7_ct (o f) (s1_kd s) 1 12)))) (jj_m s) := by
  refine jj_Ev_of (lo := [some (.ref 0), some (.int (nI f)), some (.int 2)]) (by decide +kernel) (Nat.le_of_ble_eq_true rfl) rfl (by trivial) ?_
  refine jj_iload_n dX6_field_0 rfl ?_
  refine jj_callS (M2 := m0_isField) dX6_field_1 ml6_116 tm0_isField (ev0_isField_v hf) rfl rfl (by omega) (Nat.le_of_ble_eq_true rfl) ?_
  refine jj_if_ne (tgt := 10) dX6_field_4 (by decide) (fun _ => ?_) (fun zz => absurd zz (by decide))
  refine jj_iload_n dX6_field_10 rfl ?_
  refine jj_swIn (tgt := 58) (off := 47) dX6_field_11 (by decide) (by decide) (by decide) (by decide) ?_
  refine jj_aload_n dX6_field_58 rfl ?_
  refine jj_iload_n dX6_field_59 rfl ?_
  refine jj_callV (M2 := m6_taxOf) dX6_field_60 ml6_143 tm6_taxOf (ev6_taxOf ho hf hk hn) rfl rfl rfl rfl rfl (by omega) (Nat.le_of_ble_eq_true rfl) ?_
  exact jj_leaf dX6_field_63 rfl rfl
set_option maxRecDepth 100000 in
set_option maxHeartbeats 1500000 in
theorem ev6_field_3 {G : jj_G} {s : jj_S} {o : Nat → Nat} {f : Nat} (hf : f < 12) (ho : j5_ok s o) : jj_Ev G m6_field 4 [.ref 0, .int (nI f), .int 3] (jj_m s) 0 0 (some (.int (nI (o f)))) (jj_m s) := by
  refine jj_Ev_of (lo := [some (.ref 0), some (.int (nI f)), some (.int 3)]) (by decide +kernel) (Nat.le_of_ble_eq_true rfl) rfl (by trivial) ?_
  refine jj_iload_n dX6_field_0 rfl ?_
  refine jj_callS (M2 := m0_isField) dX6_field_1 ml6_116 tm0_isField (ev0_isField_v hf) rfl rfl (by omega) (Nat.le_of_ble_eq_true rfl) ?_
  refine jj_if_ne (tgt := 10) dX6_field_4 (by decide) (fun _ => ?_) (fun zz => absurd zz (by decide))
  refine jj_iload_n dX6_field_10 rfl ?_
  refine jj_swIn (tgt := 64) (off := 53) dX6_field_11 (by decide) (by decide) (by decide) (by decide) ?_
  refine jj_aload_n dX6_field_64 rfl ?_
  refine jj_getf dX6_field_65 fl6_26 rfl rfl ?_
  refine jj_iload_n dX6_field_68 rfl ?_
  refine jj_callV (M2 := m5_openTo) dX6_field_69 ml6_146 tm5_openTo (ev5_openTo_n ho hf) rfl rfl rfl rfl rfl (by omega) (Nat.le_of_ble_eq_true rfl) ?_
  exact jj_leaf dX6_field_72 rfl rfl
set_option maxRecDepth 100000 in
set_option maxHeartbeats 1500000 in
theorem ev6_field_d {G : jj_G} {s : jj_S} {f : Nat} {x : Int32} (hf : f < 12) (hx : x.toInt < 0 ∨ 3 < x.toInt) : jj_Ev G m6_field 4 [.ref 0, .int (nI f), .int x] (jj_m s) 0 0 (some (.int (-3))) (jj_m s) := by
  refine jj_Ev_of (lo := [some (.ref 0), some (.int (nI f)), some (.int x)]) (by decide +kernel) (Nat.le_of_ble_eq_true rfl) rfl (by trivial) ?_
  refine jj_iload_n dX6_field_0 rfl ?_
  refine jj_callS (M2 := m0_isField) dX6_field_1 ml6_116 tm0_isField (ev0_isField_v hf) rfl rfl (by omega) (Nat.le_of_ble_eq_true rfl) ?_
  refine jj_if_ne (tgt := 10) dX6_field_4 (by decide) (fun _ => ?_) (fun zz => absurd zz (by decide))
  refine jj_iload_n dX6_field_10 rfl ?_
  refine jj_swOut (tgt := 73) dX6_field_11 hx (by decide) ?_
  refine jj_bipush (v := (-3)) dX6_field_73 (by decide) ?_
  exact jj_leaf dX6_field_75 rfl rfl
set_option maxRecDepth 100000 in
set_option maxHeartbeats 1500000 in
theorem ev6_isSuch {G : jj_G} {h : List jj_C} {k n : Nat} (hn : n < 4) (hk : k < 5) : jj_Ev G m6_isSuch 0 [.int (nI n), .int (nI k)] (h) 0 0 (some (.int (jb_b (j7_is n k = true)))) (h) := by
  refine jj_Ev_of (lo := [some (.int (nI n)), some (.int (nI k))]) (by decide +kernel) (Nat.le_of_ble_eq_true rfl) rfl (jb_b01 _) ?_
  rcases (show k = 0 ∨ k = 1 ∨ k = 2 ∨ k = 3 ∨ k = 4 by omega) with q | q | q | q | q
  · subst q
    rcases (show n = 0 ∨ n = 1 ∨ n = 2 ∨ n = 3 by omega) with q | q | q | q
    · subst q
      refine jj_iload_n dX6_isSuch_0 rfl ?_
      refine jj_swIn (tgt := 36) (off := 35) dX6_isSuch_1 (by decide) (by decide) (by decide) (by decide) ?_
      refine jj_iconst (v := 1) dX6_isSuch_36 (by decide) ?_
      exact jj_leaf dX6_isSuch_37 rfl rfl
    · subst q
      refine jj_iload_n dX6_isSuch_0 rfl ?_
      refine jj_swIn (tgt := 36) (off := 35) dX6_isSuch_1 (by decide) (by decide) (by decide) (by decide) ?_
      refine jj_iconst (v := 1) dX6_isSuch_36 (by decide) ?_
      exact jj_leaf dX6_isSuch_37 rfl rfl
    · subst q
      refine jj_iload_n dX6_isSuch_0 rfl ?_
      refine jj_swIn (tgt := 36) (off := 35) dX6_isSuch_1 (by decide) (by decide) (by decide) (by decide) ?_
      refine jj_iconst (v := 1) dX6_isSuch_36 (by decide) ?_
      exact jj_leaf dX6_isSuch_37 rfl rfl
    · subst q
      refine jj_iload_n dX6_isSuch_0 rfl ?_
      refine jj_swIn (tgt := 36) (off := 35) dX6_isSuch_1 (by decide) (by decide) (by decide) (by decide) ?_
      refine jj_iconst (v := 1) dX6_isSuch_36 (by decide) ?_
      exact jj_leaf dX6_isSuch_37 rfl rfl
  · subst q
    rcases (show n = 0 ∨ n = 1 ∨ n = 2 ∨ n = 3 by omega) with q | q | q | q
    · subst q
      refine jj_iload_n dX6_isSuch_0 rfl ?_
      refine jj_swIn (tgt := 38) (off := 37) dX6_isSuch_1 (by decide) (by decide) (by decide) (by decide) ?_
      refine jj_iload_n dX6_isSuch_38 rfl ?_
      refine jj_iconst (v := 1) dX6_isSuch_39 (by decide) ?_
      refine jj_icmp_eq (tgt := 48) dX6_isSuch_40 (by decide) (fun zz => absurd zz (by decide)) (fun _ => ?_)
      refine jj_iload_n dX6_isSuch_43 rfl ?_
      refine jj_iconst (v := 2) dX6_isSuch_44 (by decide) ?_
      refine jj_icmp_ne (tgt := 52) dX6_isSuch_45 (by decide) (fun _ => ?_) (fun zz => absurd zz (by decide))
      refine jj_iconst (v := 0) dX6_isSuch_52 (by decide) ?_
      exact jj_leaf dX6_isSuch_53 rfl rfl
    · subst q
      refine jj_iload_n dX6_isSuch_0 rfl ?_
      refine jj_swIn (tgt := 38) (off := 37) dX6_isSuch_1 (by decide) (by decide) (by decide) (by decide) ?_
      refine jj_iload_n dX6_isSuch_38 rfl ?_
      refine jj_iconst (v := 1) dX6_isSuch_39 (by decide) ?_
      refine jj_icmp_eq (tgt := 48) dX6_isSuch_40 (by decide) (fun _ => ?_) (fun zz => absurd rfl zz)
      refine jj_iconst (v := 1) dX6_isSuch_48 (by decide) ?_
      refine jj_goto (tgt := 53) dX6_isSuch_49 (by decide) ?_
      exact jj_leaf dX6_isSuch_53 rfl rfl
    · subst q
      refine jj_iload_n dX6_isSuch_0 rfl ?_
      refine jj_swIn (tgt := 38) (off := 37) dX6_isSuch_1 (by decide) (by decide) (by decide) (by decide) ?_
      refine jj_iload_n dX6_isSuch_38 rfl ?_
      refine jj_iconst (v := 1) dX6_isSuch_39 (by decide) ?_
      refine jj_icmp_eq (tgt := 48) dX6_isSuch_40 (by decide) (fun zz => absurd zz (by decide)) (fun _ => ?_)
      refine jj_iload_n dX6_isSuch_43 rfl ?_
      refine jj_iconst (v := 2) dX6_isSuch_44 (by decide) ?_
      refine jj_icmp_ne (tgt := 52) dX6_isSuch_45 (by decide) (fun zz => absurd rfl zz) (fun _ => ?_)
      refine jj_iconst (v := 1) dX6_isSuch_48 (by decide) ?_
      refine jj_goto (tgt := 53) dX6_isSuch_49 (by decide) ?_
      exact jj_leaf dX6_isSuch_53 rfl rfl
    · subst q
      refine jj_iload_n dX6_isSuch_0 rfl ?_
      refine jj_swIn (tgt := 38) (off := 37) dX6_isSuch_1 (by decide) (by decide) (by decide) (by decide) ?_
      refine jj_iload_n dX6_isSuch_38 rfl ?_
      refine jj_iconst (v := 1) dX6_isSuch_39 (by decide) ?_
      refine jj_icmp_eq (tgt := 48) dX6_isSuch_40 (by decide) (fun zz => absurd zz (by decide)) (fun _ => ?_)
      refine jj_iload_n dX6_isSuch_43 rfl ?_
      refine jj_iconst (v := 2) dX6_isSuch_44 (by decide) ?_
      refine jj_icmp_ne (tgt := 52) dX6_isSuch_45 (by decide) (fun _ => ?_) (fun zz => absurd zz (by decide))
      refine jj_iconst (v := 0) dX6_isSuch_52 (by decide) ?_
      exact jj_leaf dX6_isSuch_53 rfl rfl
  · subst q
    rcases (show n = 0 ∨ n = 1 ∨ n = 2 ∨ n = 3 by omega) with q | q | q | q
    · subst q
      refine jj_iload_n dX6_isSuch_0 rfl ?_
      refine jj_swIn (tgt := 54) (off := 53) dX6_isSuch_1 (by decide) (by decide) (by decide) (by decide) ?_
      refine jj_iload_n dX6_isSuch_54 rfl ?_
      refine jj_iconst (v := 1) dX6_isSuch_55 (by decide) ?_
      refine jj_icmp_ne (tgt := 63) dX6_isSuch_56 (by decide) (fun _ => ?_) (fun zz => absurd zz (by decide))
      refine jj_iconst (v := 0) dX6_isSuch_63 (by decide) ?_
      exact jj_leaf dX6_isSuch_64 rfl rfl
    · subst q
      refine jj_iload_n dX6_isSuch_0 rfl ?_
      refine jj_swIn (tgt := 54) (off := 53) dX6_isSuch_1 (by decide) (by decide) (by decide) (by decide) ?_
      refine jj_iload_n dX6_isSuch_54 rfl ?_
      refine jj_iconst (v := 1) dX6_isSuch_55 (by decide) ?_
      refine jj_icmp_ne (tgt := 63) dX6_isSuch_56 (by decide) (fun zz => absurd rfl zz) (fun _ => ?_)
      refine jj_iconst (v := 1) dX6_isSuch_59 (by decide) ?_
      refine jj_goto (tgt := 64) dX6_isSuch_60 (by decide) ?_
      exact jj_leaf dX6_isSuch_64 rfl rfl
    · subst q
      refine jj_iload_n dX6_isSuch_0 rfl ?_
      refine jj_swIn (tgt := 54) (off := 53) dX6_isSuch_1 (by decide) (by decide) (by decide) (by decide) ?_
      refine jj_iload_n dX6_isSuch_54 rfl ?_
      refine jj_iconst (v := 1) dX6_isSuch_55 (by decide) ?_
      refine jj_icmp_ne (tgt := 63) dX6_isSuch_56 (by decide) (fun _ => ?_) (fun zz => absurd zz (by decide))
      refine jj_iconst (v := 0) dX6_isSuch_63 (by decide) ?_
      exact jj_leaf dX6_isSuch_64 rfl rfl
    · subst q
      refine jj_iload_n dX6_isSuch_0 rfl ?_
      refine jj_swIn (tgt := 54) (off := 53) dX6_isSuch_1 (by decide) (by decide) (by decide) (by decide) ?_
      refine jj_iload_n dX6_isSuch_54 rfl ?_
      refine jj_iconst (v := 1) dX6_isSuch_55 (by decide) ?_
      refine jj_icmp_ne (tgt := 63) dX6_isSuch_56 (by decide) (fun _ => ?_) (fun zz => absurd zz (by decide))
      refine jj_iconst (v := 0) dX6_isSuch_63 (by decide) ?_
      exact jj_leaf dX6_isSuch_64 rfl rfl
  · subst q
    rcases (show n = 0 ∨ n = 1 ∨ n = 2 ∨ n = 3 by omega) with q | q | q | q
    · subst q
      refine jj_iload_n dX6_isSuch_0 rfl ?_
      refine jj_swIn (tgt := 65) (off := 64) dX6_isSuch_1 (by decide) (by decide) (by decide) (by decide) ?_
      refine jj_iload_n dX6_isSuch_65 rfl ?_
      refine jj_iconst (v := 2) dX6_isSuch_66 (by decide) ?_
      refine jj_icmp_ne (tgt := 74) dX6_isSuch_67 (by decide) (fun _ => ?_) (fun zz => absurd zz (by decide))
      refine jj_iconst (v := 0) dX6_isSuch_74 (by decide) ?_
      exact jj_leaf dX6_isSuch_75 rfl rfl
    · subst q
      refine jj_iload_n dX6_isSuch_0 rfl ?_
      refine jj_swIn (tgt := 65) (off := 64) dX6_isSuch_1 (by decide) (by decide) (by decide) (by decide) ?_
      refine jj_iload_n dX6_isSuch_65 rfl ?_
      refine jj_iconst (v := 2) dX6_isSuch_66 (by decide) ?_
      refine jj_icmp_ne (tgt := 74) dX6_isSuch_67 (by decide) (fun _ => ?_) (fun zz => absurd zz (by decide))
      refine jj_iconst (v := 0) dX6_isSuch_74 (by decide) ?_
      exact jj_leaf dX6_isSuch_75 rfl rfl
    · subst q
      refine jj_iload_n dX6_isSuch_0 rfl ?_
      refine jj_swIn (tgt := 65) (off := 64) dX6_isSuch_1 (by decide) (by decide) (by decide) (by decide) ?_
      refine jj_iload_n dX6_isSuch_65 rfl ?_
      refine jj_iconst (v := 2) dX6_isSuch_66 (by decide) ?_
      refine jj_icmp_ne (tgt := 74) dX6_isSuch_67 (by decide) (fun zz => absurd rfl zz) (fun _ => ?_)
      refine jj_iconst (v := 1) dX6_isSuch_70 (by decide) ?_
      refine jj_goto (tgt := 75) dX6_isSuch_71 (by decide) ?_
      exact jj_leaf dX6_isSuch_75 rfl rfl
    · subst q
      refine jj_iload_n dX6_isSuch_0 rfl ?_
      refine jj_swIn (tgt := 65) (off := 64) dX6_isSuch_1 (by decide) (by decide) (by decide) (by decide) ?_
      refine jj_iload_n dX6_isSuch_65 rfl ?_
      refine jj_iconst (v := 2) dX6_isSuch_66 (by decide) ?_
      refine jj_icmp_ne (tgt := 74) dX6_isSuch_67 (by decide) (fun _ => ?_) (fun zz => absurd zz (by decide))
      refine jj_iconst (v := 0) dX6_isSuch_74 (by decide) ?_
      exact jj_leaf dX6_isSuch_75 rfl rfl
  · subst q
    rcases (show n = 0 ∨ n = 1 ∨ n = 2 ∨ n = 3 by omega) with q | q | q | q
    · subst q
      refine jj_iload_n dX6_isSuch_0 rfl ?_
      refine jj_swIn (tgt := 76) (off := 75) dX6_isSuch_1 (by decide) (by decide) (by decide) (by decide) ?_
      refine jj_iload_n dX6_isSuch_76 rfl ?_
      refine jj_iconst (v := 3) dX6_isSuch_77 (by decide) ?_
      refine jj_icmp_ne (tgt := 85) dX6_isSuch_78 (by decide) (fun _ => ?_) (fun zz => absurd zz (by decide))
      refine jj_iconst (v := 0) dX6_isSuch_85 (by decide) ?_
      exact jj_leaf dX6_isSuch_86 rfl rfl
    · subst q
      refine jj_iload_n dX6_isSuch_0 rfl ?_
      refine jj_swIn (tgt := 76) (off := 75) dX6_isSuch_1 (by decide) (by decide) (by decide) (by decide) ?_
      refine jj_iload_n dX6_isSuch_76 rfl ?_
      refine jj_iconst (v := 3) dX6_isSuch_77 (by decide) ?_
      refine jj_icmp_ne (tgt := 85) dX6_isSuch_78 (by decide) (fun _ => ?_) (fun zz => absurd zz (by decide))
      refine jj_iconst (v := 0) dX6_isSuch_85 (by decide) ?_
      exact jj_leaf dX6_isSuch_86 rfl rfl
    · subst q
      refine jj_iload_n dX6_isSuch_0 rfl ?_
      refine jj_swIn (tgt := 76) (off := 75) dX6_isSuch_1 (by decide) (by decide) (by decide) (by decide) ?_
      refine jj_iload_n dX6_isSuch_76 rfl ?_
      refine jj_iconst (v := 3) dX6_isSuch_77 (by decide) ?_
      refine jj_icmp_ne (tgt := 85) dX6_isSuch_78 (by decide) (fun _ => ?_) (fun zz => absurd zz (by decide))
      refine jj_iconst (v := 0) dX6_isSuch_85 (by decide) ?_
      exact jj_leaf dX6_isSuch_86 rfl rfl
    · subst q
      refine jj_iload_n dX6_isSuch_0 rfl ?_
      refine jj_swIn (tgt := 76) (off := 75) dX6_isSuch_1 (by decide) (by decide) (by decide) (by decide) ?_
      refine jj_iload_n dX6_isSuch_76 rfl ?_
      refine jj_iconst (v := 3) dX6_isSuch_77 (by decide) ?_
      refine jj_icmp_ne (tgt := 85) dX6_isSuch_78 (by decide) (fun zz => absurd rfl zz) (fun _ => ?_)
      refine jj_iconst (v := 1) dX6_isSuch_81 (by decide) ?_
      refine jj_goto (tgt := 86) dX6_isSuch_82 (by decide) ?_
      exact jj_leaf dX6_isSuch_86 rfl rfl
set_option maxRecDepth 100000 in
set_option maxHeartbeats 1500000 in
theorem ev6_as_b {G : jj_G} {s : jj_S} (x y : Int32) (h : ¬ vF x) : jj_Ev G m6_as 3 [.ref 0, .int x, .int y] (jj_m s) 0 0 (some (.int (-2))) (jj_m s) := by
  refine jj_Ev_of (lo := [some (.ref 0), some (.int x), some (.int y)]) (by decide +kernel) (Nat.le_of_ble_eq_true rfl) rfl (by trivial) ?_
  refine jj_iload_n dX6_as_0 rfl ?_
  refine jj_callS (M2 := m0_isField) dX6_as_1 ml6_116 tm0_isField (ev0_isField_f h) rfl rfl (by omega) (Nat.le_of_ble_eq_true rfl) ?_
  refine jj_if_ne (tgt := 10) dX6_as_4 (by decide) (fun zz => absurd rfl zz) (fun _ => ?_)
  refine jj_bipush (v := (-2)) dX6_as_7 (by decide) ?_
  exact jj_leaf dX6_as_9 rfl rfl
set_option maxRecDepth 100000 in
set_option maxHeartbeats 1500000 in
theorem ev6_as_c {G : jj_G} {s : jj_S} {f : Nat} {y : Int32} (hf : f < 12) (hy : ¬ (0 ≤ y ∧ y ≤ 4)) : jj_Ev G m6_as 3 [.ref 0, .int (nI f), .int y] (jj_m s) 0 0 (some (.int (-3))) (jj_m s) := by
  refine jj_Ev_of (lo := [some (.ref 0), some (.int (nI f)), some (.int y)]) (by decide +kernel) (Nat.le_of_ble_eq_true rfl) rfl (by trivial) ?_
  by_cases z : y < 0
  · skip
    refine jj_iload_n dX6_as_0 rfl ?_
    refine jj_callS (M2 := m0_isField) dX6_as_1 ml6_116 tm0_isField (ev0_isField_v hf) rfl rfl (by omega) (Nat.le_of_ble_eq_true rfl) ?_
    refine jj_if_ne (tgt := 10) dX6_as_4 (by decide) (fun _ => ?_) (fun zz => absurd zz (by decide))
    refine jj_iload_n dX6_as_10 rfl ?_
    refine jj_if_lt (tgt := 19) dX6_as_11 (by decide) (fun _ => ?_) (fun zz => absurd z zz)
    refine jj_bipush (v := (-3)) dX6_as_19 (by decide) ?_
    exact jj_leaf dX6_as_21 rfl rfl
  · have z2 : ¬ y ≤ 4 := fun q => hy ⟨Int32.not_lt.mp z, q⟩
    refine jj_iload_n dX6_as_0 rfl ?_
    refine jj_callS (M2 := m0_isField) dX6_as_1 ml6_116 tm0_isField (ev0_isField_v hf) rfl rfl (by omega) (Nat.le_of_ble_eq_true rfl) ?_
    refine jj_if_ne (tgt := 10) dX6_as_4 (by decide) (fun _ => ?_) (fun zz => absurd zz (by decide))
    refine jj_iload_n dX6_as_10 rfl ?_
    refine jj_if_lt (tgt := 19) dX6_as_11 (by decide) (fun zz => absurd zz z) (fun _ => ?_)
    refine jj_iload_n dX6_as_14 rfl ?_
    refine jj_iconst (v := 4) dX6_as_15 (by decide) ?_
    refine jj_icmp_le (tgt := 22) dX6_as_16 (by decide) (fun zz => absurd zz z2) (fun _ => ?_)
    refine jj_bipush (v := (-3)) dX6_as_19 (by decide) ?_
    exact jj_leaf dX6_as_21 rfl rfl
theorem j6_k4 : ∀ k, k < 5 → ¬ nI k < 0 ∧ nI k ≤ 4 := by decide +kernel
set_option maxRecDepth 100000 in
set_option maxHeartbeats 1500000 in
theorem ev6_as {G : jj_G} {s : jj_S} {o : Nat → Nat} {f k n : Nat} (ho : j5_ok s o) (hf : f < 12) (hk : s1_kd s f = nI n) (hn : n < 4) (hk5 : k < 5) : jj_Ev G m6_as 3 [.ref 0, .int (nI f), .int (nI k)] (jj_m s) 0 0 (some (.int (if j7_is n k = true then j7_tx n (j7_ct (o f) (s1_kd s) 3 12) (j7_ct (o f) (s1_kd s) 1 12) else -4))) (jj_m s) := by
  refine jj_Ev_of (lo := [some (.ref 0), some (.int (nI f)), some (.int (nI k))]) (by decide +kernel) (Nat.le_of_ble_eq_true rfl) rfl (by trivial) ?_
  obtain ⟨r1, r2⟩ := j6_k4 k hk5
  by_cases z : j7_is n k = true
  · rw [if_pos z]
    refine jj_iload_n dX6_as_0 rfl ?_
    refine jj_callS (M2 := m0_isField) dX6_as_1 ml6_116 tm0_isField (ev0_isField_v hf) rfl rfl (by omega) (Nat.le_of_ble_eq_true rfl) ?_
    refine jj_if_ne (tgt := 10) dX6_as_4 (by decide) (fun _ => ?_) (fun zz => absurd zz (by decide))
    refine jj_iload_n dX6_as_10 rfl ?_
    refine jj_if_lt (tgt := 19) dX6_as_11 (by decide) (fun zz => absurd zz r1) (fun _ => ?_)
    refine jj_iload_n dX6_as_14 rfl ?_
    refine jj_iconst (v := 4) dX6_as_15 (by decide) ?_
    refine jj_icmp_le (tgt := 22) dX6_as_16 (by decide) (fun _ => ?_) (fun zz => absurd r2 zz)
    refine jj_aload_n dX6_as_22 rfl ?_
    refine jj_getf dX6_as_23 fl6_44 rfl rfl ?_
    refine jj_iload_n dX6_as_26 rfl ?_
    refine jj_callV (M2 := m1_kindOf) dX6_as_27 ml6_137 tm1_kindOf (ev1_kindOf_1 hf) rfl rfl rfl rfl rfl (by omega) (Nat.le_of_ble_eq_true rfl) ?_
    rw [hk]
    refine jj_iload_n dX6_as_30 rfl ?_
    refine jj_callS (M2 := m6_isSuch) dX6_as_31 ml6_149 tm6_isSuch (ev6_isSuch hn hk5) rfl rfl (by omega) (Nat.le_of_ble_eq_true rfl) ?_
    refine jj_if_eq (tgt := 45) dX6_as_34 (by decide) (fun zz => absurd zz (by rw [jb_bt z]; decide)) (fun _ => ?_)
    refine jj_aload_n dX6_as_37 rfl ?_
    refine jj_iload_n dX6_as_38 rfl ?_
    refine jj_callV (M2 := m6_taxOf) dX6_as_39 ml6_143 tm6_taxOf (ev6_taxOf ho hf hk hn) rfl rfl rfl rfl rfl (by omega) (Nat.le_of_ble_eq_true rfl) ?_
    refine jj_goto (tgt := 47) dX6_as_42 (by decide) ?_
    exact jj_leaf dX6_as_47 rfl rfl
  · rw [if_neg z]
    refine jj_iload_n dX6_as_0 rfl ?_
    refine jj_callS (M2 := m0_isField) dX6_as_1 ml6_116 tm0_isField (ev0_isField_v hf) rfl rfl (by omega) (Nat.le_of_ble_eq_true rfl) ?_
    refine jj_if_ne (tgt := 10) dX6_as_4 (by decide) (fun _ => ?_) (fun zz => absurd zz (by decide))
    refine jj_iload_n dX6_as_10 rfl ?_
    refine jj_if_lt (tgt := 19) dX6_as_11 (by decide) (fun zz => absurd zz r1) (fun _ => ?_)
    refine jj_iload_n dX6_as_14 rfl ?_
    refine jj_iconst (v := 4) dX6_as_15 (by decide) ?_
    refine jj_icmp_le (tgt := 22) dX6_as_16 (by decide) (fun _ => ?_) (fun zz => absurd r2 zz)
    refine jj_aload_n dX6_as_22 rfl ?_
    refine jj_getf dX6_as_23 fl6_44 rfl rfl ?_
    refine jj_iload_n dX6_as_26 rfl ?_
    refine jj_callV (M2 := m1_kindOf) dX6_as_27 ml6_137 tm1_kindOf (ev1_kindOf_1 hf) rfl rfl rfl rfl rfl (by omega) (Nat.le_of_ble_eq_true rfl) ?_
    rw [hk]
    refine jj_iload_n dX6_as_30 rfl ?_
    refine jj_callS (M2 := m6_isSuch) dX6_as_31 ml6_149 tm6_isSuch (ev6_isSuch hn hk5) rfl rfl (by omega) (Nat.le_of_ble_eq_true rfl) ?_
    refine jj_if_eq (tgt := 45) dX6_as_34 (by decide) (fun _ => ?_) (fun zz => absurd (jb_bf z) zz)
    refine jj_bipush (v := (-4)) dX6_as_45 (by decide) ?_
    exact jj_leaf dX6_as_47 rfl rfl
set_option maxRecDepth 100000 in
set_option maxHeartbeats 1500000 in
theorem ev6_rotate_b {G : jj_G} {s : jj_S} (x y : Int32) (h : ¬ (vF x ∧ vS y)) : jj_Ev G m6_rotate 3 [.ref 0, .int x, .int y] (jj_m s) 0 0 (some (.int (-2))) (jj_m s) := by
  refine jj_Ev_of (lo := [some (.ref 0), some (.int x), some (.int y)]) (by decide +kernel) (Nat.le_of_ble_eq_true rfl) rfl (by trivial) ?_
  by_cases hx : vF x
  · have hy : ¬ vS y := fun q => h ⟨hx, q⟩
    obtain ⟨f, hf, rfl⟩ := vF_n hx
    refine jj_iload_n dX6_rotate_0 rfl ?_
    refine jj_callS (M2 := m0_isField) dX6_rotate_1 ml6_116 tm0_isField (ev0_isField_v hf) rfl rfl (by omega) (Nat.le_of_ble_eq_true rfl) ?_
    refine jj_if_eq (tgt := 14) dX6_rotate_4 (by decide) (fun zz => absurd zz (by decide)) (fun _ => ?_)
    refine jj_iload_n dX6_rotate_7 rfl ?_
    refine jj_callS (M2 := m0_isSide) dX6_rotate_8 ml6_128 tm0_isSide (ev0_isSide_f hy) rfl rfl (by omega) (Nat.le_of_ble_eq_true rfl) ?_
    refine jj_if_ne (tgt := 17) dX6_rotate_11 (by decide) (fun zz => absurd rfl zz) (fun _ => ?_)
    refine jj_bipush (v := (-2)) dX6_rotate_14 (by decide) ?_
    exact jj_leaf dX6_rotate_16 rfl rfl
  · skip
    refine jj_iload_n dX6_rotate_0 rfl ?_
    refine jj_callS (M2 := m0_isField) dX6_rotate_1 ml6_116 tm0_isField (ev0_isField_f hx) rfl rfl (by omega) (Nat.le_of_ble_eq_true rfl) ?_
    refine jj_if_eq (tgt := 14) dX6_rotate_4 (by decide) (fun _ => ?_) (fun zz => absurd rfl zz)
    refine jj_bipush (v := (-2)) dX6_rotate_14 (by decide) ?_
    exact jj_leaf dX6_rotate_16 rfl rfl
set_option maxRecDepth 100000 in
set_option maxHeartbeats 1500000 in
theorem ev6_rotate {G : jj_G} {s : jj_S} {g : Nat → Nat → Nat} {a t : Nat} (hg : j4_ok s g) (ha : a < 12) (ht : t < 5) : jj_Ev G m6_rotate 3 [.ref 0, .int (nI a), .int (nI t)] (jj_m s) 0 0 (some (.int (nI (j1_ct (j1_tu (g (5 * a + t)) (s1_kd s) (s1_tu s) 12) (s1_kd s) 12)))) (jj_m (s1_kdS (s1_tuS s (j1_tu (g (5 * a + t)) (s1_kd s) (s1_tu s) 12)) (jF (j1_tu (g (5 * a + t)) (s1_kd s) (s1_tu s) 12) (s1_kd s) 12))) := by
  refine jj_Ev_of (lo := [some (.ref 0), some (.int (nI a)), some (.int (nI t))]) (by decide +kernel) (Nat.le_of_ble_eq_true rfl) rfl (by trivial) ?_
  have h60 : a * 5 + t < 60 := by omega
  rw [show 5 * a + t = a * 5 + t by omega]
  refine jj_iload_n dX6_rotate_0 rfl ?_
  refine jj_callS (M2 := m0_isField) dX6_rotate_1 ml6_116 tm0_isField (ev0_isField_v ha) rfl rfl (by omega) (Nat.le_of_ble_eq_true rfl) ?_
  refine jj_if_eq (tgt := 14) dX6_rotate_4 (by decide) (fun zz => absurd zz (by decide)) (fun _ => ?_)
  refine jj_iload_n dX6_rotate_7 rfl ?_
  refine jj_callS (M2 := m0_isSide) dX6_rotate_8 ml6_128 tm0_isSide (ev0_isSide_v ht) rfl rfl (by omega) (Nat.le_of_ble_eq_true rfl) ?_
  refine jj_if_ne (tgt := 17) dX6_rotate_11 (by decide) (fun _ => ?_) (fun zz => absurd zz (by decide))
  refine jj_aload_n dX6_rotate_17 rfl ?_
  refine jj_getf dX6_rotate_18 fl6_44 rfl rfl ?_
  refine jj_aload_n dX6_rotate_21 rfl ?_
  refine jj_getf dX6_rotate_22 fl6_19 rfl rfl ?_
  refine jj_iload_n dX6_rotate_25 rfl ?_
  refine jj_iload_n dX6_rotate_26 rfl ?_
  refine jj_callS (M2 := m4_number) dX6_rotate_27 ml6_131 tm4_number (ev4_number) rfl rfl (by omega) (Nat.le_of_ble_eq_true rfl) ?_
  refine jj_callV (M2 := m1_turn) dX6_rotate_30 ml6_169 tm1_turn (ev1_turn h60 (fun k hk => hg (a * 5 + t) h60 k hk)) rfl rfl rfl rfl rfl (by omega) (Nat.le_of_ble_eq_true rfl) ?_
  exact jj_leaf dX6_rotate_33 rfl rfl
set_option maxRecDepth 100000 in
set_option maxHeartbeats 1500000 in
theorem ev6_walker_0 {G : jj_G} {s : jj_S}  : jj_Ev G m6_walker 1 [.ref 0, .int 0] (jj_m s) 0 0 (some (.int (s1_pl s))) (jj_m s) := by
  refine jj_Ev_of (lo := [some (.ref 0), some (.int 0)]) (by decide +kernel) (Nat.le_of_ble_eq_true rfl) rfl (by trivial) ?_
  refine jj_iload_n dX6_walker_0 rfl ?_
  refine jj_swIn (tgt := 28) (off := 27) dX6_walker_1 (by decide) (by decide) (by decide) (by decide) ?_
  refine jj_aload_n dX6_walker_28 rfl ?_
  refine jj_getf dX6_walker_29 fl6_44 rfl rfl ?_
  refine jj_callV (M2 := m1_place) dX6_walker_32 ml6_173 tm1_place (ev1_place) rfl rfl rfl rfl rfl (by omega) (Nat.le_of_ble_eq_true rfl) ?_
  exact jj_leaf dX6_walker_35 rfl rfl
set_option maxRecDepth 100000 in
set_option maxHeartbeats 1500000 in
theorem ev6_walker_1 {G : jj_G} {s : jj_S}  : jj_Ev G m6_walker 1 [.ref 0, .int 1] (jj_m s) 0 0 (some (.int (s1_en s))) (jj_m s) := by
  refine jj_Ev_of (lo := [some (.ref 0), some (.int 1)]) (by decide +kernel) (Nat.le_of_ble_eq_true rfl) rfl (by trivial) ?_
  refine jj_iload_n dX6_walker_0 rfl ?_
  refine jj_swIn (tgt := 36) (off := 35) dX6_walker_1 (by decide) (by decide) (by decide) (by decide) ?_
  refine jj_aload_n dX6_walker_36 rfl ?_
  refine jj_getf dX6_walker_37 fl6_44 rfl rfl ?_
  refine jj_callV (M2 := m1_entry) dX6_walker_40 ml6_176 tm1_entry (ev1_entry) rfl rfl rfl rfl rfl (by omega) (Nat.le_of_ble_eq_true rfl) ?_
  exact jj_leaf dX6_walker_43 rfl rfl
set_option maxRecDepth 100000 in
set_option maxHeartbeats 1500000 in
theorem ev6_walker_2 {G : jj_G} {s : jj_S}  : jj_Ev G m6_walker 1 [.ref 0, .int 2] (jj_m s) 0 0 (some (.int (s1_st s))) (jj_m s) := by
  refine jj_Ev_of (lo := [some (.ref 0), some (.int 2)]) (by decide +kernel) (Nat.le_of_ble_eq_true rfl) rfl (by trivial) ?_
  refine jj_iload_n dX6_walker_0 rfl ?_
  refine jj_swIn (tgt := 44) (off := 43) dX6_walker_1 (by decide) (by decide) (by decide) (by decide) ?_
  refine jj_aload_n dX6_walker_44 rfl ?_
  refine jj_getf dX6_walker_45 fl6_44 rfl rfl ?_
  refine jj_callV (M2 := m1_steps) dX6_walker_48 ml6_185 tm1_steps (ev1_steps) rfl rfl rfl rfl rfl (by omega) (Nat.le_of_ble_eq_true rfl) ?_
  exact jj_leaf dX6_walker_51 rfl rfl
set_option maxRecDepth 100000 in
set_option maxHeartbeats 1500000 in
theorem ev6_walker_d {G : jj_G} {s : jj_S} {x : Int32} (hx : x.toInt < 0 ∨ 2 < x.toInt) : jj_Ev G m6_walker 1 [.ref 0, .int x] (jj_m s) 0 0 (some (.int (-3))) (jj_m s) := by
  refine jj_Ev_of (lo := [some (.ref 0), some (.int x)]) (by decide +kernel) (Nat.le_of_ble_eq_true rfl) rfl (by trivial) ?_
  refine jj_iload_n dX6_walker_0 rfl ?_
  refine jj_swOut (tgt := 52) dX6_walker_1 hx (by decide) ?_
  refine jj_bipush (v := (-3)) dX6_walker_52 (by decide) ?_
  exact jj_leaf dX6_walker_54 rfl rfl
set_option maxRecDepth 100000 in
set_option maxHeartbeats 1500000 in
theorem ev6_step_b {G : jj_G} {s : jj_S} (x : Int32) (h : ¬ vS x) : jj_Ev G m6_step 3 [.ref 0, .int x] (jj_m s) 0 0 (some (.int (-3))) (jj_m s) := by
  refine jj_Ev_of (lo := [some (.ref 0), some (.int x), none, none]) (by decide +kernel) (Nat.le_of_ble_eq_true rfl) rfl (by trivial) ?_
  refine jj_iload_n dX6_step_0 rfl ?_
  refine jj_callS (M2 := m0_isSide) dX6_step_1 ml6_128 tm0_isSide (ev0_isSide_f h) rfl rfl (by omega) (Nat.le_of_ble_eq_true rfl) ?_
  refine jj_if_ne (tgt := 10) dX6_step_4 (by decide) (fun zz => absurd rfl zz) (fun _ => ?_)
  refine jj_bipush (v := (-3)) dX6_step_7 (by decide) ?_
  exact jj_leaf dX6_step_9 rfl rfl
set_option maxRecDepth 100000 in
set_option maxHeartbeats 1500000 in
theorem ev6_step {G : jj_G} {s : jj_S} {o : Nat → Nat} {F D N t : Nat} (ho : j5_ok s o) (hF : s1_pl s = nI F) (hF2 : F < 12) (hD : s1_en s = nI D) (hD2 : D < 5) (hN : s1_st s = nI N) (hN2 : N ≤ 9999) (ht : t < 5) : jj_Ev G m6_step 3 [.ref 0, .int (nI t)] (jj_m s) 0 0 (some (.int (if (o F).testBit (jb_s F (jh_u D t)) = true then (if N = 9999 then -5 else nI (jb_s F (jh_u D t))) else -4))) (jj_m (if (o F).testBit (jb_s F (jh_u D t)) = true then (if N = 9999 then s else s1_stS (s1_enS (s1_plS s (nI (jb_s F (jh_u D t)))) (nI (jb_bk F (jh_u D t)))) (s1_st s + 1)) else s)) := by
  refine jj_Ev_of (lo := [some (.ref 0), some (.int (nI t)), none, none]) (by decide +kernel) (Nat.le_of_ble_eq_true rfl) rfl (by trivial) ?_
  have hu : jh_u D t < 5 := jh_u_lt D t
  by_cases z : (o F).testBit (jb_s F (jh_u D t)) = true
  · rw [if_pos z, if_pos z]
    have hs := jb_s_lt F hF2 _ hu
    by_cases zN : N = 9999
    · rw [if_pos zN, if_pos zN]
      refine jj_iload_n dX6_step_0 rfl ?_
      refine jj_callS (M2 := m0_isSide) dX6_step_1 ml6_128 tm0_isSide (ev0_isSide_v ht) rfl rfl (by omega) (Nat.le_of_ble_eq_true rfl) ?_
      refine jj_if_ne (tgt := 10) dX6_step_4 (by decide) (fun _ => ?_) (fun zz => absurd zz (by decide))
      refine jj_aload_n dX6_step_10 rfl ?_
      refine jj_getf dX6_step_11 fl6_44 rfl rfl ?_
      refine jj_callV (M2 := m1_place) dX6_step_14 ml6_173 tm1_place (ev1_place) rfl rfl rfl rfl rfl (by omega) (Nat.le_of_ble_eq_true rfl) ?_
      rw [hF]
      refine jj_istore_n dX6_step_17 rfl (by decide) rfl ?_
      refine jj_aload_n dX6_step_18 rfl ?_
      refine jj_getf dX6_step_19 fl6_26 rfl rfl ?_
      refine jj_iload_n dX6_step_22 rfl ?_
      refine jj_aload_n dX6_step_23 rfl ?_
      refine jj_getf dX6_step_24 fl6_44 rfl rfl ?_
      refine jj_callV (M2 := m1_entry) dX6_step_27 ml6_176 tm1_entry (ev1_entry) rfl rfl rfl rfl rfl (by omega) (Nat.le_of_ble_eq_true rfl) ?_
      rw [hD]
      refine jj_iload_n dX6_step_30 rfl ?_
      refine jj_callS (M2 := m0_on) dX6_step_31 ml6_179 tm0_on (ev0_on hD2 ht) rfl rfl (by omega) (Nat.le_of_ble_eq_true rfl) ?_
      refine jj_callV (M2 := m5_through) dX6_step_34 ml6_182 tm5_through (ev5_through_t ho hF2 hu z) rfl rfl rfl rfl rfl (by omega) (Nat.le_of_ble_eq_true rfl) ?_
      refine jj_istore_n dX6_step_37 rfl (by decide) rfl ?_
      refine jj_iload_n dX6_step_38 rfl ?_
      refine jj_iconst (v := (-1)) dX6_step_39 (by decide) ?_
      refine jj_icmp_ne (tgt := 46) dX6_step_40 (by decide) (fun _ => ?_) (fun zz => absurd zz (jb_nm1 (by omega)))
      refine jj_aload_n dX6_step_46 rfl ?_
      refine jj_getf dX6_step_47 fl6_44 rfl rfl ?_
      refine jj_callV (M2 := m1_steps) dX6_step_50 ml6_185 tm1_steps (ev1_steps) rfl rfl rfl rfl rfl (by omega) (Nat.le_of_ble_eq_true rfl) ?_
      refine jj_eq (st' := [.int (nI N)]) rfl rfl (by rw [← hN]; rfl) rfl ?_
      refine jj_sipush (v := 9999) dX6_step_53 (by decide) ?_
      refine jj_icmp_lt (tgt := 62) dX6_step_56 (by decide) (fun zz => absurd zz (nI_nlt (a := N) (b := 9999) (by omega) (by omega))) (fun _ => ?_)
      refine jj_bipush (v := (-5)) dX6_step_59 (by decide) ?_
      exact jj_leaf dX6_step_61 rfl rfl
    · rw [if_neg zN, if_neg zN]
      refine jj_iload_n dX6_step_0 rfl ?_
      refine jj_callS (M2 := m0_isSide) dX6_step_1 ml6_128 tm0_isSide (ev0_isSide_v ht) rfl rfl (by omega) (Nat.le_of_ble_eq_true rfl) ?_
      refine jj_if_ne (tgt := 10) dX6_step_4 (by decide) (fun _ => ?_) (fun zz => absurd zz (by decide))
      refine jj_aload_n dX6_step_10 rfl ?_
      refine jj_getf dX6_step_11 fl6_44 rfl rfl ?_
      refine jj_callV (M2 := m1_place) dX6_step_14 ml6_173 tm1_place (ev1_place) rfl rfl rfl rfl rfl (by omega) (Nat.le_of_ble_eq_true rfl) ?_
      rw [hF]
      refine jj_istore_n dX6_step_17 rfl (by decide) rfl ?_
      refine jj_aload_n dX6_step_18 rfl ?_
      refine jj_getf dX6_step_19 fl6_26 rfl rfl ?_
      refine jj_iload_n dX6_step_22 rfl ?_
      refine jj_aload_n dX6_step_23 rfl ?_
      refine jj_getf dX6_step_24 fl6_44 rfl rfl ?_
      refine jj_callV (M2 := m1_entry) dX6_step_27 ml6_176 tm1_entry (ev1_entry) rfl rfl rfl rfl rfl (by omega) (Nat.le_of_ble_eq_true rfl) ?_
      rw [hD]
      refine jj_iload_n dX6_step_30 rfl ?_
      refine jj_callS (M2 := m0_on) dX6_step_31 ml6_179 tm0_on (ev0_on hD2 ht) rfl rfl (by omega) (Nat.le_of_ble_eq_true rfl) ?_
      refine jj_callV (M2 := m5_through) dX6_step_34 ml6_182 tm5_through (ev5_through_t ho hF2 hu z) rfl rfl rfl rfl rfl (by omega) (Nat.le_of_ble_eq_true rfl) ?_
      refine jj_istore_n dX6_step_37 rfl (by decide) rfl ?_
      refine jj_iload_n dX6_step_38 rfl ?_
      refine jj_iconst (v := (-1)) dX6_step_39 (by decide) ?_
      refine jj_icmp_ne (tgt := 46) dX6_step_40 (by decide) (fun _ => ?_) (fun zz => absurd zz (jb_nm1 (by omega)))
      refine jj_aload_n dX6_step_46 rfl ?_
      refine jj_getf dX6_step_47 fl6_44 rfl rfl ?_
      refine jj_callV (M2 := m1_steps) dX6_step_50 ml6_185 tm1_steps (ev1_steps) rfl rfl rfl rfl rfl (by omega) (Nat.le_of_ble_eq_true rfl) ?_
      refine jj_eq (st' := [.int (nI N)]) rfl rfl (by rw [← hN]; rfl) rfl ?_
      refine jj_sipush (v := 9999) dX6_step_53 (by decide) ?_
      refine jj_icmp_lt (tgt := 62) dX6_step_56 (by decide) (fun _ => ?_) (fun zz => absurd (nI_lt (a := N) (b := 9999) (by omega) (by decide)) zz)
      refine jj_aload_n dX6_step_62 rfl ?_
      refine jj_getf dX6_step_63 fl6_44 rfl rfl ?_
      refine jj_iload_n dX6_step_66 rfl ?_
      refine jj_iload_n dX6_step_67 rfl ?_
      refine jj_iload_n dX6_step_68 rfl ?_
      refine jj_callS (M2 := m0_sideTo) dX6_step_69 ml6_119 tm0_sideTo (ev0_sideTo (jb_s_lt F hF2 _ hu) hF2) rfl rfl (by omega) (Nat.le_of_ble_eq_true rfl) ?_
      rw [show jb_sd (jb_s F (jh_u D t)) F = nI (jb_bk F (jh_u D t)) from jb_bk_sd hF2 hu]
      refine jj_callV (M2 := m1_move) dX6_step_72 ml6_188 tm1_move (ev1_move (s := s) _ _) rfl rfl rfl rfl rfl (by omega) (Nat.le_of_ble_eq_true rfl) ?_
      refine jj_iload_n dX6_step_75 rfl ?_
      exact jj_leaf dX6_step_76 rfl rfl
  · rw [if_neg z, if_neg z]
    refine jj_iload_n dX6_step_0 rfl ?_
    refine jj_callS (M2 := m0_isSide) dX6_step_1 ml6_128 tm0_isSide (ev0_isSide_v ht) rfl rfl (by omega) (Nat.le_of_ble_eq_true rfl) ?_
    refine jj_if_ne (tgt := 10) dX6_step_4 (by decide) (fun _ => ?_) (fun zz => absurd zz (by decide))
    refine jj_aload_n dX6_step_10 rfl ?_
    refine jj_getf dX6_step_11 fl6_44 rfl rfl ?_
    refine jj_callV (M2 := m1_place) dX6_step_14 ml6_173 tm1_place (ev1_place) rfl rfl rfl rfl rfl (by omega) (Nat.le_of_ble_eq_true rfl) ?_
    rw [hF]
    refine jj_istore_n dX6_step_17 rfl (by decide) rfl ?_
    refine jj_aload_n dX6_step_18 rfl ?_
    refine jj_getf dX6_step_19 fl6_26 rfl rfl ?_
    refine jj_iload_n dX6_step_22 rfl ?_
    refine jj_aload_n dX6_step_23 rfl ?_
    refine jj_getf dX6_step_24 fl6_44 rfl rfl ?_
    refine jj_callV (M2 := m1_entry) dX6_step_27 ml6_176 tm1_entry (ev1_entry) rfl rfl rfl rfl rfl (by omega) (Nat.le_of_ble_eq_true rfl) ?_
    rw [hD]
    refine jj_iload_n dX6_step_30 rfl ?_
    refine jj_callS (M2 := m0_on) dX6_step_31 ml6_179 tm0_on (ev0_on hD2 ht) rfl rfl (by omega) (Nat.le_of_ble_eq_true rfl) ?_
    refine jj_callV (M2 := m5_through) dX6_step_34 ml6_182 tm5_through (ev5_through_f ho hF2 hu z) rfl rfl rfl rfl rfl (by omega) (Nat.le_of_ble_eq_true rfl) ?_
    refine jj_istore_n dX6_step_37 rfl (by decide) rfl ?_
    refine jj_iload_n dX6_step_38 rfl ?_
    refine jj_iconst (v := (-1)) dX6_step_39 (by decide) ?_
    refine jj_icmp_ne (tgt := 46) dX6_step_40 (by decide) (fun zz => absurd rfl zz) (fun _ => ?_)
    refine jj_bipush (v := (-4)) dX6_step_43 (by decide) ?_
    exact jj_leaf dX6_step_45 rfl rfl
