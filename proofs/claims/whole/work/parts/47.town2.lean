/-! THE CLASS: what is kept, what is foretold -/
theorem v01_no {x : Int32} (h : ¬ v01 x) : ¬ x = 0 ∧ ¬ x = 1 := ⟨fun e => h (by rw [e]; decide), fun e => h (by rw [e]; decide)⟩
set_option maxRecDepth 100000 in
set_option maxHeartbeats 1500000 in
theorem ev6_keptAt_0 {G : jj_G} {s : jj_S} : jj_Ev G m6_keptAt 0 [.ref 0, .int 0] (jj_m s) 0 0 (some (.ref 22)) (jj_m s) := by
  refine jj_Ev_of (lo := [some (.ref 0), some (.int 0)]) (by decide +kernel) (Nat.le_of_ble_eq_true rfl) rfl (by trivial) ?_
  refine jj_iload_n dX6_keptAt_0 rfl ?_
  refine jj_if_ne (tgt := 11) dX6_keptAt_1 (by decide) (fun zz => absurd rfl zz) (fun _ => ?_)
  refine jj_aload_n dX6_keptAt_4 rfl ?_
  refine jj_getf dX6_keptAt_5 fl6_47 rfl rfl ?_
  refine jj_goto (tgt := 15) dX6_keptAt_8 (by decide) ?_
  exact jj_leaf dX6_keptAt_15 rfl rfl
set_option maxRecDepth 100000 in
set_option maxHeartbeats 1500000 in
theorem ev6_keptAt_1 {G : jj_G} {s : jj_S} : jj_Ev G m6_keptAt 0 [.ref 0, .int 1] (jj_m s) 0 0 (some (.ref 25)) (jj_m s) := by
  refine jj_Ev_of (lo := [some (.ref 0), some (.int 1)]) (by decide +kernel) (Nat.le_of_ble_eq_true rfl) rfl (by trivial) ?_
  refine jj_iload_n dX6_keptAt_0 rfl ?_
  refine jj_if_ne (tgt := 11) dX6_keptAt_1 (by decide) (fun _ => ?_) (fun zz => absurd zz (by decide))
  refine jj_aload_n dX6_keptAt_11 rfl ?_
  refine jj_getf dX6_keptAt_12 fl6_50 rfl rfl ?_
  exact jj_leaf dX6_keptAt_15 rfl rfl
set_option maxRecDepth 100000 in
set_option maxHeartbeats 1500000 in
theorem ev6_keep_b {G : jj_G} {s : jj_S} (x : Int32) (h : ¬ v01 x) : jj_Ev G m6_keep 2 [.ref 0, .int x] (jj_m s) 0 0 (some (.int (-2))) (jj_m s) := by
  refine jj_Ev_of (lo := [some (.ref 0), some (.int x)]) (by decide +kernel) (Nat.le_of_ble_eq_true rfl) rfl (by trivial) ?_
  obtain ⟨h1, h2⟩ := v01_no h
  refine jj_iload_n dX6_keep_0 rfl ?_
  refine jj_if_eq (tgt := 12) dX6_keep_1 (by decide) (fun zz => absurd zz h1) (fun _ => ?_)
  refine jj_iload_n dX6_keep_4 rfl ?_
  refine jj_iconst (v := 1) dX6_keep_5 (by decide) ?_
  refine jj_icmp_eq (tgt := 12) dX6_keep_6 (by decide) (fun zz => absurd zz h2) (fun _ => ?_)
  refine jj_bipush (v := (-2)) dX6_keep_9 (by decide) ?_
  exact jj_leaf dX6_keep_11 rfl rfl
set_option maxRecDepth 100000 in
set_option maxHeartbeats 1500000 in
theorem ev6_back_b {G : jj_G} {s : jj_S} (x : Int32) (h : ¬ v01 x) : jj_Ev G m6_back 2 [.ref 0, .int x] (jj_m s) 0 0 (some (.int (-2))) (jj_m s) := by
  refine jj_Ev_of (lo := [some (.ref 0), some (.int x)]) (by decide +kernel) (Nat.le_of_ble_eq_true rfl) rfl (by trivial) ?_
  obtain ⟨h1, h2⟩ := v01_no h
  refine jj_iload_n dX6_back_0 rfl ?_
  refine jj_if_eq (tgt := 12) dX6_back_1 (by decide) (fun zz => absurd zz h1) (fun _ => ?_)
  refine jj_iload_n dX6_back_4 rfl ?_
  refine jj_iconst (v := 1) dX6_back_5 (by decide) ?_
  refine jj_icmp_eq (tgt := 12) dX6_back_6 (by decide) (fun zz => absurd zz h2) (fun _ => ?_)
  refine jj_bipush (v := (-2)) dX6_back_9 (by decide) ?_
  exact jj_leaf dX6_back_11 rfl rfl
set_option maxRecDepth 100000 in
set_option maxHeartbeats 1500000 in
theorem ev6_like_b {G : jj_G} {s : jj_S} (x : Int32) (h : ¬ v01 x) : jj_Ev G m6_like 4 [.ref 0, .int x] (jj_m s) 0 0 (some (.int (-2))) (jj_m s) := by
  refine jj_Ev_of (lo := [some (.ref 0), some (.int x)]) (by decide +kernel) (Nat.le_of_ble_eq_true rfl) rfl (by trivial) ?_
  obtain ⟨h1, h2⟩ := v01_no h
  refine jj_iload_n dX6_like_0 rfl ?_
  refine jj_if_eq (tgt := 12) dX6_like_1 (by decide) (fun zz => absurd zz h1) (fun _ => ?_)
  refine jj_iload_n dX6_like_4 rfl ?_
  refine jj_iconst (v := 1) dX6_like_5 (by decide) ?_
  refine jj_icmp_eq (tgt := 12) dX6_like_6 (by decide) (fun zz => absurd zz h2) (fun _ => ?_)
  refine jj_bipush (v := (-2)) dX6_like_9 (by decide) ?_
  exact jj_leaf dX6_like_11 rfl rfl
set_option maxRecDepth 100000 in
set_option maxHeartbeats 1500000 in
theorem ev6_keep_0 {G : jj_G} {s : jj_S}  : jj_Ev G m6_keep 2 [.ref 0, .int 0] (jj_m s) 0 0 (some (.int (s1_st s))) (jj_m (s2_tkS (s2_stS (s2_enS (s2_plS (s2_kdS s (jF (s1_kd s) (s2_kd s) 12)) (s1_pl s)) (s1_en s)) (s1_st s)) 1)) := by
  refine jj_Ev_of (lo := [some (.ref 0), some (.int 0)]) (by decide +kernel) (Nat.le_of_ble_eq_true rfl) rfl (by trivial) ?_
  refine jj_iload_n dX6_keep_0 rfl ?_
  refine jj_if_eq (tgt := 12) dX6_keep_1 (by decide) (fun _ => ?_) (fun zz => absurd rfl zz)
  refine jj_aload_n dX6_keep_12 rfl ?_
  refine jj_iload_n dX6_keep_13 rfl ?_
  refine jj_callV (M2 := m6_keptAt) dX6_keep_14 ml6_191 tm6_keptAt (ev6_keptAt_0) rfl rfl rfl rfl rfl (by omega) (Nat.le_of_ble_eq_true rfl) ?_
  refine jj_aload_n dX6_keep_17 rfl ?_
  refine jj_getf dX6_keep_18 fl6_44 rfl rfl ?_
  refine jj_callV (M2 := m1_take) dX6_keep_21 ml6_85 tm1_take (ev1_take_2_1) rfl rfl rfl rfl rfl (by omega) (Nat.le_of_ble_eq_true rfl) ?_
  refine jj_aload_n dX6_keep_24 rfl ?_
  refine jj_getf dX6_keep_25 fl6_44 rfl rfl ?_
  refine jj_callV (M2 := m1_steps) dX6_keep_28 ml6_185 tm1_steps (ev1_steps) rfl rfl rfl rfl rfl (by omega) (Nat.le_of_ble_eq_true rfl) ?_
  exact jj_leaf dX6_keep_31 rfl rfl
set_option maxRecDepth 100000 in
set_option maxHeartbeats 1500000 in
theorem ev6_back_0 {G : jj_G} {s : jj_S}  (htk : s2_tk s = 0 ∨ s2_tk s = 1) : jj_Ev G m6_back 2 [.ref 0, .int 0] (jj_m s) 0 0 (some (.int (if s2_tk s = 0 then -4 else s2_st s))) (jj_m (if s2_tk s = 0 then s else (s1_tkS (s1_stS (s1_enS (s1_plS (s1_kdS s (jF (s2_kd s) (s1_kd s) 12)) (s2_pl s)) (s2_en s)) (s2_st s)) 1))) := by
  refine jj_Ev_of (lo := [some (.ref 0), some (.int 0)]) (by decide +kernel) (Nat.le_of_ble_eq_true rfl) rfl (by trivial) ?_
  by_cases z : s2_tk s = 0
  · rw [if_pos z, if_pos z]
    refine jj_iload_n dX6_back_0 rfl ?_
    refine jj_if_eq (tgt := 12) dX6_back_1 (by decide) (fun _ => ?_) (fun zz => absurd rfl zz)
    refine jj_aload_n dX6_back_12 rfl ?_
    refine jj_iload_n dX6_back_13 rfl ?_
    refine jj_callV (M2 := m6_keptAt) dX6_back_14 ml6_191 tm6_keptAt (ev6_keptAt_0) rfl rfl rfl rfl rfl (by omega) (Nat.le_of_ble_eq_true rfl) ?_
    refine jj_callV (M2 := m1_isTaken) dX6_back_17 ml6_195 tm1_isTaken (ev1_isTaken_2 htk) rfl rfl rfl rfl rfl (by omega) (Nat.le_of_ble_eq_true rfl) ?_
    refine jj_if_ne (tgt := 26) dX6_back_20 (by decide) (fun zz => absurd z zz) (fun _ => ?_)
    refine jj_bipush (v := (-4)) dX6_back_23 (by decide) ?_
    exact jj_leaf dX6_back_25 rfl rfl
  · rw [if_neg z, if_neg z]
    refine jj_iload_n dX6_back_0 rfl ?_
    refine jj_if_eq (tgt := 12) dX6_back_1 (by decide) (fun _ => ?_) (fun zz => absurd rfl zz)
    refine jj_aload_n dX6_back_12 rfl ?_
    refine jj_iload_n dX6_back_13 rfl ?_
    refine jj_callV (M2 := m6_keptAt) dX6_back_14 ml6_191 tm6_keptAt (ev6_keptAt_0) rfl rfl rfl rfl rfl (by omega) (Nat.le_of_ble_eq_true rfl) ?_
    refine jj_callV (M2 := m1_isTaken) dX6_back_17 ml6_195 tm1_isTaken (ev1_isTaken_2 htk) rfl rfl rfl rfl rfl (by omega) (Nat.le_of_ble_eq_true rfl) ?_
    refine jj_if_ne (tgt := 26) dX6_back_20 (by decide) (fun _ => ?_) (fun zz => absurd zz z)
    refine jj_aload_n dX6_back_26 rfl ?_
    refine jj_getf dX6_back_27 fl6_44 rfl rfl ?_
    refine jj_aload_n dX6_back_30 rfl ?_
    refine jj_iload_n dX6_back_31 rfl ?_
    refine jj_callV (M2 := m6_keptAt) dX6_back_32 ml6_191 tm6_keptAt (ev6_keptAt_0) rfl rfl rfl rfl rfl (by omega) (Nat.le_of_ble_eq_true rfl) ?_
    refine jj_callV (M2 := m1_take) dX6_back_35 ml6_85 tm1_take (ev1_take_1_2) rfl rfl rfl rfl rfl (by omega) (Nat.le_of_ble_eq_true rfl) ?_
    refine jj_aload_n dX6_back_38 rfl ?_
    refine jj_getf dX6_back_39 fl6_44 rfl rfl ?_
    refine jj_callV (M2 := m1_steps) dX6_back_42 ml6_185 tm1_steps (ev1_steps) rfl rfl rfl rfl rfl (by omega) (Nat.le_of_ble_eq_true rfl) ?_
    exact jj_leaf dX6_back_45 rfl rfl
set_option maxRecDepth 100000 in
set_option maxHeartbeats 1500000 in
theorem ev6_like_0 {G : jj_G} {s : jj_S} {g : Nat → Nat → Nat}  (hg : j4_ok s g) (htk : s2_tk s = 0 ∨ s2_tk s = 1) : jj_Ev G m6_like 4 [.ref 0, .int 0] (jj_m s) 0 0 (some (.int (if s2_tk s = 0 then -4 else (nI (j4_cnt (fun t => jb_all (fun f => s1_kd s (g t f) == s2_kd s f) 12) 60))))) (jj_m s) := by
  refine jj_Ev_of (lo := [some (.ref 0), some (.int 0)]) (by decide +kernel) (Nat.le_of_ble_eq_true rfl) rfl (by trivial) ?_
  by_cases z : s2_tk s = 0
  · rw [if_pos z]
    refine jj_iload_n dX6_like_0 rfl ?_
    refine jj_if_eq (tgt := 12) dX6_like_1 (by decide) (fun _ => ?_) (fun zz => absurd rfl zz)
    refine jj_aload_n dX6_like_12 rfl ?_
    refine jj_iload_n dX6_like_13 rfl ?_
    refine jj_callV (M2 := m6_keptAt) dX6_like_14 ml6_191 tm6_keptAt (ev6_keptAt_0) rfl rfl rfl rfl rfl (by omega) (Nat.le_of_ble_eq_true rfl) ?_
    refine jj_callV (M2 := m1_isTaken) dX6_like_17 ml6_195 tm1_isTaken (ev1_isTaken_2 htk) rfl rfl rfl rfl rfl (by omega) (Nat.le_of_ble_eq_true rfl) ?_
    refine jj_if_ne (tgt := 26) dX6_like_20 (by decide) (fun zz => absurd z zz) (fun _ => ?_)
    refine jj_bipush (v := (-4)) dX6_like_23 (by decide) ?_
    exact jj_leaf dX6_like_25 rfl rfl
  · rw [if_neg z]
    refine jj_iload_n dX6_like_0 rfl ?_
    refine jj_if_eq (tgt := 12) dX6_like_1 (by decide) (fun _ => ?_) (fun zz => absurd rfl zz)
    refine jj_aload_n dX6_like_12 rfl ?_
    refine jj_iload_n dX6_like_13 rfl ?_
    refine jj_callV (M2 := m6_keptAt) dX6_like_14 ml6_191 tm6_keptAt (ev6_keptAt_0) rfl rfl rfl rfl rfl (by omega) (Nat.le_of_ble_eq_true rfl) ?_
    refine jj_callV (M2 := m1_isTaken) dX6_like_17 ml6_195 tm1_isTaken (ev1_isTaken_2 htk) rfl rfl rfl rfl rfl (by omega) (Nat.le_of_ble_eq_true rfl) ?_
    refine jj_if_ne (tgt := 26) dX6_like_20 (by decide) (fun _ => ?_) (fun zz => absurd zz z)
    refine jj_aload_n dX6_like_26 rfl ?_
    refine jj_getf dX6_like_27 fl6_19 rfl rfl ?_
    refine jj_aload_n dX6_like_30 rfl ?_
    refine jj_iload_n dX6_like_31 rfl ?_
    refine jj_callV (M2 := m6_keptAt) dX6_like_32 ml6_191 tm6_keptAt (ev6_keptAt_0) rfl rfl rfl rfl rfl (by omega) (Nat.le_of_ble_eq_true rfl) ?_
    refine jj_aload_n dX6_like_35 rfl ?_
    refine jj_getf dX6_like_36 fl6_44 rfl rfl ?_
    refine jj_callV (M2 := m4_bringing) dX6_like_39 ml6_199 tm4_bringing (ev4_bringing_2 hg) rfl rfl rfl rfl rfl (by omega) (Nat.le_of_ble_eq_true rfl) ?_
    exact jj_leaf dX6_like_42 rfl rfl
set_option maxRecDepth 100000 in
set_option maxHeartbeats 1500000 in
theorem ev6_keep_1 {G : jj_G} {s : jj_S}  : jj_Ev G m6_keep 2 [.ref 0, .int 1] (jj_m s) 0 0 (some (.int (s1_st s))) (jj_m (s3_tkS (s3_stS (s3_enS (s3_plS (s3_kdS s (jF (s1_kd s) (s3_kd s) 12)) (s1_pl s)) (s1_en s)) (s1_st s)) 1)) := by
  refine jj_Ev_of (lo := [some (.ref 0), some (.int 1)]) (by decide +kernel) (Nat.le_of_ble_eq_true rfl) rfl (by trivial) ?_
  refine jj_iload_n dX6_keep_0 rfl ?_
  refine jj_if_eq (tgt := 12) dX6_keep_1 (by decide) (fun zz => absurd zz (by decide)) (fun _ => ?_)
  refine jj_iload_n dX6_keep_4 rfl ?_
  refine jj_iconst (v := 1) dX6_keep_5 (by decide) ?_
  refine jj_icmp_eq (tgt := 12) dX6_keep_6 (by decide) (fun _ => ?_) (fun zz => absurd rfl zz)
  refine jj_aload_n dX6_keep_12 rfl ?_
  refine jj_iload_n dX6_keep_13 rfl ?_
  refine jj_callV (M2 := m6_keptAt) dX6_keep_14 ml6_191 tm6_keptAt (ev6_keptAt_1) rfl rfl rfl rfl rfl (by omega) (Nat.le_of_ble_eq_true rfl) ?_
  refine jj_aload_n dX6_keep_17 rfl ?_
  refine jj_getf dX6_keep_18 fl6_44 rfl rfl ?_
  refine jj_callV (M2 := m1_take) dX6_keep_21 ml6_85 tm1_take (ev1_take_3_1) rfl rfl rfl rfl rfl (by omega) (Nat.le_of_ble_eq_true rfl) ?_
  refine jj_aload_n dX6_keep_24 rfl ?_
  refine jj_getf dX6_keep_25 fl6_44 rfl rfl ?_
  refine jj_callV (M2 := m1_steps) dX6_keep_28 ml6_185 tm1_steps (ev1_steps) rfl rfl rfl rfl rfl (by omega) (Nat.le_of_ble_eq_true rfl) ?_
  exact jj_leaf dX6_keep_31 rfl rfl
set_option maxRecDepth 100000 in
set_option maxHeartbeats 1500000 in
theorem ev6_back_1 {G : jj_G} {s : jj_S}  (htk : s3_tk s = 0 ∨ s3_tk s = 1) : jj_Ev G m6_back 2 [.ref 0, .int 1] (jj_m s) 0 0 (some (.int (if s3_tk s = 0 then -4 else s3_st s))) (jj_m (if s3_tk s = 0 then s else (s1_tkS (s1_stS (s1_enS (s1_plS (s1_kdS s (jF (s3_kd s) (s1_kd s) 12)) (s3_pl s)) (s3_en s)) (s3_st s)) 1))) := by
  refine jj_Ev_of (lo := [some (.ref 0), some (.int 1)]) (by decide +kernel) (Nat.le_of_ble_eq_true rfl) rfl (by trivial) ?_
  by_cases z : s3_tk s = 0
  · rw [if_pos z, if_pos z]
    refine jj_iload_n dX6_back_0 rfl ?_
    refine jj_if_eq (tgt := 12) dX6_back_1 (by decide) (fun zz => absurd zz (by decide)) (fun _ => ?_)
    refine jj_iload_n dX6_back_4 rfl ?_
    refine jj_iconst (v := 1) dX6_back_5 (by decide) ?_
    refine jj_icmp_eq (tgt := 12) dX6_back_6 (by decide) (fun _ => ?_) (fun zz => absurd rfl zz)
    refine jj_aload_n dX6_back_12 rfl ?_
    refine jj_iload_n dX6_back_13 rfl ?_
    refine jj_callV (M2 := m6_keptAt) dX6_back_14 ml6_191 tm6_keptAt (ev6_keptAt_1) rfl rfl rfl rfl rfl (by omega) (Nat.le_of_ble_eq_true rfl) ?_
    refine jj_callV (M2 := m1_isTaken) dX6_back_17 ml6_195 tm1_isTaken (ev1_isTaken_3 htk) rfl rfl rfl rfl rfl (by omega) (Nat.le_of_ble_eq_true rfl) ?_
    refine jj_if_ne (tgt := 26) dX6_back_20 (by decide) (fun zz => absurd z zz) (fun _ => ?_)
    refine jj_bipush (v := (-4)) dX6_back_23 (by decide) ?_
    exact jj_leaf dX6_back_25 rfl rfl
  · rw [if_neg z, if_neg z]
    refine jj_iload_n dX6_back_0 rfl ?_
    refine jj_if_eq (tgt := 12) dX6_back_1 (by decide) (fun zz => absurd zz (by decide)) (fun _ => ?_)
    refine jj_iload_n dX6_back_4 rfl ?_
    refine jj_iconst (v := 1) dX6_back_5 (by decide) ?_
    refine jj_icmp_eq (tgt := 12) dX6_back_6 (by decide) (fun _ => ?_) (fun zz => absurd rfl zz)
    refine jj_aload_n dX6_back_12 rfl ?_
    refine jj_iload_n dX6_back_13 rfl ?_
    refine jj_callV (M2 := m6_keptAt) dX6_back_14 ml6_191 tm6_keptAt (ev6_keptAt_1) rfl rfl rfl rfl rfl (by omega) (Nat.le_of_ble_eq_true rfl) ?_
    refine jj_callV (M2 := m1_isTaken) dX6_back_17 ml6_195 tm1_isTaken (ev1_isTaken_3 htk) rfl rfl rfl rfl rfl (by omega) (Nat.le_of_ble_eq_true rfl) ?_
    refine jj_if_ne (tgt := 26) dX6_back_20 (by decide) (fun _ => ?_) (fun zz => absurd zz z)
    refine jj_aload_n dX6_back_26 rfl ?_
    refine jj_getf dX6_back_27 fl6_44 rfl rfl ?_
    refine jj_aload_n dX6_back_30 rfl ?_
    refine jj_iload_n dX6_back_31 rfl ?_
    refine jj_callV (M2 := m6_keptAt) dX6_back_32 ml6_191 tm6_keptAt (ev6_keptAt_1) rfl rfl rfl rfl rfl (by omega) (Nat.le_of_ble_eq_true rfl) ?_
    refine jj_callV (M2 := m1_take) dX6_back_35 ml6_85 tm1_take (ev1_take_1_3) rfl rfl rfl rfl rfl (by omega) (Nat.le_of_ble_eq_true rfl) ?_
    refine jj_aload_n dX6_back_38 rfl ?_
    refine jj_getf dX6_back_39 fl6_44 rfl rfl ?_
    refine jj_callV (M2 := m1_steps) dX6_back_42 ml6_185 tm1_steps (ev1_steps) rfl rfl rfl rfl rfl (by omega) (Nat.le_of_ble_eq_true rfl) ?_
    exact jj_leaf dX6_back_45 rfl rfl
set_option maxRecDepth 100000 in
set_option maxHeartbeats 1500000 in
theorem ev6_like_1 {G : jj_G} {s : jj_S} {g : Nat → Nat → Nat}  (hg : j4_ok s g) (htk : s3_tk s = 0 ∨ s3_tk s = 1) : jj_Ev G m6_like 4 [.ref 0, .int 1] (jj_m s) 0 0 (some (.int (if s3_tk s = 0 then -4 else (nI (j4_cnt (fun t => jb_all (fun f => s1_kd s (g t f) == s3_kd s f) 12) 60))))) (jj_m s) := by
  refine jj_Ev_of (lo := [some (.ref 0), some (.int 1)]) (by decide +kernel) (Nat.le_of_ble_eq_true rfl) rfl (by trivial) ?_
  by_cases z : s3_tk s = 0
  · rw [if_pos z]
    refine jj_iload_n dX6_like_0 rfl ?_
    refine jj_if_eq (tgt := 12) dX6_like_1 (by decide) (fun zz => absurd zz (by decide)) (fun _ => ?_)
    refine jj_iload_n dX6_like_4 rfl ?_
    refine jj_iconst (v := 1) dX6_like_5 (by decide) ?_
    refine jj_icmp_eq (tgt := 12) dX6_like_6 (by decide) (fun _ => ?_) (fun zz => absurd rfl zz)
    refine jj_aload_n dX6_like_12 rfl ?_
    refine jj_iload_n dX6_like_13 rfl ?_
    refine jj_callV (M2 := m6_keptAt) dX6_like_14 ml6_191 tm6_keptAt (ev6_keptAt_1) rfl rfl rfl rfl rfl (by omega) (Nat.le_of_ble_eq_true rfl) ?_
    refine jj_callV (M2 := m1_isTaken) dX6_like_17 ml6_195 tm1_isTaken (ev1_isTaken_3 htk) rfl rfl rfl rfl rfl (by omega) (Nat.le_of_ble_eq_true rfl) ?_
    refine jj_if_ne (tgt := 26) dX6_like_20 (by decide) (fun zz => absurd z zz) (fun _ => ?_)
    refine jj_bipush (v := (-4)) dX6_like_23 (by decide) ?_
    exact jj_leaf dX6_like_25 rfl rfl
  · rw [if_neg z]
    refine jj_iload_n dX6_like_0 rfl ?_
    refine jj_if_eq (tgt := 12) dX6_like_1 (by decide) (fun zz => absurd zz (by decide)) (fun _ => ?_)
    refine jj_iload_n dX6_like_4 rfl ?_
    refine jj_iconst (v := 1) dX6_like_5 (by decide) ?_
    refine jj_icmp_eq (tgt := 12) dX6_like_6 (by decide) (fun _ => ?_) (fun zz => absurd rfl zz)
    refine jj_aload_n dX6_like_12 rfl ?_
    refine jj_iload_n dX6_like_13 rfl ?_
    refine jj_callV (M2 := m6_keptAt) dX6_like_14 ml6_191 tm6_keptAt (ev6_keptAt_1) rfl rfl rfl rfl rfl (by omega) (Nat.le_of_ble_eq_true rfl) ?_
    refine jj_callV (M2 := m1_isTaken) dX6_like_17 ml6_195 tm1_isTaken (ev1_isTaken_3 htk) rfl rfl rfl rfl rfl (by omega) (Nat.le_of_ble_eq_true rfl) ?_
    refine jj_if_ne (tgt := 26) dX6_like_20 (by decide) (fun _ => ?_) (fun zz => absurd zz z)
    refine jj_aload_n dX6_like_26 rfl ?_
    refine jj_getf dX6_like_27 fl6_19 rfl rfl ?_
    refine jj_aload_n dX6_like_30 rfl ?_
    refine jj_iload_n dX6_like_31 rfl ?_
    refine jj_callV (M2 := m6_keptAt) dX6_like_32 ml6_191 tm6_keptAt (ev6_keptAt_1) rfl rfl rfl rfl rfl (by omega) (Nat.le_of_ble_eq_true rfl) ?_
    refine jj_aload_n dX6_like_35 rfl ?_
    refine jj_getf dX6_like_36 fl6_44 rfl rfl ?_
    refine jj_callV (M2 := m4_bringing) dX6_like_39 ml6_199 tm4_bringing (ev4_bringing_3 hg) rfl rfl rfl rfl rfl (by omega) (Nat.le_of_ble_eq_true rfl) ?_
    exact jj_leaf dX6_like_42 rfl rfl
set_option maxRecDepth 100000 in
set_option maxHeartbeats 1500000 in
theorem ev6_alike {G : jj_G} {s : jj_S} {g : Nat → Nat → Nat}  (hg : j4_ok s g) : jj_Ev G m6_alike 4 [.ref 0] (jj_m s) 0 0 (some (.int (nI (j4_cnt (fun t => jb_all (fun f => s1_kd s (g t f) == s1_kd s f) 12) 60)))) (jj_m s) := by
  refine jj_Ev_of (lo := [some (.ref 0)]) (by decide +kernel) (Nat.le_of_ble_eq_true rfl) rfl (by trivial) ?_
  refine jj_aload_n dX6_alike_0 rfl ?_
  refine jj_getf dX6_alike_1 fl6_19 rfl rfl ?_
  refine jj_aload_n dX6_alike_4 rfl ?_
  refine jj_getf dX6_alike_5 fl6_44 rfl rfl ?_
  refine jj_aload_n dX6_alike_8 rfl ?_
  refine jj_getf dX6_alike_9 fl6_44 rfl rfl ?_
  refine jj_callV (M2 := m4_bringing) dX6_alike_12 ml6_199 tm4_bringing (ev4_bringing_1 hg) rfl rfl rfl rfl rfl (by omega) (Nat.le_of_ble_eq_true rfl) ?_
  exact jj_leaf dX6_alike_15 rfl rfl
set_option maxRecDepth 100000 in
set_option maxHeartbeats 1500000 in
theorem ev6_home_b {G : jj_G} {s : jj_S} (x : Int32) (h : ¬ vS x) : jj_Ev G m6_home 3 [.ref 0, .int x] (jj_m s) 0 0 (some (.int (-3))) (jj_m s) := by
  refine jj_Ev_of (lo := [some (.ref 0), some (.int x), none, none, none, none]) (by decide +kernel) (Nat.le_of_ble_eq_true rfl) rfl (by trivial) ?_
  refine jj_iload_n dX6_home_0 rfl ?_
  refine jj_callS (M2 := m0_isSide) dX6_home_1 ml6_128 tm0_isSide (ev0_isSide_f h) rfl rfl (by omega) (Nat.le_of_ble_eq_true rfl) ?_
  refine jj_if_ne (tgt := 10) dX6_home_4 (by decide) (fun zz => absurd rfl zz) (fun _ => ?_)
  refine jj_bipush (v := (-3)) dX6_home_7 (by decide) ?_
  exact jj_leaf dX6_home_9 rfl rfl
set_option maxRecDepth 100000 in
set_option maxHeartbeats 1500000 in
theorem ev6_home {G : jj_G} {s : jj_S} {o : Nat → Nat} {wl : Nat → Nat → Bool} {F D t : Nat} (ho : j5_ok s o) (hwb : ∀ f, f < 12 → ∀ u, u < 5 → ((o f).testBit (jb_s f u) = true ↔ ¬ wl f u = true)) (hF : s1_pl s = nI F) (hF2 : F < 12) (hD : s1_en s = nI D) (hD2 : D < 5) (ht : t < 5) : jj_Ev G m6_home 3 [.ref 0, .int (nI t)] (jj_m s) 0 0 (some (.int (jh_r wl t (F, D) 60 0 (F, D)))) (jj_m s) := by
  refine jj_Ev_of (lo := [some (.ref 0), some (.int (nI t)), none, none, none, none]) (by decide +kernel) (Nat.le_of_ble_eq_true rfl) rfl (by trivial) ?_
  have M : ∀ mm n f d, n + mm = 60 → f < 12 → d < 5 → jj_Go G m6_home 3 29 [some (.ref 0), some (.int (nI t)), some (.int (nI f)), some (.int (nI d)), some (.int (nI (n + 1))), none] [] (jj_m s) 0 0 (some (.int (jh_r wl t (F, D) mm n (f, d)))) (jj_m s) := by
    intro mm
    induction mm with
    | zero =>
      intro n f d hn hf hd
      obtain rfl : n = 60 := hn
      refine jj_iload dX6_home_29 rfl ?_
      refine jj_bipush (v := 60) dX6_home_31 (by decide) ?_
      refine jj_icmp_gt (tgt := 100) dX6_home_33 (by decide) (fun _ => ?_) (fun zz => absurd (nI_lt (a := 60) (b := 61) (by decide) (by decide)) zz)
      refine jj_iconst (v := (-1)) dX6_home_100 (by decide) ?_
      exact jj_leaf dX6_home_101 rfl rfl
    | succ mm ih =>
      intro n f d hn hf hd
      have hu : jh_u d t < 5 := jh_u_lt d t
      have e0 : jh_r wl t (F, D) (mm + 1) n (f, d) = if wl f (jh_u d t) = true then -1 else if jh_n t (f, d) = (F, D) then nI (n + 1) else jh_r wl t (F, D) mm (n + 1) (jh_n t (f, d)) := rfl
      rw [e0]
      have hw := hwb f hf (jh_u d t) hu
      have b33 : ¬ nI 60 < nI (n + 1) := nI_nlt (a := 60) (b := n + 1) (by omega) (by omega)
      by_cases z : wl f (jh_u d t) = true
      · rw [if_pos z]
        have z2 : ¬ (o f).testBit (jb_s f (jh_u d t)) = true := fun q => (hw.mp q) z
        refine jj_iload dX6_home_29 rfl ?_
        refine jj_bipush (v := 60) dX6_home_31 (by decide) ?_
        refine jj_icmp_gt (tgt := 100) dX6_home_33 (by decide) (fun zz => absurd zz b33) (fun _ => ?_)
        refine jj_aload_n dX6_home_36 rfl ?_
        refine jj_getf dX6_home_37 fl6_26 rfl rfl ?_
        refine jj_iload_n dX6_home_40 rfl ?_
        refine jj_iload_n dX6_home_41 rfl ?_
        refine jj_iload_n dX6_home_42 rfl ?_
        refine jj_callS (M2 := m0_on) dX6_home_43 ml6_179 tm0_on (ev0_on hd ht) rfl rfl (by omega) (Nat.le_of_ble_eq_true rfl) ?_
        refine jj_callV (M2 := m5_through) dX6_home_46 ml6_182 tm5_through (ev5_through_f ho hf hu z2) rfl rfl rfl rfl rfl (by omega) (Nat.le_of_ble_eq_true rfl) ?_
        refine jj_istore dX6_home_49 (by decide) rfl ?_
        refine jj_iload dX6_home_51 rfl ?_
        refine jj_iconst (v := (-1)) dX6_home_53 (by decide) ?_
        refine jj_icmp_ne (tgt := 59) dX6_home_54 (by decide) (fun zz => absurd rfl zz) (fun _ => ?_)
        refine jj_iconst (v := (-1)) dX6_home_57 (by decide) ?_
        exact jj_leaf dX6_home_58 rfl rfl
      · rw [if_neg z]
        have z2 : (o f).testBit (jb_s f (jh_u d t)) = true := hw.mpr z
        have hs := jb_s_lt f hf _ hu
        have hk := jb_bk_lt f hf _ hu
        have e1 : jh_n t (f, d) = (jb_s f (jh_u d t), jb_bk f (jh_u d t)) := rfl
        rw [e1]
        have e2 : jb_sd (jb_s f (jh_u d t)) f = nI (jb_bk f (jh_u d t)) := jb_bk_sd hf hu
        have ih2 := ih (n + 1) (jb_s f (jh_u d t)) (jb_bk f (jh_u d t)) (by omega) hs hk
        by_cases y1 : jb_s f (jh_u d t) = F
        · by_cases y2 : jb_bk f (jh_u d t) = D
          · rw [if_pos (by rw [y1, y2])]
            refine jj_iload dX6_home_29 rfl ?_
            refine jj_bipush (v := 60) dX6_home_31 (by decide) ?_
            refine jj_icmp_gt (tgt := 100) dX6_home_33 (by decide) (fun zz => absurd zz b33) (fun _ => ?_)
            refine jj_aload_n dX6_home_36 rfl ?_
            refine jj_getf dX6_home_37 fl6_26 rfl rfl ?_
            refine jj_iload_n dX6_home_40 rfl ?_
            refine jj_iload_n dX6_home_41 rfl ?_
            refine jj_iload_n dX6_home_42 rfl ?_
            refine jj_callS (M2 := m0_on) dX6_home_43 ml6_179 tm0_on (ev0_on hd ht) rfl rfl (by omega) (Nat.le_of_ble_eq_true rfl) ?_
            refine jj_callV (M2 := m5_through) dX6_home_46 ml6_182 tm5_through (ev5_through_t ho hf hu z2) rfl rfl rfl rfl rfl (by omega) (Nat.le_of_ble_eq_true rfl) ?_
            refine jj_istore dX6_home_49 (by decide) rfl ?_
            refine jj_iload dX6_home_51 rfl ?_
            refine jj_iconst (v := (-1)) dX6_home_53 (by decide) ?_
            refine jj_icmp_ne (tgt := 59) dX6_home_54 (by decide) (fun _ => ?_) (fun zz => absurd zz (jb_nm1 (by omega)))
            refine jj_iload dX6_home_59 rfl ?_
            refine jj_iload_n dX6_home_61 rfl ?_
            refine jj_callS (M2 := m0_sideTo) dX6_home_62 ml6_119 tm0_sideTo (ev0_sideTo hs hf) rfl rfl (by omega) (Nat.le_of_ble_eq_true rfl) ?_
            rw [e2]
            refine jj_istore_n dX6_home_65 rfl (by decide) rfl ?_
            refine jj_iload dX6_home_66 rfl ?_
            refine jj_istore_n dX6_home_68 rfl (by decide) rfl ?_
            refine jj_iload_n dX6_home_69 rfl ?_
            refine jj_aload_n dX6_home_70 rfl ?_
            refine jj_getf dX6_home_71 fl6_44 rfl rfl ?_
            refine jj_callV (M2 := m1_place) dX6_home_74 ml6_173 tm1_place (ev1_place) rfl rfl rfl rfl rfl (by omega) (Nat.le_of_ble_eq_true rfl) ?_
            rw [hF]
            refine jj_icmp_ne (tgt := 94) dX6_home_77 (by decide) (fun zz => absurd (by rw [y1]) zz) (fun _ => ?_)
            refine jj_iload_n dX6_home_80 rfl ?_
            refine jj_aload_n dX6_home_81 rfl ?_
            refine jj_getf dX6_home_82 fl6_44 rfl rfl ?_
            refine jj_callV (M2 := m1_entry) dX6_home_85 ml6_176 tm1_entry (ev1_entry) rfl rfl rfl rfl rfl (by omega) (Nat.le_of_ble_eq_true rfl) ?_
            rw [hD]
            refine jj_icmp_ne (tgt := 94) dX6_home_88 (by decide) (fun zz => absurd (by rw [y2]) zz) (fun _ => ?_)
            refine jj_iload dX6_home_91 rfl ?_
            exact jj_leaf dX6_home_93 rfl rfl
          · rw [if_neg (fun q => y2 (congrArg Prod.snd q))]
            refine jj_iload dX6_home_29 rfl ?_
            refine jj_bipush (v := 60) dX6_home_31 (by decide) ?_
            refine jj_icmp_gt (tgt := 100) dX6_home_33 (by decide) (fun zz => absurd zz b33) (fun _ => ?_)
            refine jj_aload_n dX6_home_36 rfl ?_
            refine jj_getf dX6_home_37 fl6_26 rfl rfl ?_
            refine jj_iload_n dX6_home_40 rfl ?_
            refine jj_iload_n dX6_home_41 rfl ?_
            refine jj_iload_n dX6_home_42 rfl ?_
            refine jj_callS (M2 := m0_on) dX6_home_43 ml6_179 tm0_on (ev0_on hd ht) rfl rfl (by omega) (Nat.le_of_ble_eq_true rfl) ?_
            refine jj_callV (M2 := m5_through) dX6_home_46 ml6_182 tm5_through (ev5_through_t ho hf hu z2) rfl rfl rfl rfl rfl (by omega) (Nat.le_of_ble_eq_true rfl) ?_
            refine jj_istore dX6_home_49 (by decide) rfl ?_
            refine jj_iload dX6_home_51 rfl ?_
            refine jj_iconst (v := (-1)) dX6_home_53 (by decide) ?_
            refine jj_icmp_ne (tgt := 59) dX6_home_54 (by decide) (fun _ => ?_) (fun zz => absurd zz (jb_nm1 (by omega)))
            refine jj_iload dX6_home_59 rfl ?_
            refine jj_iload_n dX6_home_61 rfl ?_
            refine jj_callS (M2 := m0_sideTo) dX6_home_62 ml6_119 tm0_sideTo (ev0_sideTo hs hf) rfl rfl (by omega) (Nat.le_of_ble_eq_true rfl) ?_
            rw [e2]
            refine jj_istore_n dX6_home_65 rfl (by decide) rfl ?_
            refine jj_iload dX6_home_66 rfl ?_
            refine jj_istore_n dX6_home_68 rfl (by decide) rfl ?_
            refine jj_iload_n dX6_home_69 rfl ?_
            refine jj_aload_n dX6_home_70 rfl ?_
            refine jj_getf dX6_home_71 fl6_44 rfl rfl ?_
            refine jj_callV (M2 := m1_place) dX6_home_74 ml6_173 tm1_place (ev1_place) rfl rfl rfl rfl rfl (by omega) (Nat.le_of_ble_eq_true rfl) ?_
            rw [hF]
            refine jj_icmp_ne (tgt := 94) dX6_home_77 (by decide) (fun zz => absurd (by rw [y1]) zz) (fun _ => ?_)
            refine jj_iload_n dX6_home_80 rfl ?_
            refine jj_aload_n dX6_home_81 rfl ?_
            refine jj_getf dX6_home_82 fl6_44 rfl rfl ?_
            refine jj_callV (M2 := m1_entry) dX6_home_85 ml6_176 tm1_entry (ev1_entry) rfl rfl rfl rfl rfl (by omega) (Nat.le_of_ble_eq_true rfl) ?_
            rw [hD]
            refine jj_icmp_ne (tgt := 94) dX6_home_88 (by decide) (fun _ => ?_) (fun zz => absurd zz (fun q => y2 ((jb_inj (by omega) (by omega)).mp q)))
            refine jj_iinc dX6_home_94 rfl (jb_i _) (by decide) rfl ?_
            refine jj_goto (tgt := 29) dX6_home_97 (by decide) ?_
            exact jj_keep [true, true, true, true, true, false] ih2
        · rw [if_neg (fun q => y1 (congrArg Prod.fst q))]
          refine jj_iload dX6_home_29 rfl ?_
          refine jj_bipush (v := 60) dX6_home_31 (by decide) ?_
          refine jj_icmp_gt (tgt := 100) dX6_home_33 (by decide) (fun zz => absurd zz b33) (fun _ => ?_)
          refine jj_aload_n dX6_home_36 rfl ?_
          refine jj_getf dX6_home_37 fl6_26 rfl rfl ?_
          refine jj_iload_n dX6_home_40 rfl ?_
          refine jj_iload_n dX6_home_41 rfl ?_
          refine jj_iload_n dX6_home_42 rfl ?_
          refine jj_callS (M2 := m0_on) dX6_home_43 ml6_179 tm0_on (ev0_on hd ht) rfl rfl (by omega) (Nat.le_of_ble_eq_true rfl) ?_
          refine jj_callV (M2 := m5_through) dX6_home_46 ml6_182 tm5_through (ev5_through_t ho hf hu z2) rfl rfl rfl rfl rfl (by omega) (Nat.le_of_ble_eq_true rfl) ?_
          refine jj_istore dX6_home_49 (by decide) rfl ?_
          refine jj_iload dX6_home_51 rfl ?_
          refine jj_iconst (v := (-1)) dX6_home_53 (by decide) ?_
          refine jj_icmp_ne (tgt := 59) dX6_home_54 (by decide) (fun _ => ?_) (fun zz => absurd zz (jb_nm1 (by omega)))
          refine jj_iload dX6_home_59 rfl ?_
          refine jj_iload_n dX6_home_61 rfl ?_
          refine jj_callS (M2 := m0_sideTo) dX6_home_62 ml6_119 tm0_sideTo (ev0_sideTo hs hf) rfl rfl (by omega) (Nat.le_of_ble_eq_true rfl) ?_
          rw [e2]
          refine jj_istore_n dX6_home_65 rfl (by decide) rfl ?_
          refine jj_iload dX6_home_66 rfl ?_
          refine jj_istore_n dX6_home_68 rfl (by decide) rfl ?_
          refine jj_iload_n dX6_home_69 rfl ?_
          refine jj_aload_n dX6_home_70 rfl ?_
          refine jj_getf dX6_home_71 fl6_44 rfl rfl ?_
          refine jj_callV (M2 := m1_place) dX6_home_74 ml6_173 tm1_place (ev1_place) rfl rfl rfl rfl rfl (by omega) (Nat.le_of_ble_eq_true rfl) ?_
          rw [hF]
          refine jj_icmp_ne (tgt := 94) dX6_home_77 (by decide) (fun _ => ?_) (fun zz => absurd zz (fun q => y1 ((jb_inj (by omega) (by omega)).mp q)))
          refine jj_iinc dX6_home_94 rfl (jb_i _) (by decide) rfl ?_
          refine jj_goto (tgt := 29) dX6_home_97 (by decide) ?_
          exact jj_keep [true, true, true, true, true, false] ih2
  refine jj_iload_n dX6_home_0 rfl ?_
  refine jj_callS (M2 := m0_isSide) dX6_home_1 ml6_128 tm0_isSide (ev0_isSide_v ht) rfl rfl (by omega) (Nat.le_of_ble_eq_true rfl) ?_
  refine jj_if_ne (tgt := 10) dX6_home_4 (by decide) (fun _ => ?_) (fun zz => absurd zz (by decide))
  refine jj_aload_n dX6_home_10 rfl ?_
  refine jj_getf dX6_home_11 fl6_44 rfl rfl ?_
  refine jj_callV (M2 := m1_place) dX6_home_14 ml6_173 tm1_place (ev1_place) rfl rfl rfl rfl rfl (by omega) (Nat.le_of_ble_eq_true rfl) ?_
  rw [hF]
  refine jj_istore_n dX6_home_17 rfl (by decide) rfl ?_
  refine jj_aload_n dX6_home_18 rfl ?_
  refine jj_getf dX6_home_19 fl6_44 rfl rfl ?_
  refine jj_callV (M2 := m1_entry) dX6_home_22 ml6_176 tm1_entry (ev1_entry) rfl rfl rfl rfl rfl (by omega) (Nat.le_of_ble_eq_true rfl) ?_
  rw [hD]
  refine jj_istore_n dX6_home_25 rfl (by decide) rfl ?_
  refine jj_iconst (v := 1) dX6_home_26 (by decide) ?_
  refine jj_istore dX6_home_27 (by decide) rfl ?_
  exact M 60 0 F D rfl hF2 hD2
set_option maxRecDepth 100000 in
set_option maxHeartbeats 1500000 in
theorem ev6_fixed_b {G : jj_G} {s : jj_S} (x y z : Int32) (h : ¬ (vF x ∧ vS y)) : jj_Ev G m6_fixed 4 [.ref 0, .int x, .int y, .int z] (jj_m s) 0 0 (some (.long (-2))) (jj_m s) := by
  refine jj_Ev_of (lo := [some (.ref 0), some (.int x), some (.int y), some (.int z)]) (by decide +kernel) (Nat.le_of_ble_eq_true rfl) rfl (by trivial) ?_
  by_cases hx : vF x
  · have hy : ¬ vS y := fun q => h ⟨hx, q⟩
    obtain ⟨f, hf, rfl⟩ := vF_n hx
    refine jj_iload_n dX6_fixed_0 rfl ?_
    refine jj_callS (M2 := m0_isField) dX6_fixed_1 ml6_116 tm0_isField (ev0_isField_v hf) rfl rfl (by omega) (Nat.le_of_ble_eq_true rfl) ?_
    refine jj_if_eq (tgt := 14) dX6_fixed_4 (by decide) (fun zz => absurd zz (by decide)) (fun _ => ?_)
    refine jj_iload_n dX6_fixed_7 rfl ?_
    refine jj_callS (M2 := m0_isSide) dX6_fixed_8 ml6_128 tm0_isSide (ev0_isSide_f hy) rfl rfl (by omega) (Nat.le_of_ble_eq_true rfl) ?_
    refine jj_if_ne (tgt := 18) dX6_fixed_11 (by decide) (fun zz => absurd rfl zz) (fun _ => ?_)
    refine jj_ldc2 dX6_fixed_14 kc6_203 ?_
    exact jj_leaf dX6_fixed_17 rfl rfl
  · skip
    refine jj_iload_n dX6_fixed_0 rfl ?_
    refine jj_callS (M2 := m0_isField) dX6_fixed_1 ml6_116 tm0_isField (ev0_isField_f hx) rfl rfl (by omega) (Nat.le_of_ble_eq_true rfl) ?_
    refine jj_if_eq (tgt := 14) dX6_fixed_4 (by decide) (fun _ => ?_) (fun zz => absurd rfl zz)
    refine jj_ldc2 dX6_fixed_14 kc6_203 ?_
    exact jj_leaf dX6_fixed_17 rfl rfl
set_option maxRecDepth 100000 in
set_option maxHeartbeats 1500000 in
theorem ev6_fixed_c {G : jj_G} {s : jj_S} {a t : Nat} {z : Int32} (ha : a < 12) (ht : t < 5) (hz : ¬ (1 ≤ z ∧ z ≤ 8)) : jj_Ev G m6_fixed 4 [.ref 0, .int (nI a), .int (nI t), .int z] (jj_m s) 0 0 (some (.long (-3))) (jj_m s) := by
  refine jj_Ev_of (lo := [some (.ref 0), some (.int (nI a)), some (.int (nI t)), some (.int z)]) (by decide +kernel) (Nat.le_of_ble_eq_true rfl) rfl (by trivial) ?_
  rcases j6_rng hz with h1 | ⟨h1, h2⟩
  · skip
    refine jj_iload_n dX6_fixed_0 rfl ?_
    refine jj_callS (M2 := m0_isField) dX6_fixed_1 ml6_116 tm0_isField (ev0_isField_v ha) rfl rfl (by omega) (Nat.le_of_ble_eq_true rfl) ?_
    refine jj_if_eq (tgt := 14) dX6_fixed_4 (by decide) (fun zz => absurd zz (by decide)) (fun _ => ?_)
    refine jj_iload_n dX6_fixed_7 rfl ?_
    refine jj_callS (M2 := m0_isSide) dX6_fixed_8 ml6_128 tm0_isSide (ev0_isSide_v ht) rfl rfl (by omega) (Nat.le_of_ble_eq_true rfl) ?_
    refine jj_if_ne (tgt := 18) dX6_fixed_11 (by decide) (fun _ => ?_) (fun zz => absurd zz (by decide))
    refine jj_iload_n dX6_fixed_18 rfl ?_
    refine jj_iconst (v := 1) dX6_fixed_19 (by decide) ?_
    refine jj_icmp_lt (tgt := 29) dX6_fixed_20 (by decide) (fun _ => ?_) (fun zz => absurd h1 zz)
    refine jj_ldc2 dX6_fixed_29 kc6_205 ?_
    exact jj_leaf dX6_fixed_32 rfl rfl
  · skip
    refine jj_iload_n dX6_fixed_0 rfl ?_
    refine jj_callS (M2 := m0_isField) dX6_fixed_1 ml6_116 tm0_isField (ev0_isField_v ha) rfl rfl (by omega) (Nat.le_of_ble_eq_true rfl) ?_
    refine jj_if_eq (tgt := 14) dX6_fixed_4 (by decide) (fun zz => absurd zz (by decide)) (fun _ => ?_)
    refine jj_iload_n dX6_fixed_7 rfl ?_
    refine jj_callS (M2 := m0_isSide) dX6_fixed_8 ml6_128 tm0_isSide (ev0_isSide_v ht) rfl rfl (by omega) (Nat.le_of_ble_eq_true rfl) ?_
    refine jj_if_ne (tgt := 18) dX6_fixed_11 (by decide) (fun _ => ?_) (fun zz => absurd zz (by decide))
    refine jj_iload_n dX6_fixed_18 rfl ?_
    refine jj_iconst (v := 1) dX6_fixed_19 (by decide) ?_
    refine jj_icmp_lt (tgt := 29) dX6_fixed_20 (by decide) (fun zz => absurd zz h1) (fun _ => ?_)
    refine jj_iload_n dX6_fixed_23 rfl ?_
    refine jj_bipush (v := 8) dX6_fixed_24 (by decide) ?_
    refine jj_icmp_le (tgt := 33) dX6_fixed_26 (by decide) (fun zz => absurd zz h2) (fun _ => ?_)
    refine jj_ldc2 dX6_fixed_29 kc6_205 ?_
    exact jj_leaf dX6_fixed_32 rfl rfl
set_option maxRecDepth 100000 in
set_option maxHeartbeats 1500000 in
theorem ev6_fixed {G : jj_G} {s : jj_S} {g : Nat → Nat → Nat} {a t : Nat} {z : Int32} (hg : j4_ok s g) (ha : a < 12) (ht : t < 5) (hz : 1 ≤ z ∧ z ≤ 8) : jj_Ev G m6_fixed 4 [.ref 0, .int (nI a), .int (nI t), .int z] (jj_m s) 0 0 (some (.long (j4_fx (g (5 * a + t)) z.toInt64 12).1)) (jj_m s) := by
  refine jj_Ev_of (lo := [some (.ref 0), some (.int (nI a)), some (.int (nI t)), some (.int z)]) (by decide +kernel) (Nat.le_of_ble_eq_true rfl) rfl (by trivial) ?_
  have r1 : ¬ z < 1 := Int32.not_lt.mpr hz.1
  have h60 : a * 5 + t < 60 := by omega
  rw [show 5 * a + t = a * 5 + t by omega]
  refine jj_iload_n dX6_fixed_0 rfl ?_
  refine jj_callS (M2 := m0_isField) dX6_fixed_1 ml6_116 tm0_isField (ev0_isField_v ha) rfl rfl (by omega) (Nat.le_of_ble_eq_true rfl) ?_
  refine jj_if_eq (tgt := 14) dX6_fixed_4 (by decide) (fun zz => absurd zz (by decide)) (fun _ => ?_)
  refine jj_iload_n dX6_fixed_7 rfl ?_
  refine jj_callS (M2 := m0_isSide) dX6_fixed_8 ml6_128 tm0_isSide (ev0_isSide_v ht) rfl rfl (by omega) (Nat.le_of_ble_eq_true rfl) ?_
  refine jj_if_ne (tgt := 18) dX6_fixed_11 (by decide) (fun _ => ?_) (fun zz => absurd zz (by decide))
  refine jj_iload_n dX6_fixed_18 rfl ?_
  refine jj_iconst (v := 1) dX6_fixed_19 (by decide) ?_
  refine jj_icmp_lt (tgt := 29) dX6_fixed_20 (by decide) (fun zz => absurd zz r1) (fun _ => ?_)
  refine jj_iload_n dX6_fixed_23 rfl ?_
  refine jj_bipush (v := 8) dX6_fixed_24 (by decide) ?_
  refine jj_icmp_le (tgt := 33) dX6_fixed_26 (by decide) (fun _ => ?_) (fun zz => absurd hz.2 zz)
  refine jj_aload_n dX6_fixed_33 rfl ?_
  refine jj_getf dX6_fixed_34 fl6_19 rfl rfl ?_
  refine jj_iload_n dX6_fixed_37 rfl ?_
  refine jj_iload_n dX6_fixed_38 rfl ?_
  refine jj_callS (M2 := m4_number) dX6_fixed_39 ml6_131 tm4_number (ev4_number) rfl rfl (by omega) (Nat.le_of_ble_eq_true rfl) ?_
  refine jj_iload_n dX6_fixed_42 rfl ?_
  refine jj_callV (M2 := m4_fixedWays) dX6_fixed_43 ml6_207 tm4_fixedWays (ev4_fixedWays z hg h60) rfl rfl rfl rfl rfl (by omega) (Nat.le_of_ble_eq_true rfl) ?_
  exact jj_leaf dX6_fixed_46 rfl rfl
set_option maxRecDepth 100000 in
set_option maxHeartbeats 1500000 in
theorem ev6_unlike_c {G : jj_G} {s : jj_S} {z : Int32} (hz : ¬ (1 ≤ z ∧ z ≤ 8)) : jj_Ev G m6_unlike 5 [.ref 0, .int z] (jj_m s) 0 0 (some (.long (-3))) (jj_m s) := by
  refine jj_Ev_of (lo := [some (.ref 0), some (.int z)]) (by decide +kernel) (Nat.le_of_ble_eq_true rfl) rfl (by trivial) ?_
  rcases j6_rng hz with h1 | ⟨h1, h2⟩
  · skip
    refine jj_iload_n dX6_unlike_0 rfl ?_
    refine jj_iconst (v := 1) dX6_unlike_1 (by decide) ?_
    refine jj_icmp_lt (tgt := 11) dX6_unlike_2 (by decide) (fun _ => ?_) (fun zz => absurd h1 zz)
    refine jj_ldc2 dX6_unlike_11 kc6_205 ?_
    exact jj_leaf dX6_unlike_14 rfl rfl
  · skip
    refine jj_iload_n dX6_unlike_0 rfl ?_
    refine jj_iconst (v := 1) dX6_unlike_1 (by decide) ?_
    refine jj_icmp_lt (tgt := 11) dX6_unlike_2 (by decide) (fun zz => absurd zz h1) (fun _ => ?_)
    refine jj_iload_n dX6_unlike_5 rfl ?_
    refine jj_bipush (v := 8) dX6_unlike_6 (by decide) ?_
    refine jj_icmp_le (tgt := 15) dX6_unlike_8 (by decide) (fun zz => absurd zz h2) (fun _ => ?_)
    refine jj_ldc2 dX6_unlike_11 kc6_205 ?_
    exact jj_leaf dX6_unlike_14 rfl rfl
set_option maxRecDepth 100000 in
set_option maxHeartbeats 1500000 in
theorem ev6_unlike {G : jj_G} {s : jj_S} {g : Nat → Nat → Nat} {z : Int32} (hg : j4_ok s g) (hz : 1 ≤ z ∧ z ≤ 8) : jj_Ev G m6_unlike 5 [.ref 0, .int z] (jj_m s) 0 0 (some (.long (j4_un g z.toInt64 60 / 60))) (jj_m s) := by
  refine jj_Ev_of (lo := [some (.ref 0), some (.int z)]) (by decide +kernel) (Nat.le_of_ble_eq_true rfl) rfl (by trivial) ?_
  have r1 : ¬ z < 1 := Int32.not_lt.mpr hz.1
  refine jj_iload_n dX6_unlike_0 rfl ?_
  refine jj_iconst (v := 1) dX6_unlike_1 (by decide) ?_
  refine jj_icmp_lt (tgt := 11) dX6_unlike_2 (by decide) (fun zz => absurd zz r1) (fun _ => ?_)
  refine jj_iload_n dX6_unlike_5 rfl ?_
  refine jj_bipush (v := 8) dX6_unlike_6 (by decide) ?_
  refine jj_icmp_le (tgt := 15) dX6_unlike_8 (by decide) (fun _ => ?_) (fun zz => absurd hz.2 zz)
  refine jj_aload_n dX6_unlike_15 rfl ?_
  refine jj_getf dX6_unlike_16 fl6_19 rfl rfl ?_
  refine jj_iload_n dX6_unlike_19 rfl ?_
  refine jj_callV (M2 := m4_unlikeWays) dX6_unlike_20 ml6_211 tm4_unlikeWays (ev4_unlikeWays z hg) rfl rfl rfl rfl rfl (by omega) (Nat.le_of_ble_eq_true rfl) ?_
  exact jj_leaf dX6_unlike_23 rfl rfl
set_option maxRecDepth 100000 in
set_option maxHeartbeats 1500000 in
theorem ev6_wardens_0 {G : jj_G} {s : jj_S} {o : Nat → Nat} {w : Int32 × Int32 × Nat} (ho : j5_ok s o) (hW : j5_wd o 4096 = w) : jj_Ev G m6_wardens 3 [.ref 0, .int 0] (jj_m s) 0 0 (some (.int (wa_wc (j5_fw s w)))) (jj_m (j5_fw s w)) := by
  refine jj_Ev_of (lo := [some (.ref 0), some (.int 0)]) (by decide +kernel) (Nat.le_of_ble_eq_true rfl) rfl (by trivial) ?_
  have hc := ev5_wardenCount (G := G) ho hW
  generalize j5_fw s w = s2 at hc ⊢
  refine jj_iload_n dX6_wardens_0 rfl ?_
  refine jj_swIn (tgt := 28) (off := 27) dX6_wardens_1 (by decide) (by decide) (by decide) (by decide) ?_
  refine jj_aload_n dX6_wardens_28 rfl ?_
  refine jj_getf dX6_wardens_29 fl6_26 rfl rfl ?_
  refine jj_callV (M2 := m5_wardenCount) dX6_wardens_32 ml6_215 tm5_wardenCount (hc) rfl rfl rfl rfl rfl (by omega) (Nat.le_of_ble_eq_true rfl) ?_
  exact jj_leaf dX6_wardens_35 rfl rfl
set_option maxRecDepth 100000 in
set_option maxHeartbeats 1500000 in
theorem ev6_wardens_1 {G : jj_G} {s : jj_S} {o : Nat → Nat} {w : Int32 × Int32 × Nat} (ho : j5_ok s o) (hW : j5_wd o 4096 = w) : jj_Ev G m6_wardens 3 [.ref 0, .int 1] (jj_m s) 0 0 (some (.int (wa_ws (j5_fw s w)))) (jj_m (j5_fw s w)) := by
  refine jj_Ev_of (lo := [some (.ref 0), some (.int 1)]) (by decide +kernel) (Nat.le_of_ble_eq_true rfl) rfl (by trivial) ?_
  have hc := ev5_wardenSet (G := G) ho hW
  generalize j5_fw s w = s2 at hc ⊢
  refine jj_iload_n dX6_wardens_0 rfl ?_
  refine jj_swIn (tgt := 36) (off := 35) dX6_wardens_1 (by decide) (by decide) (by decide) (by decide) ?_
  refine jj_aload_n dX6_wardens_36 rfl ?_
  refine jj_getf dX6_wardens_37 fl6_26 rfl rfl ?_
  refine jj_callV (M2 := m5_wardenSet) dX6_wardens_40 ml6_218 tm5_wardenSet (hc) rfl rfl rfl rfl rfl (by omega) (Nat.le_of_ble_eq_true rfl) ?_
  exact jj_leaf dX6_wardens_43 rfl rfl
set_option maxRecDepth 100000 in
set_option maxHeartbeats 1500000 in
theorem ev6_wardens_2 {G : jj_G} {s : jj_S} {o : Nat → Nat} {w : Int32 × Int32 × Nat} (ho : j5_ok s o) (hW : j5_wd o 4096 = w) : jj_Ev G m6_wardens 3 [.ref 0, .int 2] (jj_m s) 0 0 (some (.int (wa_wn (j5_fw s w)))) (jj_m (j5_fw s w)) := by
  refine jj_Ev_of (lo := [some (.ref 0), some (.int 2)]) (by decide +kernel) (Nat.le_of_ble_eq_true rfl) rfl (by trivial) ?_
  have hc := ev5_wardenSets (G := G) ho hW
  generalize j5_fw s w = s2 at hc ⊢
  refine jj_iload_n dX6_wardens_0 rfl ?_
  refine jj_swIn (tgt := 44) (off := 43) dX6_wardens_1 (by decide) (by decide) (by decide) (by decide) ?_
  refine jj_aload_n dX6_wardens_44 rfl ?_
  refine jj_getf dX6_wardens_45 fl6_26 rfl rfl ?_
  refine jj_callV (M2 := m5_wardenSets) dX6_wardens_48 ml6_221 tm5_wardenSets (hc) rfl rfl rfl rfl rfl (by omega) (Nat.le_of_ble_eq_true rfl) ?_
  exact jj_leaf dX6_wardens_51 rfl rfl
set_option maxRecDepth 100000 in
set_option maxHeartbeats 1500000 in
theorem ev6_wardens_d {G : jj_G} {s : jj_S} {x : Int32} (hx : x.toInt < 0 ∨ 2 < x.toInt) : jj_Ev G m6_wardens 3 [.ref 0, .int x] (jj_m s) 0 0 (some (.int (-3))) (jj_m s) := by
  refine jj_Ev_of (lo := [some (.ref 0), some (.int x)]) (by decide +kernel) (Nat.le_of_ble_eq_true rfl) rfl (by trivial) ?_
  refine jj_iload_n dX6_wardens_0 rfl ?_
  refine jj_swOut (tgt := 52) dX6_wardens_1 hx (by decide) ?_
  refine jj_bipush (v := (-3)) dX6_wardens_52 (by decide) ?_
  exact jj_leaf dX6_wardens_54 rfl rfl
set_option maxRecDepth 100000 in
set_option maxHeartbeats 1500000 in
theorem ev6_inside_b {G : jj_G} {s : jj_S} (x : Int32) (h : ¬ vF x) : jj_Ev G m6_inside 4 [.ref 0, .int x] (jj_m s) 0 0 (some (.int (-2))) (jj_m s) := by
  refine jj_Ev_of (lo := [some (.ref 0), some (.int x)]) (by decide +kernel) (Nat.le_of_ble_eq_true rfl) rfl (by trivial) ?_
  refine jj_iload_n dX6_inside_0 rfl ?_
  refine jj_callS (M2 := m0_isField) dX6_inside_1 ml6_116 tm0_isField (ev0_isField_f h) rfl rfl (by omega) (Nat.le_of_ble_eq_true rfl) ?_
  refine jj_if_ne (tgt := 10) dX6_inside_4 (by decide) (fun zz => absurd rfl zz) (fun _ => ?_)
  refine jj_bipush (v := (-2)) dX6_inside_7 (by decide) ?_
  exact jj_leaf dX6_inside_9 rfl rfl
set_option maxRecDepth 100000 in
set_option maxHeartbeats 1500000 in
theorem ev6_inside {G : jj_G} {s : jj_S} {o : Nat → Nat} {f : Nat} (ho : j5_ok s o) (hf : f < 12) : jj_Ev G m6_inside 4 [.ref 0, .int (nI f)] (jj_m s) 0 0 (some (.int (nI (j5_in o f 11)))) (jj_m s) := by
  refine jj_Ev_of (lo := [some (.ref 0), some (.int (nI f))]) (by decide +kernel) (Nat.le_of_ble_eq_true rfl) rfl (by trivial) ?_
  refine jj_iload_n dX6_inside_0 rfl ?_
  refine jj_callS (M2 := m0_isField) dX6_inside_1 ml6_116 tm0_isField (ev0_isField_v hf) rfl rfl (by omega) (Nat.le_of_ble_eq_true rfl) ?_
  refine jj_if_ne (tgt := 10) dX6_inside_4 (by decide) (fun _ => ?_) (fun zz => absurd zz (by decide))
  refine jj_aload_n dX6_inside_10 rfl ?_
  refine jj_getf dX6_inside_11 fl6_26 rfl rfl ?_
  refine jj_iload_n dX6_inside_14 rfl ?_
  refine jj_callV (M2 := m5_insideOf) dX6_inside_15 ml6_224 tm5_insideOf (ev5_insideOf ho hf) rfl rfl rfl rfl rfl (by omega) (Nat.le_of_ble_eq_true rfl) ?_
  exact jj_leaf dX6_inside_18 rfl rfl
set_option maxRecDepth 100000 in
set_option maxHeartbeats 1500000 in
theorem ev6_rounds_b {G : jj_G} {s : jj_S} (x : Int32) (h1 : ¬ x = -1) (h : ¬ vF x) : jj_Ev G m6_rounds 17 [.ref 0, .int x] (jj_m s) 0 0 (some (.int (-3))) (jj_m s) := by
  refine jj_Ev_of (lo := [some (.ref 0), some (.int x)]) (by decide +kernel) (Nat.le_of_ble_eq_true rfl) rfl (by trivial) ?_
  refine jj_iload_n dX6_rounds_0 rfl ?_
  refine jj_iconst (v := (-1)) dX6_rounds_1 (by decide) ?_
  refine jj_icmp_ne (tgt := 13) dX6_rounds_2 (by decide) (fun _ => ?_) (fun zz => absurd zz h1)
  refine jj_iload_n dX6_rounds_13 rfl ?_
  refine jj_callS (M2 := m0_isField) dX6_rounds_14 ml6_116 tm0_isField (ev0_isField_f h) rfl rfl (by omega) (Nat.le_of_ble_eq_true rfl) ?_
  refine jj_if_ne (tgt := 23) dX6_rounds_17 (by decide) (fun zz => absurd rfl zz) (fun _ => ?_)
  refine jj_bipush (v := (-3)) dX6_rounds_20 (by decide) ?_
  exact jj_leaf dX6_rounds_22 rfl rfl
set_option maxRecDepth 100000 in
set_option maxHeartbeats 1500000 in
theorem ev6_rounds_n {G : jj_G} {s : jj_S} {o : Nat → Nat} {r0 : Nat → Nat} {T : j5_T}  (ho : j5_ok s o) (hr : wa_rw s = fun j => nI (r0 j)) (hT : j5_fs o 11 (jU r0 0 0, wa_fr s, 0) = T) : jj_Ev G m6_rounds 17 [.ref 0, .int (-1)] (jj_m s) 0 0 (some (.int (wa_rc (j5_fr s T)))) (jj_m (j5_fr s T)) := by
  refine jj_Ev_of (lo := [some (.ref 0), some (.int (-1))]) (by decide +kernel) (Nat.le_of_ble_eq_true rfl) rfl (by trivial) ?_
  have hc := ev5_roundCount (G := G) ho hr hT
  generalize j5_fr s T = s2 at hc ⊢
  refine jj_iload_n dX6_rounds_0 rfl ?_
  refine jj_iconst (v := (-1)) dX6_rounds_1 (by decide) ?_
  refine jj_icmp_ne (tgt := 13) dX6_rounds_2 (by decide) (fun zz => absurd rfl zz) (fun _ => ?_)
  refine jj_aload_n dX6_rounds_5 rfl ?_
  refine jj_getf dX6_rounds_6 fl6_26 rfl rfl ?_
  refine jj_callV (M2 := m5_roundCount) dX6_rounds_9 ml6_227 tm5_roundCount (hc) rfl rfl rfl rfl rfl (by omega) (Nat.le_of_ble_eq_true rfl) ?_
  exact jj_leaf dX6_rounds_12 rfl rfl
set_option maxRecDepth 100000 in
set_option maxHeartbeats 1500000 in
theorem ev6_rounds {G : jj_G} {s : jj_S} {o : Nat → Nat} {r0 : Nat → Nat} {T : j5_T} {i : Nat} (ho : j5_ok s o) (hr : wa_rw s = fun j => nI (r0 j)) (hT : j5_fs o 11 (jU r0 0 0, wa_fr s, 0) = T) (hi : i < 12) : jj_Ev G m6_rounds 17 [.ref 0, .int (nI i)] (jj_m s) 0 0 (some (.int (if wa_rc (j5_fr s T) ≤ 0 then -1 else wa_fr (j5_fr s T) i))) (jj_m (j5_fr s T)) := by
  refine jj_Ev_of (lo := [some (.ref 0), some (.int (nI i))]) (by decide +kernel) (Nat.le_of_ble_eq_true rfl) rfl (by trivial) ?_
  have hc := ev5_inFirstRound (G := G) ho hr hT hi
  generalize j5_fr s T = s2 at hc ⊢
  refine jj_iload_n dX6_rounds_0 rfl ?_
  refine jj_iconst (v := (-1)) dX6_rounds_1 (by decide) ?_
  refine jj_icmp_ne (tgt := 13) dX6_rounds_2 (by decide) (fun _ => ?_) (fun zz => absurd zz (j7_im1 i hi))
  refine jj_iload_n dX6_rounds_13 rfl ?_
  refine jj_callS (M2 := m0_isField) dX6_rounds_14 ml6_116 tm0_isField (ev0_isField_v hi) rfl rfl (by omega) (Nat.le_of_ble_eq_true rfl) ?_
  refine jj_if_ne (tgt := 23) dX6_rounds_17 (by decide) (fun _ => ?_) (fun zz => absurd zz (by decide))
  refine jj_aload_n dX6_rounds_23 rfl ?_
  refine jj_getf dX6_rounds_24 fl6_26 rfl rfl ?_
  refine jj_iload_n dX6_rounds_27 rfl ?_
  refine jj_callV (M2 := m5_inFirstRound) dX6_rounds_28 ml6_230 tm5_inFirstRound (hc) rfl rfl rfl rfl rfl (by omega) (Nat.le_of_ble_eq_true rfl) ?_
  exact jj_leaf dX6_rounds_31 rfl rfl
set_option maxRecDepth 100000 in
set_option maxHeartbeats 1500000 in
theorem ev6_walks_b {G : jj_G} {s : jj_S} (x y z : Int32) (h : ¬ (vF x ∧ vF y)) : jj_Ev G m6_walks 4 [.ref 0, .int x, .int y, .int z] (jj_m s) 0 0 (some (.long (-2))) (jj_m s) := by
  refine jj_Ev_of (lo := [some (.ref 0), some (.int x), some (.int y), some (.int z)]) (by decide +kernel) (Nat.le_of_ble_eq_true rfl) rfl (by trivial) ?_
  by_cases hx : vF x
  · have hy : ¬ vF y := fun q => h ⟨hx, q⟩
    obtain ⟨f, hf, rfl⟩ := vF_n hx
    refine jj_iload_n dX6_walks_0 rfl ?_
    refine jj_callS (M2 := m0_isField) dX6_walks_1 ml6_116 tm0_isField (ev0_isField_v hf) rfl rfl (by omega) (Nat.le_of_ble_eq_true rfl) ?_
    refine jj_if_eq (tgt := 14) dX6_walks_4 (by decide) (fun zz => absurd zz (by decide)) (fun _ => ?_)
    refine jj_iload_n dX6_walks_7 rfl ?_
    refine jj_callS (M2 := m0_isField) dX6_walks_8 ml6_116 tm0_isField (ev0_isField_f hy) rfl rfl (by omega) (Nat.le_of_ble_eq_true rfl) ?_
    refine jj_if_ne (tgt := 18) dX6_walks_11 (by decide) (fun zz => absurd rfl zz) (fun _ => ?_)
    refine jj_ldc2 dX6_walks_14 kc6_203 ?_
    exact jj_leaf dX6_walks_17 rfl rfl
  · skip
    refine jj_iload_n dX6_walks_0 rfl ?_
    refine jj_callS (M2 := m0_isField) dX6_walks_1 ml6_116 tm0_isField (ev0_isField_f hx) rfl rfl (by omega) (Nat.le_of_ble_eq_true rfl) ?_
    refine jj_if_eq (tgt := 14) dX6_walks_4 (by decide) (fun _ => ?_) (fun zz => absurd rfl zz)
    refine jj_ldc2 dX6_walks_14 kc6_203 ?_
    exact jj_leaf dX6_walks_17 rfl rfl
set_option maxRecDepth 100000 in
set_option maxHeartbeats 1500000 in
theorem ev6_walks_c {G : jj_G} {s : jj_S} {x y : Nat} {z : Int32} (hx : x < 12) (hy : y < 12) (hz : ¬ (0 ≤ z ∧ z ≤ 20)) : jj_Ev G m6_walks 4 [.ref 0, .int (nI x), .int (nI y), .int z] (jj_m s) 0 0 (some (.long (-3))) (jj_m s) := by
  refine jj_Ev_of (lo := [some (.ref 0), some (.int (nI x)), some (.int (nI y)), some (.int z)]) (by decide +kernel) (Nat.le_of_ble_eq_true rfl) rfl (by trivial) ?_
  by_cases h1 : z < 0
  · skip
    refine jj_iload_n dX6_walks_0 rfl ?_
    refine jj_callS (M2 := m0_isField) dX6_walks_1 ml6_116 tm0_isField (ev0_isField_v hx) rfl rfl (by omega) (Nat.le_of_ble_eq_true rfl) ?_
    refine jj_if_eq (tgt := 14) dX6_walks_4 (by decide) (fun zz => absurd zz (by decide)) (fun _ => ?_)
    refine jj_iload_n dX6_walks_7 rfl ?_
    refine jj_callS (M2 := m0_isField) dX6_walks_8 ml6_116 tm0_isField (ev0_isField_v hy) rfl rfl (by omega) (Nat.le_of_ble_eq_true rfl) ?_
    refine jj_if_ne (tgt := 18) dX6_walks_11 (by decide) (fun _ => ?_) (fun zz => absurd zz (by decide))
    refine jj_iload_n dX6_walks_18 rfl ?_
    refine jj_if_lt (tgt := 28) dX6_walks_19 (by decide) (fun _ => ?_) (fun zz => absurd h1 zz)
    refine jj_ldc2 dX6_walks_28 kc6_205 ?_
    exact jj_leaf dX6_walks_31 rfl rfl
  · have h2 : ¬ z ≤ 20 := fun q => hz ⟨Int32.not_lt.mp h1, q⟩
    refine jj_iload_n dX6_walks_0 rfl ?_
    refine jj_callS (M2 := m0_isField) dX6_walks_1 ml6_116 tm0_isField (ev0_isField_v hx) rfl rfl (by omega) (Nat.le_of_ble_eq_true rfl) ?_
    refine jj_if_eq (tgt := 14) dX6_walks_4 (by decide) (fun zz => absurd zz (by decide)) (fun _ => ?_)
    refine jj_iload_n dX6_walks_7 rfl ?_
    refine jj_callS (M2 := m0_isField) dX6_walks_8 ml6_116 tm0_isField (ev0_isField_v hy) rfl rfl (by omega) (Nat.le_of_ble_eq_true rfl) ?_
    refine jj_if_ne (tgt := 18) dX6_walks_11 (by decide) (fun _ => ?_) (fun zz => absurd zz (by decide))
    refine jj_iload_n dX6_walks_18 rfl ?_
    refine jj_if_lt (tgt := 28) dX6_walks_19 (by decide) (fun zz => absurd zz h1) (fun _ => ?_)
    refine jj_iload_n dX6_walks_22 rfl ?_
    refine jj_bipush (v := 20) dX6_walks_23 (by decide) ?_
    refine jj_icmp_le (tgt := 32) dX6_walks_25 (by decide) (fun zz => absurd zz h2) (fun _ => ?_)
    refine jj_ldc2 dX6_walks_28 kc6_205 ?_
    exact jj_leaf dX6_walks_31 rfl rfl
set_option maxRecDepth 100000 in
set_option maxHeartbeats 1500000 in
theorem ev6_walks {G : jj_G} {s : jj_S} {o : Nat → Nat} {x y n : Nat} (ho : j5_ok s o) (hx : x < 12) (hy : y < 12) (hn : n < 21) : jj_Ev G m6_walks 4 [.ref 0, .int (nI x), .int (nI y), .int (nI n)] (jj_m s) 0 0 (some (.long ((j2_wk o (fun _ v => v) (j2_so x (sh_he s, sh_th s) 12) n).1 y))) (jj_m (j2_S s (j2_wk o (fun _ v => v) (j2_so x (sh_he s, sh_th s) 12) n))) := by
  refine jj_Ev_of (lo := [some (.ref 0), some (.int (nI x)), some (.int (nI y)), some (.int (nI n))]) (by decide +kernel) (Nat.le_of_ble_eq_true rfl) rfl (by trivial) ?_
  obtain ⟨r1, r2⟩ := j7_r20 n hn
  have hc := ev2_walkCount (G := G) (n := n) ho hx hy (by omega)
  generalize j2_wk o (fun _ v => v) (j2_so x (sh_he s, sh_th s) 12) n = E at hc ⊢
  refine jj_iload_n dX6_walks_0 rfl ?_
  refine jj_callS (M2 := m0_isField) dX6_walks_1 ml6_116 tm0_isField (ev0_isField_v hx) rfl rfl (by omega) (Nat.le_of_ble_eq_true rfl) ?_
  refine jj_if_eq (tgt := 14) dX6_walks_4 (by decide) (fun zz => absurd zz (by decide)) (fun _ => ?_)
  refine jj_iload_n dX6_walks_7 rfl ?_
  refine jj_callS (M2 := m0_isField) dX6_walks_8 ml6_116 tm0_isField (ev0_isField_v hy) rfl rfl (by omega) (Nat.le_of_ble_eq_true rfl) ?_
  refine jj_if_ne (tgt := 18) dX6_walks_11 (by decide) (fun _ => ?_) (fun zz => absurd zz (by decide))
  refine jj_iload_n dX6_walks_18 rfl ?_
  refine jj_if_lt (tgt := 28) dX6_walks_19 (by decide) (fun zz => absurd zz (Int32.not_lt.mpr r1)) (fun _ => ?_)
  refine jj_iload_n dX6_walks_22 rfl ?_
  refine jj_bipush (v := 20) dX6_walks_23 (by decide) ?_
  refine jj_icmp_le (tgt := 32) dX6_walks_25 (by decide) (fun _ => ?_) (fun zz => absurd r2 zz)
  refine jj_aload_n dX6_walks_32 rfl ?_
  refine jj_getf dX6_walks_33 fl6_33 rfl rfl ?_
  refine jj_aload_n dX6_walks_36 rfl ?_
  refine jj_getf dX6_walks_37 fl6_26 rfl rfl ?_
  refine jj_iload_n dX6_walks_40 rfl ?_
  refine jj_iload_n dX6_walks_41 rfl ?_
  refine jj_iload_n dX6_walks_42 rfl ?_
  refine jj_callV (M2 := m2_walkCount) dX6_walks_43 ml6_233 tm2_walkCount (hc) rfl rfl rfl rfl rfl (by omega) (Nat.le_of_ble_eq_true rfl) ?_
  exact jj_leaf dX6_walks_46 rfl rfl
set_option maxRecDepth 100000 in
set_option maxHeartbeats 1500000 in
theorem ev6_odds_b {G : jj_G} {s : jj_S} (x y z q : Int32) (h : ¬ (vF x ∧ vF y)) : jj_Ev G m6_odds 4 [.ref 0, .int x, .int y, .int z, .int q] (jj_m s) 0 0 (some (.long (-2))) (jj_m s) := by
  refine jj_Ev_of (lo := [some (.ref 0), some (.int x), some (.int y), some (.int z), some (.int q)]) (by decide +kernel) (Nat.le_of_ble_eq_true rfl) rfl (by trivial) ?_
  by_cases hx : vF x
  · have hy : ¬ vF y := fun q => h ⟨hx, q⟩
    obtain ⟨f, hf, rfl⟩ := vF_n hx
    refine jj_iload_n dX6_odds_0 rfl ?_
    refine jj_callS (M2 := m0_isField) dX6_odds_1 ml6_116 tm0_isField (ev0_isField_v hf) rfl rfl (by omega) (Nat.le_of_ble_eq_true rfl) ?_
    refine jj_if_eq (tgt := 14) dX6_odds_4 (by decide) (fun zz => absurd zz (by decide)) (fun _ => ?_)
    refine jj_iload_n dX6_odds_7 rfl ?_
    refine jj_callS (M2 := m0_isField) dX6_odds_8 ml6_116 tm0_isField (ev0_isField_f hy) rfl rfl (by omega) (Nat.le_of_ble_eq_true rfl) ?_
    refine jj_if_ne (tgt := 18) dX6_odds_11 (by decide) (fun zz => absurd rfl zz) (fun _ => ?_)
    refine jj_ldc2 dX6_odds_14 kc6_203 ?_
    exact jj_leaf dX6_odds_17 rfl rfl
  · skip
    refine jj_iload_n dX6_odds_0 rfl ?_
    refine jj_callS (M2 := m0_isField) dX6_odds_1 ml6_116 tm0_isField (ev0_isField_f hx) rfl rfl (by omega) (Nat.le_of_ble_eq_true rfl) ?_
    refine jj_if_eq (tgt := 14) dX6_odds_4 (by decide) (fun _ => ?_) (fun zz => absurd rfl zz)
    refine jj_ldc2 dX6_odds_14 kc6_203 ?_
    exact jj_leaf dX6_odds_17 rfl rfl
set_option maxRecDepth 100000 in
set_option maxHeartbeats 1500000 in
theorem ev6_odds_c {G : jj_G} {s : jj_S} {x y : Nat} {z q : Int32} (hx : x < 12) (hy : y < 12) (h : ¬ ((0 ≤ z ∧ z ≤ 8) ∧ v01 q)) : jj_Ev G m6_odds 4 [.ref 0, .int (nI x), .int (nI y), .int z, .int q] (jj_m s) 0 0 (some (.long (-3))) (jj_m s) := by
  refine jj_Ev_of (lo := [some (.ref 0), some (.int (nI x)), some (.int (nI y)), some (.int z), some (.int q)]) (by decide +kernel) (Nat.le_of_ble_eq_true rfl) rfl (by trivial) ?_
  by_cases h1 : z < 0
  · skip
    refine jj_iload_n dX6_odds_0 rfl ?_
    refine jj_callS (M2 := m0_isField) dX6_odds_1 ml6_116 tm0_isField (ev0_isField_v hx) rfl rfl (by omega) (Nat.le_of_ble_eq_true rfl) ?_
    refine jj_if_eq (tgt := 14) dX6_odds_4 (by decide) (fun zz => absurd zz (by decide)) (fun _ => ?_)
    refine jj_iload_n dX6_odds_7 rfl ?_
    refine jj_callS (M2 := m0_isField) dX6_odds_8 ml6_116 tm0_isField (ev0_isField_v hy) rfl rfl (by omega) (Nat.le_of_ble_eq_true rfl) ?_
    refine jj_if_ne (tgt := 18) dX6_odds_11 (by decide) (fun _ => ?_) (fun zz => absurd zz (by decide))
    refine jj_iload_n dX6_odds_18 rfl ?_
    refine jj_if_lt (tgt := 39) dX6_odds_19 (by decide) (fun _ => ?_) (fun zz => absurd h1 zz)
    refine jj_ldc2 dX6_odds_39 kc6_205 ?_
    exact jj_leaf dX6_odds_42 rfl rfl
  · by_cases h2 : z ≤ 8
    · have hq : ¬ v01 q := fun y => h ⟨⟨Int32.not_lt.mp h1, h2⟩, y⟩
      by_cases h3 : q < 0
      · skip
        refine jj_iload_n dX6_odds_0 rfl ?_
        refine jj_callS (M2 := m0_isField) dX6_odds_1 ml6_116 tm0_isField (ev0_isField_v hx) rfl rfl (by omega) (Nat.le_of_ble_eq_true rfl) ?_
        refine jj_if_eq (tgt := 14) dX6_odds_4 (by decide) (fun zz => absurd zz (by decide)) (fun _ => ?_)
        refine jj_iload_n dX6_odds_7 rfl ?_
        refine jj_callS (M2 := m0_isField) dX6_odds_8 ml6_116 tm0_isField (ev0_isField_v hy) rfl rfl (by omega) (Nat.le_of_ble_eq_true rfl) ?_
        refine jj_if_ne (tgt := 18) dX6_odds_11 (by decide) (fun _ => ?_) (fun zz => absurd zz (by decide))
        refine jj_iload_n dX6_odds_18 rfl ?_
        refine jj_if_lt (tgt := 39) dX6_odds_19 (by decide) (fun zz => absurd zz h1) (fun _ => ?_)
        refine jj_iload_n dX6_odds_22 rfl ?_
        refine jj_bipush (v := 8) dX6_odds_23 (by decide) ?_
        refine jj_icmp_gt (tgt := 39) dX6_odds_25 (by decide) (fun zz => absurd zz (Int32.not_lt.mpr h2)) (fun _ => ?_)
        refine jj_iload dX6_odds_28 rfl ?_
        refine jj_if_lt (tgt := 39) dX6_odds_30 (by decide) (fun _ => ?_) (fun zz => absurd h3 zz)
        refine jj_ldc2 dX6_odds_39 kc6_205 ?_
        exact jj_leaf dX6_odds_42 rfl rfl
      · have h4 : ¬ q ≤ 1 := fun y => hq ⟨Int32.not_lt.mp h3, y⟩
        refine jj_iload_n dX6_odds_0 rfl ?_
        refine jj_callS (M2 := m0_isField) dX6_odds_1 ml6_116 tm0_isField (ev0_isField_v hx) rfl rfl (by omega) (Nat.le_of_ble_eq_true rfl) ?_
        refine jj_if_eq (tgt := 14) dX6_odds_4 (by decide) (fun zz => absurd zz (by decide)) (fun _ => ?_)
        refine jj_iload_n dX6_odds_7 rfl ?_
        refine jj_callS (M2 := m0_isField) dX6_odds_8 ml6_116 tm0_isField (ev0_isField_v hy) rfl rfl (by omega) (Nat.le_of_ble_eq_true rfl) ?_
        refine jj_if_ne (tgt := 18) dX6_odds_11 (by decide) (fun _ => ?_) (fun zz => absurd zz (by decide))
        refine jj_iload_n dX6_odds_18 rfl ?_
        refine jj_if_lt (tgt := 39) dX6_odds_19 (by decide) (fun zz => absurd zz h1) (fun _ => ?_)
        refine jj_iload_n dX6_odds_22 rfl ?_
        refine jj_bipush (v := 8) dX6_odds_23 (by decide) ?_
        refine jj_icmp_gt (tgt := 39) dX6_odds_25 (by decide) (fun zz => absurd zz (Int32.not_lt.mpr h2)) (fun _ => ?_)
        refine jj_iload dX6_odds_28 rfl ?_
        refine jj_if_lt (tgt := 39) dX6_odds_30 (by decide) (fun zz => absurd zz h3) (fun _ => ?_)
        refine jj_iload dX6_odds_33 rfl ?_
        refine jj_iconst (v := 1) dX6_odds_35 (by decide) ?_
        refine jj_icmp_le (tgt := 43) dX6_odds_36 (by decide) (fun zz => absurd zz h4) (fun _ => ?_)
        refine jj_ldc2 dX6_odds_39 kc6_205 ?_
        exact jj_leaf dX6_odds_42 rfl rfl
    · skip
      refine jj_iload_n dX6_odds_0 rfl ?_
      refine jj_callS (M2 := m0_isField) dX6_odds_1 ml6_116 tm0_isField (ev0_isField_v hx) rfl rfl (by omega) (Nat.le_of_ble_eq_true rfl) ?_
      refine jj_if_eq (tgt := 14) dX6_odds_4 (by decide) (fun zz => absurd zz (by decide)) (fun _ => ?_)
      refine jj_iload_n dX6_odds_7 rfl ?_
      refine jj_callS (M2 := m0_isField) dX6_odds_8 ml6_116 tm0_isField (ev0_isField_v hy) rfl rfl (by omega) (Nat.le_of_ble_eq_true rfl) ?_
      refine jj_if_ne (tgt := 18) dX6_odds_11 (by decide) (fun _ => ?_) (fun zz => absurd zz (by decide))
      refine jj_iload_n dX6_odds_18 rfl ?_
      refine jj_if_lt (tgt := 39) dX6_odds_19 (by decide) (fun zz => absurd zz h1) (fun _ => ?_)
      refine jj_iload_n dX6_odds_22 rfl ?_
      refine jj_bipush (v := 8) dX6_odds_23 (by decide) ?_
      refine jj_icmp_gt (tgt := 39) dX6_odds_25 (by decide) (fun _ => ?_) (fun zz => absurd (Int32.not_le.mp h2) zz)
      refine jj_ldc2 dX6_odds_39 kc6_205 ?_
      exact jj_leaf dX6_odds_42 rfl rfl
/-- the class's shares, all sixtieths -/
def j6_wk (o : Nat → Nat) (s : jj_S) (x n : Nat) : j2_P := j2_wk (j2_gl o) (j7_sv1 o) (j2_so x (sh_he s, sh_th s) 12) n
set_option maxRecDepth 100000 in
set_option maxHeartbeats 1500000 in
theorem ev6_odds {G : jj_G} {s : jj_S} {o : Nat → Nat} {x y n : Nat} {q : Int32} (ho : j5_ok s o) (hx : x < 12) (hy : y < 12) (hn : n < 9) (hq : v01 q) : jj_Ev G m6_odds 4 [.ref 0, .int (nI x), .int (nI y), .int (nI n), .int q] (jj_m s) 0 0 (some (.long (j2_od (j2_gcd 200 ((j6_wk o s x n).1 y) (j2_bl n)) ((j6_wk o s x n).1 y) (j2_bl n) q))) (jj_m (j2_S s (j6_wk o s x n))) := by
  refine jj_Ev_of (lo := [some (.ref 0), some (.int (nI x)), some (.int (nI y)), some (.int (nI n)), some (.int q)]) (by decide +kernel) (Nat.le_of_ble_eq_true rfl) rfl (by trivial) ?_
  obtain ⟨r1, r2⟩ := j7_r8 n hn
  have hc := ev2_oddsPart (G := G) (n := n) q ho hx hy (by omega)
  change jj_Ev G m2_oddsPart _ _ _ 0 0 (some (.long (j2_od (j2_gcd 200 ((j6_wk o s x n).1 y) (j2_bl n)) ((j6_wk o s x n).1 y) (j2_bl n) q))) (jj_m (j2_S s (j6_wk o s x n))) at hc
  generalize j6_wk o s x n = E at hc ⊢
  generalize j2_od (j2_gcd 200 (E.1 y) (j2_bl n)) (E.1 y) (j2_bl n) q = V at hc ⊢
  refine jj_iload_n dX6_odds_0 rfl ?_
  refine jj_callS (M2 := m0_isField) dX6_odds_1 ml6_116 tm0_isField (ev0_isField_v hx) rfl rfl (by omega) (Nat.le_of_ble_eq_true rfl) ?_
  refine jj_if_eq (tgt := 14) dX6_odds_4 (by decide) (fun zz => absurd zz (by decide)) (fun _ => ?_)
  refine jj_iload_n dX6_odds_7 rfl ?_
  refine jj_callS (M2 := m0_isField) dX6_odds_8 ml6_116 tm0_isField (ev0_isField_v hy) rfl rfl (by omega) (Nat.le_of_ble_eq_true rfl) ?_
  refine jj_if_ne (tgt := 18) dX6_odds_11 (by decide) (fun _ => ?_) (fun zz => absurd zz (by decide))
  refine jj_iload_n dX6_odds_18 rfl ?_
  refine jj_if_lt (tgt := 39) dX6_odds_19 (by decide) (fun zz => absurd zz (Int32.not_lt.mpr r1)) (fun _ => ?_)
  refine jj_iload_n dX6_odds_22 rfl ?_
  refine jj_bipush (v := 8) dX6_odds_23 (by decide) ?_
  refine jj_icmp_gt (tgt := 39) dX6_odds_25 (by decide) (fun zz => absurd zz (Int32.not_lt.mpr r2)) (fun _ => ?_)
  refine jj_iload dX6_odds_28 rfl ?_
  refine jj_if_lt (tgt := 39) dX6_odds_30 (by decide) (fun zz => absurd zz (Int32.not_lt.mpr hq.1)) (fun _ => ?_)
  refine jj_iload dX6_odds_33 rfl ?_
  refine jj_iconst (v := 1) dX6_odds_35 (by decide) ?_
  refine jj_icmp_le (tgt := 43) dX6_odds_36 (by decide) (fun _ => ?_) (fun zz => absurd hq.2 zz)
  refine jj_aload_n dX6_odds_43 rfl ?_
  refine jj_getf dX6_odds_44 fl6_33 rfl rfl ?_
  refine jj_aload_n dX6_odds_47 rfl ?_
  refine jj_getf dX6_odds_48 fl6_26 rfl rfl ?_
  refine jj_iload_n dX6_odds_51 rfl ?_
  refine jj_iload_n dX6_odds_52 rfl ?_
  refine jj_iload_n dX6_odds_53 rfl ?_
  refine jj_iload dX6_odds_54 rfl ?_
  refine jj_callV (M2 := m2_oddsPart) dX6_odds_56 ml6_237 tm2_oddsPart (hc) rfl rfl rfl rfl rfl (by omega) (Nat.le_of_ble_eq_true rfl) ?_
  exact jj_leaf dX6_odds_59 rfl rfl
set_option maxRecDepth 100000 in
set_option maxHeartbeats 1500000 in
theorem ev6_count_k {G : jj_G} {s : jj_S} {c : Nat} (hc : c < 4) : jj_Ev G m6_count 5 [.ref 0, .int (nI c)] (jj_m s) 0 0 (some (.int (nI (j7_kc (s1_kd s) (nI c) 12)))) (jj_m s) := by
  refine jj_Ev_of (lo := [some (.ref 0), some (.int (nI c))]) (by decide +kernel) (Nat.le_of_ble_eq_true rfl) rfl (by trivial) ?_
  have e1 : jb_pc (j1_all (s1_kd s) (nI c) 12) = j7_kc (s1_kd s) (nI c) 12 := j1_kc_e _ _ 12 (Nat.le_refl 12)
  rw [← e1]
  have hl := j1_all_lt (s1_kd s) (nI c) 12 (Nat.le_refl 12)
  rcases (show c = 0 ∨ c = 1 ∨ c = 2 ∨ c = 3 by omega) with q | q | q | q
  · subst q
    refine jj_iload_n dX6_count_0 rfl ?_
    refine jj_swIn (tgt := 48) (off := 47) dX6_count_1 (by decide) (by decide) (by decide) (by decide) ?_
    refine jj_aload_n dX6_count_48 rfl ?_
    refine jj_getf dX6_count_49 fl6_44 rfl rfl ?_
    refine jj_iload_n dX6_count_52 rfl ?_
    refine jj_callV (M2 := m1_allOfKind) dX6_count_53 ml6_161 tm1_allOfKind (ev1_allOfKind (nI 0)) rfl rfl rfl rfl rfl (by omega) (Nat.le_of_ble_eq_true rfl) ?_
    refine jj_callS (M2 := mJ6_bitCount) dX6_count_56 ml6_164 tmJ6_bitCount (evJ6_bitCount hl) rfl rfl (by omega) (Nat.le_of_ble_eq_true rfl) ?_
    exact jj_leaf dX6_count_59 rfl rfl
  · subst q
    refine jj_iload_n dX6_count_0 rfl ?_
    refine jj_swIn (tgt := 48) (off := 47) dX6_count_1 (by decide) (by decide) (by decide) (by decide) ?_
    refine jj_aload_n dX6_count_48 rfl ?_
    refine jj_getf dX6_count_49 fl6_44 rfl rfl ?_
    refine jj_iload_n dX6_count_52 rfl ?_
    refine jj_callV (M2 := m1_allOfKind) dX6_count_53 ml6_161 tm1_allOfKind (ev1_allOfKind (nI 1)) rfl rfl rfl rfl rfl (by omega) (Nat.le_of_ble_eq_true rfl) ?_
    refine jj_callS (M2 := mJ6_bitCount) dX6_count_56 ml6_164 tmJ6_bitCount (evJ6_bitCount hl) rfl rfl (by omega) (Nat.le_of_ble_eq_true rfl) ?_
    exact jj_leaf dX6_count_59 rfl rfl
  · subst q
    refine jj_iload_n dX6_count_0 rfl ?_
    refine jj_swIn (tgt := 48) (off := 47) dX6_count_1 (by decide) (by decide) (by decide) (by decide) ?_
    refine jj_aload_n dX6_count_48 rfl ?_
    refine jj_getf dX6_count_49 fl6_44 rfl rfl ?_
    refine jj_iload_n dX6_count_52 rfl ?_
    refine jj_callV (M2 := m1_allOfKind) dX6_count_53 ml6_161 tm1_allOfKind (ev1_allOfKind (nI 2)) rfl rfl rfl rfl rfl (by omega) (Nat.le_of_ble_eq_true rfl) ?_
    refine jj_callS (M2 := mJ6_bitCount) dX6_count_56 ml6_164 tmJ6_bitCount (evJ6_bitCount hl) rfl rfl (by omega) (Nat.le_of_ble_eq_true rfl) ?_
    exact jj_leaf dX6_count_59 rfl rfl
  · subst q
    refine jj_iload_n dX6_count_0 rfl ?_
    refine jj_swIn (tgt := 48) (off := 47) dX6_count_1 (by decide) (by decide) (by decide) (by decide) ?_
    refine jj_aload_n dX6_count_48 rfl ?_
    refine jj_getf dX6_count_49 fl6_44 rfl rfl ?_
    refine jj_iload_n dX6_count_52 rfl ?_
    refine jj_callV (M2 := m1_allOfKind) dX6_count_53 ml6_161 tm1_allOfKind (ev1_allOfKind (nI 3)) rfl rfl rfl rfl rfl (by omega) (Nat.le_of_ble_eq_true rfl) ?_
    refine jj_callS (M2 := mJ6_bitCount) dX6_count_56 ml6_164 tmJ6_bitCount (evJ6_bitCount hl) rfl rfl (by omega) (Nat.le_of_ble_eq_true rfl) ?_
    exact jj_leaf dX6_count_59 rfl rfl
set_option maxRecDepth 100000 in
set_option maxHeartbeats 1500000 in
theorem ev6_count_4 {G : jj_G} {s : jj_S} {o : Nat → Nat}  (ho : j5_ok s o) : jj_Ev G m6_count 5 [.ref 0, .int 4] (jj_m s) 0 0 (some (.int (nI (j5_wl o 12 / 2)))) (jj_m s) := by
  refine jj_Ev_of (lo := [some (.ref 0), some (.int 4)]) (by decide +kernel) (Nat.le_of_ble_eq_true rfl) rfl (by trivial) ?_
  refine jj_iload_n dX6_count_0 rfl ?_
  refine jj_swIn (tgt := 60) (off := 59) dX6_count_1 (by decide) (by decide) (by decide) (by decide) ?_
  refine jj_aload_n dX6_count_60 rfl ?_
  refine jj_getf dX6_count_61 fl6_26 rfl rfl ?_
  refine jj_callV (M2 := m5_wallCount) dX6_count_64 ml6_241 tm5_wallCount (ev5_wallCount ho) rfl rfl rfl rfl rfl (by omega) (Nat.le_of_ble_eq_true rfl) ?_
  exact jj_leaf dX6_count_67 rfl rfl
set_option maxRecDepth 100000 in
set_option maxHeartbeats 1500000 in
theorem ev6_count_5 {G : jj_G} {s : jj_S} {o : Nat → Nat} {kn : Nat → Nat} (ho : j5_ok s o) (hkn : ∀ f, f < 12 → s1_kd s f = nI (kn f) ∧ kn f < 4) : jj_Ev G m6_count 5 [.ref 0, .int 5] (jj_m s) 0 0 (some (.int (j7_ts (j6_tF s o kn) 12))) (jj_m s) := by
  refine jj_Ev_of (lo := [some (.ref 0), some (.int 5)]) (by decide +kernel) (Nat.le_of_ble_eq_true rfl) rfl (by trivial) ?_
  refine jj_iload_n dX6_count_0 rfl ?_
  refine jj_swIn (tgt := 68) (off := 67) dX6_count_1 (by decide) (by decide) (by decide) (by decide) ?_
  refine jj_aload_n dX6_count_68 rfl ?_
  refine jj_callV (M2 := m6_taxOfAll) dX6_count_69 ml6_244 tm6_taxOfAll (ev6_taxOfAll ho hkn) rfl rfl rfl rfl rfl (by omega) (Nat.le_of_ble_eq_true rfl) ?_
  exact jj_leaf dX6_count_72 rfl rfl
set_option maxRecDepth 100000 in
set_option maxHeartbeats 1500000 in
theorem ev6_count_6 {G : jj_G} {s : jj_S} {o : Nat → Nat}  (ho : j5_ok s o) : jj_Ev G m6_count 5 [.ref 0, .int 6] (jj_m s) 0 0 (some (.int (nI (j5_ic o 12).2))) (jj_m s) := by
  refine jj_Ev_of (lo := [some (.ref 0), some (.int 6)]) (by decide +kernel) (Nat.le_of_ble_eq_true rfl) rfl (by trivial) ?_
  refine jj_iload_n dX6_count_0 rfl ?_
  refine jj_swIn (tgt := 73) (off := 72) dX6_count_1 (by decide) (by decide) (by decide) (by decide) ?_
  refine jj_aload_n dX6_count_73 rfl ?_
  refine jj_getf dX6_count_74 fl6_26 rfl rfl ?_
  refine jj_callV (M2 := m5_insideCount) dX6_count_77 ml6_247 tm5_insideCount (ev5_insideCount ho) rfl rfl rfl rfl rfl (by omega) (Nat.le_of_ble_eq_true rfl) ?_
  exact jj_leaf dX6_count_80 rfl rfl
set_option maxRecDepth 100000 in
set_option maxHeartbeats 1500000 in
theorem ev6_count_7 {G : jj_G} {s : jj_S}  : jj_Ev G m6_count 5 [.ref 0, .int 7] (jj_m s) 0 0 (some (.int (tx_len s))) (jj_m s) := by
  refine jj_Ev_of (lo := [some (.ref 0), some (.int 7)]) (by decide +kernel) (Nat.le_of_ble_eq_true rfl) rfl (by trivial) ?_
  refine jj_iload_n dX6_count_0 rfl ?_
  refine jj_swIn (tgt := 81) (off := 80) dX6_count_1 (by decide) (by decide) (by decide) (by decide) ?_
  refine jj_aload_n dX6_count_81 rfl ?_
  refine jj_getf dX6_count_82 fl6_12 rfl rfl ?_
  refine jj_callV (M2 := m3_length) dX6_count_85 ml6_250 tm3_length (ev3_length) rfl rfl rfl rfl rfl (by omega) (Nat.le_of_ble_eq_true rfl) ?_
  exact jj_leaf dX6_count_88 rfl rfl
set_option maxRecDepth 100000 in
set_option maxHeartbeats 1500000 in
theorem ev6_count_b {G : jj_G} {s : jj_S} {x : Int32} (hx : x.toInt < 0 ∨ 7 < x.toInt) : jj_Ev G m6_count 5 [.ref 0, .int x] (jj_m s) 0 0 (some (.int (-3))) (jj_m s) := by
  refine jj_Ev_of (lo := [some (.ref 0), some (.int x)]) (by decide +kernel) (Nat.le_of_ble_eq_true rfl) rfl (by trivial) ?_
  refine jj_iload_n dX6_count_0 rfl ?_
  refine jj_swOut (tgt := 89) dX6_count_1 hx (by decide) ?_
  refine jj_bipush (v := (-3)) dX6_count_89 (by decide) ?_
  exact jj_leaf dX6_count_91 rfl rfl
