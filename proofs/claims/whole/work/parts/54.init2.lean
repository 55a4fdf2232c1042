/-! CONSTRUCTORS: the town, the model -/
set_option maxRecDepth 100000 in
set_option maxHeartbeats 4000000 in
theorem ev6_init {G : jj_G}  : jj_Ev G m6_init 5 [.ref 0] ([.inl (5, [.null, .null, .null, .null, .null, .null, .null, .null])]) 27 1169 (none) ([.inl (5, [.ref 1, .ref 6, .ref 9, .ref 13, .ref 16, .ref 19, .ref 22, .ref 25]), .inl (2, [.ref 2, .int 0, .int 0, .int 0, .ref 3, .ref 4, .ref 5, .int 0]), .inr (.inl (jv 200 jz0)), .inr (.inl (jv 12 jz0)), .inr (.inl (jv 12 jz0)), .inr (.inl (jv 12 jz0)), .inl (3, [.ref 7, .ref 8]), .inr (.inl (jv 720 (lgG 60))), .inr (.inl (jv 12 (lgA 60))), .inl (4, [.ref 10, .ref 11, .ref 12, .int 0, .int 0, .int 0, .int 0, .int 0, .int 0]), .inr (.inl (jv 12 (jF (fun f => nI (jb_al f)) jz0 12))), .inr (.inl (jv 12 jz0)), .inr (.inl (jv 12 jz0)), .inl (1, [.ref 14, .ref 15]), .inr (.inr (.inr (jv 12 jzl))), .inr (.inr (.inr (jv 12 jzl))), .inl (0, [.ref 17, .ref 18, .int 0, .int 0, .int 0, .int 0]), .inr (.inl (jv 12 jz0)), .inr (.inl (jv 12 jz0)), .inl (0, [.ref 20, .ref 21, .int 0, .int 0, .int 0, .int 0]), .inr (.inl (jv 12 jz0)), .inr (.inl (jv 12 jz0)), .inl (0, [.ref 23, .ref 24, .int 0, .int 0, .int 0, .int 0]), .inr (.inl (jv 12 jz0)), .inr (.inl (jv 12 jz0)), .inl (0, [.ref 26, .ref 27, .int 0, .int 0, .int 0, .int 0]), .inr (.inl (jv 12 jz0)), .inr (.inl (jv 12 jz0))]) := by
  refine jj_Ev_of (lo := [some (.ref 0)]) (by decide +kernel) (Nat.le_of_ble_eq_true rfl) rfl (by trivial) ?_
  refine jj_aload_n dX6_init_0 rfl ?_
  refine jj_obj dX6_init_1 ml6_3 jj_ob1 jj_ob2 (by decide) (Nat.le_of_ble_eq_true rfl) ?_
  refine jj_aload_n dX6_init_4 rfl ?_
  refine jj_new (N := 8) dX6_init_5 nw6_9 rfl (Nat.le_of_ble_eq_true rfl) ?_
  refine jj_eq (hh := [.inl (5, [.null, .null, .null, .null, .null, .null, .null, .null]), .inl (2, [.null, .int 0, .int 0, .int 0, .null, .null, .null, .int 0])]) rfl rfl rfl rfl ?_
  refine jj_dup dX6_init_8 rfl ?_
  refine jj_callNa (kc2 := 4) (ks2 := 236) (kc := 22) (ks := 925) (M2 := m3_init) (host := RX6) dX6_init_9 (List.mem_of_getElem? (i := 0) rfl) tm3_init (ev3_init) rfl rfl (by decide) (Nat.le_of_ble_eq_true rfl) ?_
  refine jj_putf dX6_init_12 fw6_12 rfl (Nat.le_of_ble_eq_true rfl) rfl rfl rfl ?_
  refine jj_eq (hh := [.inl (5, [.ref 1, .null, .null, .null, .null, .null, .null, .null]), .inl (2, [.ref 2, .int 0, .int 0, .int 0, .ref 3, .ref 4, .ref 5, .int 0]), .inr (.inl (jv 200 jz0)), .inr (.inl (jv 12 jz0)), .inr (.inl (jv 12 jz0)), .inr (.inl (jv 12 jz0))]) rfl rfl rfl rfl ?_
  refine jj_aload_n dX6_init_15 rfl ?_
  refine jj_new (N := 2) dX6_init_16 nw6_16 rfl (Nat.le_of_ble_eq_true rfl) ?_
  refine jj_eq (hh := [.inl (5, [.ref 1, .null, .null, .null, .null, .null, .null, .null]), .inl (2, [.ref 2, .int 0, .int 0, .int 0, .ref 3, .ref 4, .ref 5, .int 0]), .inr (.inl (jv 200 jz0)), .inr (.inl (jv 12 jz0)), .inr (.inl (jv 12 jz0)), .inr (.inl (jv 12 jz0)), .inl (3, [.null, .null])]) rfl rfl rfl rfl ?_
  refine jj_dup dX6_init_19 rfl ?_
  refine jj_callIa (kc2 := 2) (ks2 := 732) (kc := 19) (ks := 191) (M2 := m4_init) dX6_init_20 ml6_18 tm4_init (ev4_init) rfl rfl (by decide) (Nat.le_of_ble_eq_true rfl) ?_
  refine jj_putf dX6_init_23 fw6_19 rfl (Nat.le_of_ble_eq_true rfl) rfl rfl rfl ?_
  refine jj_eq (hh := [.inl (5, [.ref 1, .ref 6, .null, .null, .null, .null, .null, .null]), .inl (2, [.ref 2, .int 0, .int 0, .int 0, .ref 3, .ref 4, .ref 5, .int 0]), .inr (.inl (jv 200 jz0)), .inr (.inl (jv 12 jz0)), .inr (.inl (jv 12 jz0)), .inr (.inl (jv 12 jz0)), .inl (3, [.ref 7, .ref 8]), .inr (.inl (jv 720 (lgG 60))), .inr (.inl (jv 12 (lgA 60)))]) rfl rfl rfl rfl ?_
  refine jj_aload_n dX6_init_26 rfl ?_
  refine jj_new (N := 9) dX6_init_27 nw6_23 rfl (Nat.le_of_ble_eq_true rfl) ?_
  refine jj_eq (hh := [.inl (5, [.ref 1, .ref 6, .null, .null, .null, .null, .null, .null]), .inl (2, [.ref 2, .int 0, .int 0, .int 0, .ref 3, .ref 4, .ref 5, .int 0]), .inr (.inl (jv 200 jz0)), .inr (.inl (jv 12 jz0)), .inr (.inl (jv 12 jz0)), .inr (.inl (jv 12 jz0)), .inl (3, [.ref 7, .ref 8]), .inr (.inl (jv 720 (lgG 60))), .inr (.inl (jv 12 (lgA 60))), .inl (4, [.null, .null, .null, .int 0, .int 0, .int 0, .int 0, .int 0, .int 0])]) rfl rfl rfl rfl ?_
  refine jj_dup dX6_init_30 rfl ?_
  refine jj_callIa (kc2 := 3) (ks2 := 36) (kc := 15) (ks := 146) (M2 := m5_init) dX6_init_31 ml6_25 tm5_init (ev5_init) rfl rfl (by decide) (Nat.le_of_ble_eq_true rfl) ?_
  refine jj_putf dX6_init_34 fw6_26 rfl (Nat.le_of_ble_eq_true rfl) rfl rfl rfl ?_
  refine jj_eq (hh := [.inl (5, [.ref 1, .ref 6, .ref 9, .null, .null, .null, .null, .null]), .inl (2, [.ref 2, .int 0, .int 0, .int 0, .ref 3, .ref 4, .ref 5, .int 0]), .inr (.inl (jv 200 jz0)), .inr (.inl (jv 12 jz0)), .inr (.inl (jv 12 jz0)), .inr (.inl (jv 12 jz0)), .inl (3, [.ref 7, .ref 8]), .inr (.inl (jv 720 (lgG 60))), .inr (.inl (jv 12 (lgA 60))), .inl (4, [.ref 10, .ref 11, .ref 12, .int 0, .int 0, .int 0, .int 0, .int 0, .int 0]), .inr (.inl (jv 12 (jF (fun f => nI (jb_al f)) jz0 12))), .inr (.inl (jv 12 jz0)), .inr (.inl (jv 12 jz0))]) rfl rfl rfl rfl ?_
  refine jj_aload_n dX6_init_37 rfl ?_
  refine jj_new (N := 2) dX6_init_38 nw6_30 rfl (Nat.le_of_ble_eq_true rfl) ?_
  refine jj_eq (hh := [.inl (5, [.ref 1, .ref 6, .ref 9, .null, .null, .null, .null, .null]), .inl (2, [.ref 2, .int 0, .int 0, .int 0, .ref 3, .ref 4, .ref 5, .int 0]), .inr (.inl (jv 200 jz0)), .inr (.inl (jv 12 jz0)), .inr (.inl (jv 12 jz0)), .inr (.inl (jv 12 jz0)), .inl (3, [.ref 7, .ref 8]), .inr (.inl (jv 720 (lgG 60))), .inr (.inl (jv 12 (lgA 60))), .inl (4, [.ref 10, .ref 11, .ref 12, .int 0, .int 0, .int 0, .int 0, .int 0, .int 0]), .inr (.inl (jv 12 (jF (fun f => nI (jb_al f)) jz0 12))), .inr (.inl (jv 12 jz0)), .inr (.inl (jv 12 jz0)), .inl (1, [.null, .null])]) rfl rfl rfl rfl ?_
  refine jj_dup dX6_init_41 rfl ?_
  refine jj_callNa (kc2 := 2) (ks2 := 24) (kc := 12) (ks := 120) (M2 := m2_init) (host := RX6) dX6_init_42 (List.mem_of_getElem? (i := 1) rfl) tm2_init (ev2_init) rfl rfl (by decide) (Nat.le_of_ble_eq_true rfl) ?_
  refine jj_putf dX6_init_45 fw6_33 rfl (Nat.le_of_ble_eq_true rfl) rfl rfl rfl ?_
  refine jj_eq (hh := [.inl (5, [.ref 1, .ref 6, .ref 9, .ref 13, .null, .null, .null, .null]), .inl (2, [.ref 2, .int 0, .int 0, .int 0, .ref 3, .ref 4, .ref 5, .int 0]), .inr (.inl (jv 200 jz0)), .inr (.inl (jv 12 jz0)), .inr (.inl (jv 12 jz0)), .inr (.inl (jv 12 jz0)), .inl (3, [.ref 7, .ref 8]), .inr (.inl (jv 720 (lgG 60))), .inr (.inl (jv 12 (lgA 60))), .inl (4, [.ref 10, .ref 11, .ref 12, .int 0, .int 0, .int 0, .int 0, .int 0, .int 0]), .inr (.inl (jv 12 (jF (fun f => nI (jb_al f)) jz0 12))), .inr (.inl (jv 12 jz0)), .inr (.inl (jv 12 jz0)), .inl (1, [.ref 14, .ref 15]), .inr (.inr (.inr (jv 12 jzl))), .inr (.inr (.inr (jv 12 jzl)))]) rfl rfl rfl rfl ?_
  refine jj_aload_n dX6_init_48 rfl ?_
  refine jj_new (N := 6) dX6_init_49 nw6_37 rfl (Nat.le_of_ble_eq_true rfl) ?_
  refine jj_eq (hh := [.inl (5, [.ref 1, .ref 6, .ref 9, .ref 13, .null, .null, .null, .null]), .inl (2, [.ref 2, .int 0, .int 0, .int 0, .ref 3, .ref 4, .ref 5, .int 0]), .inr (.inl (jv 200 jz0)), .inr (.inl (jv 12 jz0)), .inr (.inl (jv 12 jz0)), .inr (.inl (jv 12 jz0)), .inl (3, [.ref 7, .ref 8]), .inr (.inl (jv 720 (lgG 60))), .inr (.inl (jv 12 (lgA 60))), .inl (4, [.ref 10, .ref 11, .ref 12, .int 0, .int 0, .int 0, .int 0, .int 0, .int 0]), .inr (.inl (jv 12 (jF (fun f => nI (jb_al f)) jz0 12))), .inr (.inl (jv 12 jz0)), .inr (.inl (jv 12 jz0)), .inl (1, [.ref 14, .ref 15]), .inr (.inr (.inr (jv 12 jzl))), .inr (.inr (.inr (jv 12 jzl))), .inl (0, [.null, .null, .int 0, .int 0, .int 0, .int 0])]) rfl rfl rfl rfl ?_
  refine jj_dup dX6_init_52 rfl ?_
  refine jj_callNa (kc2 := 2) (ks2 := 24) (kc := 9) (ks := 90) (M2 := m1_init) (host := RX6) dX6_init_53 (List.mem_of_getElem? (i := 2) rfl) tm1_init (ev1_init_0) rfl rfl (by decide) (Nat.le_of_ble_eq_true rfl) ?_
  refine jj_putf dX6_init_56 fw6_40 rfl (Nat.le_of_ble_eq_true rfl) rfl rfl rfl ?_
  refine jj_eq (hh := [.inl (5, [.ref 1, .ref 6, .ref 9, .ref 13, .ref 16, .null, .null, .null]), .inl (2, [.ref 2, .int 0, .int 0, .int 0, .ref 3, .ref 4, .ref 5, .int 0]), .inr (.inl (jv 200 jz0)), .inr (.inl (jv 12 jz0)), .inr (.inl (jv 12 jz0)), .inr (.inl (jv 12 jz0)), .inl (3, [.ref 7, .ref 8]), .inr (.inl (jv 720 (lgG 60))), .inr (.inl (jv 12 (lgA 60))), .inl (4, [.ref 10, .ref 11, .ref 12, .int 0, .int 0, .int 0, .int 0, .int 0, .int 0]), .inr (.inl (jv 12 (jF (fun f => nI (jb_al f)) jz0 12))), .inr (.inl (jv 12 jz0)), .inr (.inl (jv 12 jz0)), .inl (1, [.ref 14, .ref 15]), .inr (.inr (.inr (jv 12 jzl))), .inr (.inr (.inr (jv 12 jzl))), .inl (0, [.ref 17, .ref 18, .int 0, .int 0, .int 0, .int 0]), .inr (.inl (jv 12 jz0)), .inr (.inl (jv 12 jz0))]) rfl rfl rfl rfl ?_
  refine jj_aload_n dX6_init_59 rfl ?_
  refine jj_new (N := 6) dX6_init_60 nw6_37 rfl (Nat.le_of_ble_eq_true rfl) ?_
  refine jj_eq (hh := [.inl (5, [.ref 1, .ref 6, .ref 9, .ref 13, .ref 16, .null, .null, .null]), .inl (2, [.ref 2, .int 0, .int 0, .int 0, .ref 3, .ref 4, .ref 5, .int 0]), .inr (.inl (jv 200 jz0)), .inr (.inl (jv 12 jz0)), .inr (.inl (jv 12 jz0)), .inr (.inl (jv 12 jz0)), .inl (3, [.ref 7, .ref 8]), .inr (.inl (jv 720 (lgG 60))), .inr (.inl (jv 12 (lgA 60))), .inl (4, [.ref 10, .ref 11, .ref 12, .int 0, .int 0, .int 0, .int 0, .int 0, .int 0]), .inr (.inl (jv 12 (jF (fun f => nI (jb_al f)) jz0 12))), .inr (.inl (jv 12 jz0)), .inr (.inl (jv 12 jz0)), .inl (1, [.ref 14, .ref 15]), .inr (.inr (.inr (jv 12 jzl))), .inr (.inr (.inr (jv 12 jzl))), .inl (0, [.ref 17, .ref 18, .int 0, .int 0, .int 0, .int 0]), .inr (.inl (jv 12 jz0)), .inr (.inl (jv 12 jz0)), .inl (0, [.null, .null, .int 0, .int 0, .int 0, .int 0])]) rfl rfl rfl rfl ?_
  refine jj_dup dX6_init_63 rfl ?_
  refine jj_callNa (kc2 := 2) (ks2 := 24) (kc := 6) (ks := 60) (M2 := m1_init) (host := RX6) dX6_init_64 (List.mem_of_getElem? (i := 2) rfl) tm1_init (ev1_init_1) rfl rfl (by decide) (Nat.le_of_ble_eq_true rfl) ?_
  refine jj_putf dX6_init_67 fw6_44 rfl (Nat.le_of_ble_eq_true rfl) rfl rfl rfl ?_
  refine jj_eq (hh := [.inl (5, [.ref 1, .ref 6, .ref 9, .ref 13, .ref 16, .ref 19, .null, .null]), .inl (2, [.ref 2, .int 0, .int 0, .int 0, .ref 3, .ref 4, .ref 5, .int 0]), .inr (.inl (jv 200 jz0)), .inr (.inl (jv 12 jz0)), .inr (.inl (jv 12 jz0)), .inr (.inl (jv 12 jz0)), .inl (3, [.ref 7, .ref 8]), .inr (.inl (jv 720 (lgG 60))), .inr (.inl (jv 12 (lgA 60))), .inl (4, [.ref 10, .ref 11, .ref 12, .int 0, .int 0, .int 0, .int 0, .int 0, .int 0]), .inr (.inl (jv 12 (jF (fun f => nI (jb_al f)) jz0 12))), .inr (.inl (jv 12 jz0)), .inr (.inl (jv 12 jz0)), .inl (1, [.ref 14, .ref 15]), .inr (.inr (.inr (jv 12 jzl))), .inr (.inr (.inr (jv 12 jzl))), .inl (0, [.ref 17, .ref 18, .int 0, .int 0, .int 0, .int 0]), .inr (.inl (jv 12 jz0)), .inr (.inl (jv 12 jz0)), .inl (0, [.ref 20, .ref 21, .int 0, .int 0, .int 0, .int 0]), .inr (.inl (jv 12 jz0)), .inr (.inl (jv 12 jz0))]) rfl rfl rfl rfl ?_
  refine jj_aload_n dX6_init_70 rfl ?_
  refine jj_new (N := 6) dX6_init_71 nw6_37 rfl (Nat.le_of_ble_eq_true rfl) ?_
  refine jj_eq (hh := [.inl (5, [.ref 1, .ref 6, .ref 9, .ref 13, .ref 16, .ref 19, .null, .null]), .inl (2, [.ref 2, .int 0, .int 0, .int 0, .ref 3, .ref 4, .ref 5, .int 0]), .inr (.inl (jv 200 jz0)), .inr (.inl (jv 12 jz0)), .inr (.inl (jv 12 jz0)), .inr (.inl (jv 12 jz0)), .inl (3, [.ref 7, .ref 8]), .inr (.inl (jv 720 (lgG 60))), .inr (.inl (jv 12 (lgA 60))), .inl (4, [.ref 10, .ref 11, .ref 12, .int 0, .int 0, .int 0, .int 0, .int 0, .int 0]), .inr (.inl (jv 12 (jF (fun f => nI (jb_al f)) jz0 12))), .inr (.inl (jv 12 jz0)), .inr (.inl (jv 12 jz0)), .inl (1, [.ref 14, .ref 15]), .inr (.inr (.inr (jv 12 jzl))), .inr (.inr (.inr (jv 12 jzl))), .inl (0, [.ref 17, .ref 18, .int 0, .int 0, .int 0, .int 0]), .inr (.inl (jv 12 jz0)), .inr (.inl (jv 12 jz0)), .inl (0, [.ref 20, .ref 21, .int 0, .int 0, .int 0, .int 0]), .inr (.inl (jv 12 jz0)), .inr (.inl (jv 12 jz0)), .inl (0, [.null, .null, .int 0, .int 0, .int 0, .int 0])]) rfl rfl rfl rfl ?_
  refine jj_dup dX6_init_74 rfl ?_
  refine jj_callNa (kc2 := 2) (ks2 := 24) (kc := 3) (ks := 30) (M2 := m1_init) (host := RX6) dX6_init_75 (List.mem_of_getElem? (i := 2) rfl) tm1_init (ev1_init_2) rfl rfl (by decide) (Nat.le_of_ble_eq_true rfl) ?_
  refine jj_putf dX6_init_78 fw6_47 rfl (Nat.le_of_ble_eq_true rfl) rfl rfl rfl ?_
  refine jj_eq (hh := [.inl (5, [.ref 1, .ref 6, .ref 9, .ref 13, .ref 16, .ref 19, .ref 22, .null]), .inl (2, [.ref 2, .int 0, .int 0, .int 0, .ref 3, .ref 4, .ref 5, .int 0]), .inr (.inl (jv 200 jz0)), .inr (.inl (jv 12 jz0)), .inr (.inl (jv 12 jz0)), .inr (.inl (jv 12 jz0)), .inl (3, [.ref 7, .ref 8]), .inr (.inl (jv 720 (lgG 60))), .inr (.inl (jv 12 (lgA 60))), .inl (4, [.ref 10, .ref 11, .ref 12, .int 0, .int 0, .int 0, .int 0, .int 0, .int 0]), .inr (.inl (jv 12 (jF (fun f => nI (jb_al f)) jz0 12))), .inr (.inl (jv 12 jz0)), .inr (.inl (jv 12 jz0)), .inl (1, [.ref 14, .ref 15]), .inr (.inr (.inr (jv 12 jzl))), .inr (.inr (.inr (jv 12 jzl))), .inl (0, [.ref 17, .ref 18, .int 0, .int 0, .int 0, .int 0]), .inr (.inl (jv 12 jz0)), .inr (.inl (jv 12 jz0)), .inl (0, [.ref 20, .ref 21, .int 0, .int 0, .int 0, .int 0]), .inr (.inl (jv 12 jz0)), .inr (.inl (jv 12 jz0)), .inl (0, [.ref 23, .ref 24, .int 0, .int 0, .int 0, .int 0]), .inr (.inl (jv 12 jz0)), .inr (.inl (jv 12 jz0))]) rfl rfl rfl rfl ?_
  refine jj_aload_n dX6_init_81 rfl ?_
  refine jj_new (N := 6) dX6_init_82 nw6_37 rfl (Nat.le_of_ble_eq_true rfl) ?_
  refine jj_eq (hh := [.inl (5, [.ref 1, .ref 6, .ref 9, .ref 13, .ref 16, .ref 19, .ref 22, .null]), .inl (2, [.ref 2, .int 0, .int 0, .int 0, .ref 3, .ref 4, .ref 5, .int 0]), .inr (.inl (jv 200 jz0)), .inr (.inl (jv 12 jz0)), .inr (.inl (jv 12 jz0)), .inr (.inl (jv 12 jz0)), .inl (3, [.ref 7, .ref 8]), .inr (.inl (jv 720 (lgG 60))), .inr (.inl (jv 12 (lgA 60))), .inl (4, [.ref 10, .ref 11, .ref 12, .int 0, .int 0, .int 0, .int 0, .int 0, .int 0]), .inr (.inl (jv 12 (jF (fun f => nI (jb_al f)) jz0 12))), .inr (.inl (jv 12 jz0)), .inr (.inl (jv 12 jz0)), .inl (1, [.ref 14, .ref 15]), .inr (.inr (.inr (jv 12 jzl))), .inr (.inr (.inr (jv 12 jzl))), .inl (0, [.ref 17, .ref 18, .int 0, .int 0, .int 0, .int 0]), .inr (.inl (jv 12 jz0)), .inr (.inl (jv 12 jz0)), .inl (0, [.ref 20, .ref 21, .int 0, .int 0, .int 0, .int 0]), .inr (.inl (jv 12 jz0)), .inr (.inl (jv 12 jz0)), .inl (0, [.ref 23, .ref 24, .int 0, .int 0, .int 0, .int 0]), .inr (.inl (jv 12 jz0)), .inr (.inl (jv 12 jz0)), .inl (0, [.null, .null, .int 0, .int 0, .int 0, .int 0])]) rfl rfl rfl rfl ?_
  refine jj_dup dX6_init_85 rfl ?_
  refine jj_callNa (kc2 := 2) (ks2 := 24) (kc := 0) (ks := 0) (M2 := m1_init) (host := RX6) dX6_init_86 (List.mem_of_getElem? (i := 2) rfl) tm1_init (ev1_init_3) rfl rfl (by decide) (Nat.le_of_ble_eq_true rfl) ?_
  refine jj_putf dX6_init_89 fw6_50 rfl (Nat.le_of_ble_eq_true rfl) rfl rfl rfl ?_
  refine jj_eq (hh := [.inl (5, [.ref 1, .ref 6, .ref 9, .ref 13, .ref 16, .ref 19, .ref 22, .ref 25]), .inl (2, [.ref 2, .int 0, .int 0, .int 0, .ref 3, .ref 4, .ref 5, .int 0]), .inr (.inl (jv 200 jz0)), .inr (.inl (jv 12 jz0)), .inr (.inl (jv 12 jz0)), .inr (.inl (jv 12 jz0)), .inl (3, [.ref 7, .ref 8]), .inr (.inl (jv 720 (lgG 60))), .inr (.inl (jv 12 (lgA 60))), .inl (4, [.ref 10, .ref 11, .ref 12, .int 0, .int 0, .int 0, .int 0, .int 0, .int 0]), .inr (.inl (jv 12 (jF (fun f => nI (jb_al f)) jz0 12))), .inr (.inl (jv 12 jz0)), .inr (.inl (jv 12 jz0)), .inl (1, [.ref 14, .ref 15]), .inr (.inr (.inr (jv 12 jzl))), .inr (.inr (.inr (jv 12 jzl))), .inl (0, [.ref 17, .ref 18, .int 0, .int 0, .int 0, .int 0]), .inr (.inl (jv 12 jz0)), .inr (.inl (jv 12 jz0)), .inl (0, [.ref 20, .ref 21, .int 0, .int 0, .int 0, .int 0]), .inr (.inl (jv 12 jz0)), .inr (.inl (jv 12 jz0)), .inl (0, [.ref 23, .ref 24, .int 0, .int 0, .int 0, .int 0]), .inr (.inl (jv 12 jz0)), .inr (.inl (jv 12 jz0)), .inl (0, [.ref 26, .ref 27, .int 0, .int 0, .int 0, .int 0]), .inr (.inl (jv 12 jz0)), .inr (.inl (jv 12 jz0))]) rfl rfl rfl rfl ?_
  exact jj_leaf dX6_init_92 rfl rfl
def j0_S : jj_S := (fun _ => 0, fun _ _ => 0, fun _ _ => 0, fun _ => 0)
def j6_I (go ah op : Nat → Int32) : jj_S := wa_opS (tn_ahS (tn_goS j0_S go) ah) op
def lbl (b : Nat → Int32) (f k : Nat) : Nat → Int32 := fun j => if 5 * f ≤ j ∧ j < 5 * f + k then nI (jb_s f (j - 5 * f)) else b j
theorem lbl_s (b : Nat → Int32) (f k : Nat) : jU (lbl b f k) (5 * f + k) (nI (jb_s f k)) = lbl b f (k + 1) := by
  funext j
  by_cases e : j = 5 * f + k
  · subst e
    rw [jU_at]
    unfold lbl
    rw [if_pos (by omega), show 5 * f + k - 5 * f = k by omega]
  · rw [jU_ne _ _ e]
    unfold lbl
    by_cases c : 5 * f ≤ j ∧ j < 5 * f + k
    · rw [if_pos c, if_pos (by omega)]
    · rw [if_neg c, if_neg (by omega)]
theorem lbl_0 (b : Nat → Int32) (f : Nat) : lbl b f 0 = b := funext fun j => if_neg (by omega)
def lbB (b : Nat → Int32) : Nat → Nat → Int32
  | 0 => b
  | n + 1 => lbl (lbB b n) n 5
theorem lbB_at (b : Nat → Int32) : ∀ n f, f < n → ∀ t, t < 5 → lbB b n (5 * f + t) = nI (jb_s f t) := by
  intro n
  induction n with
  | zero => intro f h; exact absurd h (Nat.not_lt_zero f)
  | succ n ih =>
    intro f hf t ht
    show lbl (lbB b n) n 5 (5 * f + t) = _
    unfold lbl
    by_cases e : f = n
    · subst e
      rw [if_pos (by omega), show 5 * f + t - 5 * f = t by omega]
    · rw [if_neg (by omega)]
      exact ih f (by omega) t ht
set_option maxRecDepth 100000 in
set_option maxHeartbeats 4000000 in
theorem ev7_lay {G : jj_G} {s : jj_S} {f : Nat} {v : Int32} (hf : f < 12) (hv : ∀ t, t < 5 → (v >>> (nI (4 * (4 - t)) &&& 31)) &&& 15 = nI (jb_s f t)) : jj_Ev G m7_lay 0 [.ref 28, .int (nI f), .int v] (jj_m s) 0 0 (none) (jj_m (mo_ballS s (lbl (mo_ball s) f 5))) := by
  refine jj_Ev_of (lo := [some (.ref 28), some (.int (nI f)), some (.int v), none]) (by decide +kernel) (Nat.le_of_ble_eq_true rfl) rfl (by trivial) ?_
  have L : ∀ k, k ≤ 5 → jj_Go G m7_lay 0 2 [some (.ref 28), some (.int (nI f)), some (.int v), some (.int (nI k))] [] (jj_m (mo_ballS s (lbl (mo_ball s) f k))) 0 0 (none) (jj_m (mo_ballS s (lbl (mo_ball s) f 5))) := by
    refine jj_up 5 (fun k hk ih => ?_) ?_
    · have hv1 := hv k hk
      have e1 : nI 4 - nI k = nI (4 - k) := pk_sub (by omega)
      refine jj_iload_n dX7_lay_2 rfl ?_
      refine jj_iconst (v := 5) dX7_lay_3 (by decide) ?_
      refine jj_icmp_ge (tgt := 33) dX7_lay_4 (by decide) (fun zz => absurd zz (jb_ge hk (by decide))) (fun _ => ?_)
      refine jj_aload_n dX7_lay_7 rfl ?_
      refine jj_getf dX7_lay_8 fl7_7 rfl rfl ?_
      refine jj_iconst (v := nI 5) dX7_lay_11 (by decide) ?_
      refine jj_iload_n dX7_lay_12 rfl ?_
      refine jj_imul dX7_lay_13 (j4_mul 5 f) ?_
      refine jj_iload_n dX7_lay_14 rfl ?_
      refine jj_iadd dX7_lay_15 (nI_add (5 * f) k) ?_
      refine jj_iload_n dX7_lay_16 rfl ?_
      refine jj_iconst (v := nI 4) dX7_lay_17 (by decide) ?_
      refine jj_iconst (v := nI 4) dX7_lay_18 (by decide) ?_
      refine jj_iload_n dX7_lay_19 rfl ?_
      refine jj_isub dX7_lay_20 e1 ?_
      refine jj_imul dX7_lay_21 (j4_mul 4 (4 - k)) ?_
      refine jj_ishr dX7_lay_22 rfl ?_
      refine jj_bipush (v := 15) dX7_lay_23 (by decide) ?_
      refine jj_iand dX7_lay_25 hv1 ?_
      refine jv_iast dX7_lay_26 rfl (by omega) (by decide) rfl ?_
      refine jj_iinc dX7_lay_27 rfl (jb_i k) (by decide) rfl ?_
      refine jj_goto (tgt := 2) dX7_lay_30 (by decide) ?_
      exact jj_eq rfl rfl rfl (by rw [← lbl_s]; rfl) ih
    · refine jj_iload_n dX7_lay_2 rfl ?_
      refine jj_iconst (v := 5) dX7_lay_3 (by decide) ?_
      refine jj_icmp_ge (tgt := 33) dX7_lay_4 (by decide) (fun _ => ?_) (fun zz => absurd (jb_ge' (n := 5) (by decide)) zz)
      exact jj_leaf dX7_lay_33 rfl rfl
  refine jj_iconst (v := nI 0) dX7_lay_0 (by decide) ?_
  refine jj_istore_n dX7_lay_1 rfl (by decide) rfl ?_
  exact jj_eq rfl rfl rfl (by rw [lbl_0]; rfl) (L 0 (by decide))
theorem lb_0 : ∀ t, t < 5 → ((74565 : Int32) >>> (nI (4 * (4 - t)) &&& 31)) &&& 15 = nI (jb_s 0 t) := by decide +kernel
theorem lb_1 : ∀ t, t < 5 → ((23138 : Int32) >>> (nI (4 * (4 - t)) &&& 31)) &&& 15 = nI (jb_s 1 t) := by decide +kernel
theorem lb_2 : ∀ t, t < 5 → ((5747 : Int32) >>> (nI (4 * (4 - t)) &&& 31)) &&& 15 = nI (jb_s 2 t) := by decide +kernel
theorem lb_3 : ∀ t, t < 5 → ((10116 : Int32) >>> (nI (4 * (4 - t)) &&& 31)) &&& 15 = nI (jb_s 3 t) := by decide +kernel
theorem lb_4 : ∀ t, t < 5 → ((14485 : Int32) >>> (nI (4 * (4 - t)) &&& 31)) &&& 15 = nI (jb_s 4 t) := by decide +kernel
theorem lb_5 : ∀ t, t < 5 → ((18849 : Int32) >>> (nI (4 * (4 - t)) &&& 31)) &&& 15 = nI (jb_s 5 t) := by decide +kernel
theorem lb_6 : ∀ t, t < 5 → ((109426 : Int32) >>> (nI (4 * (4 - t)) &&& 31)) &&& 15 = nI (jb_s 6 t) := by decide +kernel
theorem lb_7 : ∀ t, t < 5 → ((158595 : Int32) >>> (nI (4 * (4 - t)) &&& 31)) &&& 15 = nI (jb_s 7 t) := by decide +kernel
theorem lb_8 : ∀ t, t < 5 → ((228244 : Int32) >>> (nI (4 * (4 - t)) &&& 31)) &&& 15 = nI (jb_s 8 t) := by decide +kernel
theorem lb_9 : ∀ t, t < 5 → ((297893 : Int32) >>> (nI (4 * (4 - t)) &&& 31)) &&& 15 = nI (jb_s 9 t) := by decide +kernel
theorem lb_10 : ∀ t, t < 5 → ((367457 : Int32) >>> (nI (4 * (4 - t)) &&& 31)) &&& 15 = nI (jb_s 10 t) := by decide +kernel
theorem lb_11 : ∀ t, t < 5 → ((694390 : Int32) >>> (nI (4 * (4 - t)) &&& 31)) &&& 15 = nI (jb_s 11 t) := by decide +kernel
def hp28 (go ah op : Nat → Int32) : List jj_C := [.inl (5, [.ref 1, .ref 6, .ref 9, .ref 13, .ref 16, .ref 19, .ref 22, .ref 25]), .inl (2, [.ref 2, .int 0, .int 0, .int 0, .ref 3, .ref 4, .ref 5, .int 0]), .inr (.inl (jv 200 jz0)), .inr (.inl (jv 12 jz0)), .inr (.inl (jv 12 jz0)), .inr (.inl (jv 12 jz0)), .inl (3, [.ref 7, .ref 8]), .inr (.inl (jv 720 go)), .inr (.inl (jv 12 ah)), .inl (4, [.ref 10, .ref 11, .ref 12, .int 0, .int 0, .int 0, .int 0, .int 0, .int 0]), .inr (.inl (jv 12 op)), .inr (.inl (jv 12 jz0)), .inr (.inl (jv 12 jz0)), .inl (1, [.ref 14, .ref 15]), .inr (.inr (.inr (jv 12 jzl))), .inr (.inr (.inr (jv 12 jzl))), .inl (0, [.ref 17, .ref 18, .int 0, .int 0, .int 0, .int 0]), .inr (.inl (jv 12 jz0)), .inr (.inl (jv 12 jz0)), .inl (0, [.ref 20, .ref 21, .int 0, .int 0, .int 0, .int 0]), .inr (.inl (jv 12 jz0)), .inr (.inl (jv 12 jz0)), .inl (0, [.ref 23, .ref 24, .int 0, .int 0, .int 0, .int 0]), .inr (.inl (jv 12 jz0)), .inr (.inl (jv 12 jz0)), .inl (0, [.ref 26, .ref 27, .int 0, .int 0, .int 0, .int 0]), .inr (.inl (jv 12 jz0)), .inr (.inl (jv 12 jz0))]
set_option maxRecDepth 100000 in
set_option maxHeartbeats 4000000 in
theorem ev7_init {G : jj_G} {go ah op : Nat → Int32} : jj_Ev G m7_init 1 [.ref 28] (hp28 go ah op ++ [.inl (6, [.null, .null, .null, .null, .int 0, .int 0, .int 0, .int 0, .int 0, .int 0, .null, .int 0, .int 0, .long 0, .int 0, .int 0, .int 0, .int 0, .null, .null, .null, .null, .null, .null, .null, .null, .null])]) 14 484 (none) (jj_m (mo_ballS (j6_I go ah op) (lbB jz0 12))) := by
  refine jj_Ev_of (lo := [some (.ref 28)]) (by decide +kernel) (Nat.le_of_ble_eq_true rfl) rfl (by trivial) ?_
  refine jj_aload_n dX7_init_0 rfl ?_
  refine jj_obj dX7_init_1 ml7_1 jj_ob1 jj_ob2 (by decide) (Nat.le_of_ble_eq_true rfl) ?_
  refine jj_aload_n dX7_init_4 rfl ?_
  refine jj_bipush (v := 60) dX7_init_5 (by decide) ?_
  refine jj_newaI (N := 60) dX7_init_7 (by decide) (by decide) (by decide) (jv_hI _ 60) (Nat.le_of_ble_eq_true rfl) jj_ac_int ?_
  refine jj_putf dX7_init_9 fw7_7 rfl (Nat.le_of_ble_eq_true rfl) rfl rfl rfl ?_
  refine jj_eq (hh := hp28 go ah op ++ [.inl (6, [.ref 29, .null, .null, .null, .int 0, .int 0, .int 0, .int 0, .int 0, .int 0, .null, .int 0, .int 0, .long 0, .int 0, .int 0, .int 0, .int 0, .null, .null, .null, .null, .null, .null, .null, .null, .null]), .inr (.inl (jv 60 jz0))]) rfl rfl rfl rfl ?_
  refine jj_aload_n dX7_init_12 rfl ?_
  refine jj_bipush (v := 60) dX7_init_13 (by decide) ?_
  refine jj_newaZ (N := 60) dX7_init_15 (by decide) (by decide) (by decide) (jv_hZ _ 60) (Nat.le_of_ble_eq_true rfl) jj_ac_boolean ?_
  refine jj_putf dX7_init_17 fw7_13 rfl (Nat.le_of_ble_eq_true rfl) rfl rfl rfl ?_
  refine jj_eq (hh := hp28 go ah op ++ [.inl (6, [.ref 29, .ref 30, .null, .null, .int 0, .int 0, .int 0, .int 0, .int 0, .int 0, .null, .int 0, .int 0, .long 0, .int 0, .int 0, .int 0, .int 0, .null, .null, .null, .null, .null, .null, .null, .null, .null]), .inr (.inl (jv 60 jz0)), .inr (.inr (.inl (jv 60 jz0)))]) rfl rfl rfl rfl ?_
  refine jj_aload_n dX7_init_20 rfl ?_
  refine jj_bipush (v := 12) dX7_init_21 (by decide) ?_
  refine jj_newaI (N := 12) dX7_init_23 (by decide) (by decide) (by decide) (jv_hI _ 12) (Nat.le_of_ble_eq_true rfl) jj_ac_int ?_
  refine jj_putf dX7_init_25 fw7_17 rfl (Nat.le_of_ble_eq_true rfl) rfl rfl rfl ?_
  refine jj_eq (hh := hp28 go ah op ++ [.inl (6, [.ref 29, .ref 30, .ref 31, .null, .int 0, .int 0, .int 0, .int 0, .int 0, .int 0, .null, .int 0, .int 0, .long 0, .int 0, .int 0, .int 0, .int 0, .null, .null, .null, .null, .null, .null, .null, .null, .null]), .inr (.inl (jv 60 jz0)), .inr (.inr (.inl (jv 60 jz0))), .inr (.inl (jv 12 jz0))]) rfl rfl rfl rfl ?_
  refine jj_aload_n dX7_init_28 rfl ?_
  refine jj_bipush (v := 12) dX7_init_29 (by decide) ?_
  refine jj_newaI (N := 12) dX7_init_31 (by decide) (by decide) (by decide) (jv_hI _ 12) (Nat.le_of_ble_eq_true rfl) jj_ac_int ?_
  refine jj_putf dX7_init_33 fw7_20 rfl (Nat.le_of_ble_eq_true rfl) rfl rfl rfl ?_
  refine jj_eq (hh := hp28 go ah op ++ [.inl (6, [.ref 29, .ref 30, .ref 31, .ref 32, .int 0, .int 0, .int 0, .int 0, .int 0, .int 0, .null, .int 0, .int 0, .long 0, .int 0, .int 0, .int 0, .int 0, .null, .null, .null, .null, .null, .null, .null, .null, .null]), .inr (.inl (jv 60 jz0)), .inr (.inr (.inl (jv 60 jz0))), .inr (.inl (jv 12 jz0)), .inr (.inl (jv 12 jz0))]) rfl rfl rfl rfl ?_
  refine jj_aload_n dX7_init_36 rfl ?_
  refine jj_sipush (v := 200) dX7_init_37 (by decide) ?_
  refine jj_newaI (N := 200) dX7_init_40 (by decide) (by decide) (by decide) (jv_hI _ 200) (Nat.le_of_ble_eq_true rfl) jj_ac_int ?_
  refine jj_putf dX7_init_42 fw7_23 rfl (Nat.le_of_ble_eq_true rfl) rfl rfl rfl ?_
  refine jj_eq (hh := hp28 go ah op ++ [.inl (6, [.ref 29, .ref 30, .ref 31, .ref 32, .int 0, .int 0, .int 0, .int 0, .int 0, .int 0, .ref 33, .int 0, .int 0, .long 0, .int 0, .int 0, .int 0, .int 0, .null, .null, .null, .null, .null, .null, .null, .null, .null]), .inr (.inl (jv 60 jz0)), .inr (.inr (.inl (jv 60 jz0))), .inr (.inl (jv 12 jz0)), .inr (.inl (jv 12 jz0)), .inr (.inl (jv 200 jz0))]) rfl rfl rfl rfl ?_
  refine jj_aload_n dX7_init_45 rfl ?_
  refine jj_bipush (v := 36) dX7_init_46 (by decide) ?_
  refine jj_newaI (N := 36) dX7_init_48 (by decide) (by decide) (by decide) (jv_hI _ 36) (Nat.le_of_ble_eq_true rfl) jj_ac_int ?_
  refine jj_putf dX7_init_50 fw7_26 rfl (Nat.le_of_ble_eq_true rfl) rfl rfl rfl ?_
  refine jj_eq (hh := hp28 go ah op ++ [.inl (6, [.ref 29, .ref 30, .ref 31, .ref 32, .int 0, .int 0, .int 0, .int 0, .int 0, .int 0, .ref 33, .int 0, .int 0, .long 0, .int 0, .int 0, .int 0, .int 0, .ref 34, .null, .null, .null, .null, .null, .null, .null, .null]), .inr (.inl (jv 60 jz0)), .inr (.inr (.inl (jv 60 jz0))), .inr (.inl (jv 12 jz0)), .inr (.inl (jv 12 jz0)), .inr (.inl (jv 200 jz0)), .inr (.inl (jv 36 jz0))]) rfl rfl rfl rfl ?_
  refine jj_aload_n dX7_init_53 rfl ?_
  refine jj_bipush (v := 30) dX7_init_54 (by decide) ?_
  refine jj_newaI (N := 30) dX7_init_56 (by decide) (by decide) (by decide) (jv_hI _ 30) (Nat.le_of_ble_eq_true rfl) jj_ac_int ?_
  refine jj_putf dX7_init_58 fw7_29 rfl (Nat.le_of_ble_eq_true rfl) rfl rfl rfl ?_
  refine jj_eq (hh := hp28 go ah op ++ [.inl (6, [.ref 29, .ref 30, .ref 31, .ref 32, .int 0, .int 0, .int 0, .int 0, .int 0, .int 0, .ref 33, .int 0, .int 0, .long 0, .int 0, .int 0, .int 0, .int 0, .ref 34, .ref 35, .null, .null, .null, .null, .null, .null, .null]), .inr (.inl (jv 60 jz0)), .inr (.inr (.inl (jv 60 jz0))), .inr (.inl (jv 12 jz0)), .inr (.inl (jv 12 jz0)), .inr (.inl (jv 200 jz0)), .inr (.inl (jv 36 jz0)), .inr (.inl (jv 30 jz0))]) rfl rfl rfl rfl ?_
  refine jj_aload_n dX7_init_61 rfl ?_
  refine jj_iconst (v := 2) dX7_init_62 (by decide) ?_
  refine jj_newaZ (N := 2) dX7_init_63 (by decide) (by decide) (by decide) (jv_hZ _ 2) (Nat.le_of_ble_eq_true rfl) jj_ac_boolean ?_
  refine jj_putf dX7_init_65 fw7_32 rfl (Nat.le_of_ble_eq_true rfl) rfl rfl rfl ?_
  refine jj_eq (hh := hp28 go ah op ++ [.inl (6, [.ref 29, .ref 30, .ref 31, .ref 32, .int 0, .int 0, .int 0, .int 0, .int 0, .int 0, .ref 33, .int 0, .int 0, .long 0, .int 0, .int 0, .int 0, .int 0, .ref 34, .ref 35, .ref 36, .null, .null, .null, .null, .null, .null]), .inr (.inl (jv 60 jz0)), .inr (.inr (.inl (jv 60 jz0))), .inr (.inl (jv 12 jz0)), .inr (.inl (jv 12 jz0)), .inr (.inl (jv 200 jz0)), .inr (.inl (jv 36 jz0)), .inr (.inl (jv 30 jz0)), .inr (.inr (.inl (jv 2 jz0)))]) rfl rfl rfl rfl ?_
  refine jj_aload_n dX7_init_68 rfl ?_
  refine jj_bipush (v := 12) dX7_init_69 (by decide) ?_
  refine jj_newaI (N := 12) dX7_init_71 (by decide) (by decide) (by decide) (jv_hI _ 12) (Nat.le_of_ble_eq_true rfl) jj_ac_int ?_
  refine jj_putf dX7_init_73 fw7_35 rfl (Nat.le_of_ble_eq_true rfl) rfl rfl rfl ?_
  refine jj_eq (hh := hp28 go ah op ++ [.inl (6, [.ref 29, .ref 30, .ref 31, .ref 32, .int 0, .int 0, .int 0, .int 0, .int 0, .int 0, .ref 33, .int 0, .int 0, .long 0, .int 0, .int 0, .int 0, .int 0, .ref 34, .ref 35, .ref 36, .ref 37, .null, .null, .null, .null, .null]), .inr (.inl (jv 60 jz0)), .inr (.inr (.inl (jv 60 jz0))), .inr (.inl (jv 12 jz0)), .inr (.inl (jv 12 jz0)), .inr (.inl (jv 200 jz0)), .inr (.inl (jv 36 jz0)), .inr (.inl (jv 30 jz0)), .inr (.inr (.inl (jv 2 jz0))), .inr (.inl (jv 12 jz0))]) rfl rfl rfl rfl ?_
  refine jj_aload_n dX7_init_76 rfl ?_
  refine jj_bipush (v := 12) dX7_init_77 (by decide) ?_
  refine jj_newaI (N := 12) dX7_init_79 (by decide) (by decide) (by decide) (jv_hI _ 12) (Nat.le_of_ble_eq_true rfl) jj_ac_int ?_
  refine jj_putf dX7_init_81 fw7_38 rfl (Nat.le_of_ble_eq_true rfl) rfl rfl rfl ?_
  refine jj_eq (hh := hp28 go ah op ++ [.inl (6, [.ref 29, .ref 30, .ref 31, .ref 32, .int 0, .int 0, .int 0, .int 0, .int 0, .int 0, .ref 33, .int 0, .int 0, .long 0, .int 0, .int 0, .int 0, .int 0, .ref 34, .ref 35, .ref 36, .ref 37, .ref 38, .null, .null, .null, .null]), .inr (.inl (jv 60 jz0)), .inr (.inr (.inl (jv 60 jz0))), .inr (.inl (jv 12 jz0)), .inr (.inl (jv 12 jz0)), .inr (.inl (jv 200 jz0)), .inr (.inl (jv 36 jz0)), .inr (.inl (jv 30 jz0)), .inr (.inr (.inl (jv 2 jz0))), .inr (.inl (jv 12 jz0)), .inr (.inl (jv 12 jz0))]) rfl rfl rfl rfl ?_
  refine jj_aload_n dX7_init_84 rfl ?_
  refine jj_bipush (v := 12) dX7_init_85 (by decide) ?_
  refine jj_newaI (N := 12) dX7_init_87 (by decide) (by decide) (by decide) (jv_hI _ 12) (Nat.le_of_ble_eq_true rfl) jj_ac_int ?_
  refine jj_putf dX7_init_89 fw7_41 rfl (Nat.le_of_ble_eq_true rfl) rfl rfl rfl ?_
  refine jj_eq (hh := hp28 go ah op ++ [.inl (6, [.ref 29, .ref 30, .ref 31, .ref 32, .int 0, .int 0, .int 0, .int 0, .int 0, .int 0, .ref 33, .int 0, .int 0, .long 0, .int 0, .int 0, .int 0, .int 0, .ref 34, .ref 35, .ref 36, .ref 37, .ref 38, .ref 39, .null, .null, .null]), .inr (.inl (jv 60 jz0)), .inr (.inr (.inl (jv 60 jz0))), .inr (.inl (jv 12 jz0)), .inr (.inl (jv 12 jz0)), .inr (.inl (jv 200 jz0)), .inr (.inl (jv 36 jz0)), .inr (.inl (jv 30 jz0)), .inr (.inr (.inl (jv 2 jz0))), .inr (.inl (jv 12 jz0)), .inr (.inl (jv 12 jz0)), .inr (.inl (jv 12 jz0))]) rfl rfl rfl rfl ?_
  refine jj_aload_n dX7_init_92 rfl ?_
  refine jj_bipush (v := 12) dX7_init_93 (by decide) ?_
  refine jj_newaJ (N := 12) dX7_init_95 (by decide) (by decide) (by decide) (jv_hJ _ 12) (Nat.le_of_ble_eq_true rfl) jj_ac_long ?_
  refine jj_putf dX7_init_97 fw7_44 rfl (Nat.le_of_ble_eq_true rfl) rfl rfl rfl ?_
  refine jj_eq (hh := hp28 go ah op ++ [.inl (6, [.ref 29, .ref 30, .ref 31, .ref 32, .int 0, .int 0, .int 0, .int 0, .int 0, .int 0, .ref 33, .int 0, .int 0, .long 0, .int 0, .int 0, .int 0, .int 0, .ref 34, .ref 35, .ref 36, .ref 37, .ref 38, .ref 39, .ref 40, .null, .null]), .inr (.inl (jv 60 jz0)), .inr (.inr (.inl (jv 60 jz0))), .inr (.inl (jv 12 jz0)), .inr (.inl (jv 12 jz0)), .inr (.inl (jv 200 jz0)), .inr (.inl (jv 36 jz0)), .inr (.inl (jv 30 jz0)), .inr (.inr (.inl (jv 2 jz0))), .inr (.inl (jv 12 jz0)), .inr (.inl (jv 12 jz0)), .inr (.inl (jv 12 jz0)), .inr (.inr (.inr (jv 12 jzl)))]) rfl rfl rfl rfl ?_
  refine jj_aload_n dX7_init_100 rfl ?_
  refine jj_bipush (v := 12) dX7_init_101 (by decide) ?_
  refine jj_newaJ (N := 12) dX7_init_103 (by decide) (by decide) (by decide) (jv_hJ _ 12) (Nat.le_of_ble_eq_true rfl) jj_ac_long ?_
  refine jj_putf dX7_init_105 fw7_48 rfl (Nat.le_of_ble_eq_true rfl) rfl rfl rfl ?_
  refine jj_eq (hh := hp28 go ah op ++ [.inl (6, [.ref 29, .ref 30, .ref 31, .ref 32, .int 0, .int 0, .int 0, .int 0, .int 0, .int 0, .ref 33, .int 0, .int 0, .long 0, .int 0, .int 0, .int 0, .int 0, .ref 34, .ref 35, .ref 36, .ref 37, .ref 38, .ref 39, .ref 40, .ref 41, .null]), .inr (.inl (jv 60 jz0)), .inr (.inr (.inl (jv 60 jz0))), .inr (.inl (jv 12 jz0)), .inr (.inl (jv 12 jz0)), .inr (.inl (jv 200 jz0)), .inr (.inl (jv 36 jz0)), .inr (.inl (jv 30 jz0)), .inr (.inr (.inl (jv 2 jz0))), .inr (.inl (jv 12 jz0)), .inr (.inl (jv 12 jz0)), .inr (.inl (jv 12 jz0)), .inr (.inr (.inr (jv 12 jzl))), .inr (.inr (.inr (jv 12 jzl)))]) rfl rfl rfl rfl ?_
  refine jj_aload_n dX7_init_108 rfl ?_
  refine jj_bipush (v := 12) dX7_init_109 (by decide) ?_
  refine jj_newaI (N := 12) dX7_init_111 (by decide) (by decide) (by decide) (jv_hI _ 12) (Nat.le_of_ble_eq_true rfl) jj_ac_int ?_
  refine jj_putf dX7_init_113 fw7_51 rfl (Nat.le_of_ble_eq_true rfl) rfl rfl rfl ?_
  refine jj_eq (hh := jj_m (mo_ballS (j6_I go ah op) (lbB jz0 0))) rfl rfl rfl rfl ?_
  refine jj_aload_n dX7_init_116 rfl ?_
  refine jj_iconst (v := 0) dX7_init_117 (by decide) ?_
  refine jj_ldc dX7_init_118 kc7_54 ?_
  refine jj_callV (M2 := m7_lay) dX7_init_120 ml7_55 tm7_lay (ev7_lay (s := mo_ballS (j6_I go ah op) (lbB jz0 0)) (f := 0) (by decide) lb_0) rfl rfl rfl rfl rfl (by omega) (Nat.le_of_ble_eq_true rfl) ?_
  refine jj_eq (hh := jj_m (mo_ballS (j6_I go ah op) (lbB jz0 1))) rfl rfl rfl rfl ?_
  refine jj_aload_n dX7_init_123 rfl ?_
  refine jj_iconst (v := 1) dX7_init_124 (by decide) ?_
  refine jj_sipush (v := 23138) dX7_init_125 (by decide) ?_
  refine jj_callV (M2 := m7_lay) dX7_init_128 ml7_55 tm7_lay (ev7_lay (s := mo_ballS (j6_I go ah op) (lbB jz0 1)) (f := 1) (by decide) lb_1) rfl rfl rfl rfl rfl (by omega) (Nat.le_of_ble_eq_true rfl) ?_
  refine jj_eq (hh := jj_m (mo_ballS (j6_I go ah op) (lbB jz0 2))) rfl rfl rfl rfl ?_
  refine jj_aload_n dX7_init_131 rfl ?_
  refine jj_iconst (v := 2) dX7_init_132 (by decide) ?_
  refine jj_sipush (v := 5747) dX7_init_133 (by decide) ?_
  refine jj_callV (M2 := m7_lay) dX7_init_136 ml7_55 tm7_lay (ev7_lay (s := mo_ballS (j6_I go ah op) (lbB jz0 2)) (f := 2) (by decide) lb_2) rfl rfl rfl rfl rfl (by omega) (Nat.le_of_ble_eq_true rfl) ?_
  refine jj_eq (hh := jj_m (mo_ballS (j6_I go ah op) (lbB jz0 3))) rfl rfl rfl rfl ?_
  refine jj_aload_n dX7_init_139 rfl ?_
  refine jj_iconst (v := 3) dX7_init_140 (by decide) ?_
  refine jj_sipush (v := 10116) dX7_init_141 (by decide) ?_
  refine jj_callV (M2 := m7_lay) dX7_init_144 ml7_55 tm7_lay (ev7_lay (s := mo_ballS (j6_I go ah op) (lbB jz0 3)) (f := 3) (by decide) lb_3) rfl rfl rfl rfl rfl (by omega) (Nat.le_of_ble_eq_true rfl) ?_
  refine jj_eq (hh := jj_m (mo_ballS (j6_I go ah op) (lbB jz0 4))) rfl rfl rfl rfl ?_
  refine jj_aload_n dX7_init_147 rfl ?_
  refine jj_iconst (v := 4) dX7_init_148 (by decide) ?_
  refine jj_sipush (v := 14485) dX7_init_149 (by decide) ?_
  refine jj_callV (M2 := m7_lay) dX7_init_152 ml7_55 tm7_lay (ev7_lay (s := mo_ballS (j6_I go ah op) (lbB jz0 4)) (f := 4) (by decide) lb_4) rfl rfl rfl rfl rfl (by omega) (Nat.le_of_ble_eq_true rfl) ?_
  refine jj_eq (hh := jj_m (mo_ballS (j6_I go ah op) (lbB jz0 5))) rfl rfl rfl rfl ?_
  refine jj_aload_n dX7_init_155 rfl ?_
  refine jj_iconst (v := 5) dX7_init_156 (by decide) ?_
  refine jj_sipush (v := 18849) dX7_init_157 (by decide) ?_
  refine jj_callV (M2 := m7_lay) dX7_init_160 ml7_55 tm7_lay (ev7_lay (s := mo_ballS (j6_I go ah op) (lbB jz0 5)) (f := 5) (by decide) lb_5) rfl rfl rfl rfl rfl (by omega) (Nat.le_of_ble_eq_true rfl) ?_
  refine jj_eq (hh := jj_m (mo_ballS (j6_I go ah op) (lbB jz0 6))) rfl rfl rfl rfl ?_
  refine jj_aload_n dX7_init_163 rfl ?_
  refine jj_bipush (v := 6) dX7_init_164 (by decide) ?_
  refine jj_ldc dX7_init_166 kc7_59 ?_
  refine jj_callV (M2 := m7_lay) dX7_init_168 ml7_55 tm7_lay (ev7_lay (s := mo_ballS (j6_I go ah op) (lbB jz0 6)) (f := 6) (by decide) lb_6) rfl rfl rfl rfl rfl (by omega) (Nat.le_of_ble_eq_true rfl) ?_
  refine jj_eq (hh := jj_m (mo_ballS (j6_I go ah op) (lbB jz0 7))) rfl rfl rfl rfl ?_
  refine jj_aload_n dX7_init_171 rfl ?_
  refine jj_bipush (v := 7) dX7_init_172 (by decide) ?_
  refine jj_ldc dX7_init_174 kc7_60 ?_
  refine jj_callV (M2 := m7_lay) dX7_init_176 ml7_55 tm7_lay (ev7_lay (s := mo_ballS (j6_I go ah op) (lbB jz0 7)) (f := 7) (by decide) lb_7) rfl rfl rfl rfl rfl (by omega) (Nat.le_of_ble_eq_true rfl) ?_
  refine jj_eq (hh := jj_m (mo_ballS (j6_I go ah op) (lbB jz0 8))) rfl rfl rfl rfl ?_
  refine jj_aload_n dX7_init_179 rfl ?_
  refine jj_bipush (v := 8) dX7_init_180 (by decide) ?_
  refine jj_ldc dX7_init_182 kc7_61 ?_
  refine jj_callV (M2 := m7_lay) dX7_init_184 ml7_55 tm7_lay (ev7_lay (s := mo_ballS (j6_I go ah op) (lbB jz0 8)) (f := 8) (by decide) lb_8) rfl rfl rfl rfl rfl (by omega) (Nat.le_of_ble_eq_true rfl) ?_
  refine jj_eq (hh := jj_m (mo_ballS (j6_I go ah op) (lbB jz0 9))) rfl rfl rfl rfl ?_
  refine jj_aload_n dX7_init_187 rfl ?_
  refine jj_bipush (v := 9) dX7_init_188 (by decide) ?_
  refine jj_ldc dX7_init_190 kc7_62 ?_
  refine jj_callV (M2 := m7_lay) dX7_init_192 ml7_55 tm7_lay (ev7_lay (s := mo_ballS (j6_I go ah op) (lbB jz0 9)) (f := 9) (by decide) lb_9) rfl rfl rfl rfl rfl (by omega) (Nat.le_of_ble_eq_true rfl) ?_
  refine jj_eq (hh := jj_m (mo_ballS (j6_I go ah op) (lbB jz0 10))) rfl rfl rfl rfl ?_
  refine jj_aload_n dX7_init_195 rfl ?_
  refine jj_bipush (v := 10) dX7_init_196 (by decide) ?_
  refine jj_ldc dX7_init_198 kc7_63 ?_
  refine jj_callV (M2 := m7_lay) dX7_init_200 ml7_55 tm7_lay (ev7_lay (s := mo_ballS (j6_I go ah op) (lbB jz0 10)) (f := 10) (by decide) lb_10) rfl rfl rfl rfl rfl (by omega) (Nat.le_of_ble_eq_true rfl) ?_
  refine jj_eq (hh := jj_m (mo_ballS (j6_I go ah op) (lbB jz0 11))) rfl rfl rfl rfl ?_
  refine jj_aload_n dX7_init_203 rfl ?_
  refine jj_bipush (v := 11) dX7_init_204 (by decide) ?_
  refine jj_ldc dX7_init_206 kc7_64 ?_
  refine jj_callV (M2 := m7_lay) dX7_init_208 ml7_55 tm7_lay (ev7_lay (s := mo_ballS (j6_I go ah op) (lbB jz0 11)) (f := 11) (by decide) lb_11) rfl rfl rfl rfl rfl (by omega) (Nat.le_of_ble_eq_true rfl) ?_
  refine jj_eq (hh := jj_m (mo_ballS (j6_I go ah op) (lbB jz0 12))) rfl rfl rfl rfl ?_
  exact jj_leaf dX7_init_211 rfl rfl
theorem hp28_e : [.inl (5, [.ref 1, .ref 6, .ref 9, .ref 13, .ref 16, .ref 19, .ref 22, .ref 25]), .inl (2, [.ref 2, .int 0, .int 0, .int 0, .ref 3, .ref 4, .ref 5, .int 0]), .inr (.inl (jv 200 jz0)), .inr (.inl (jv 12 jz0)), .inr (.inl (jv 12 jz0)), .inr (.inl (jv 12 jz0)), .inl (3, [.ref 7, .ref 8]), .inr (.inl (jv 720 (lgG 60))), .inr (.inl (jv 12 (lgA 60))), .inl (4, [.ref 10, .ref 11, .ref 12, .int 0, .int 0, .int 0, .int 0, .int 0, .int 0]), .inr (.inl (jv 12 (jF (fun f => nI (jb_al f)) jz0 12))), .inr (.inl (jv 12 jz0)), .inr (.inl (jv 12 jz0)), .inl (1, [.ref 14, .ref 15]), .inr (.inr (.inr (jv 12 jzl))), .inr (.inr (.inr (jv 12 jzl))), .inl (0, [.ref 17, .ref 18, .int 0, .int 0, .int 0, .int 0]), .inr (.inl (jv 12 jz0)), .inr (.inl (jv 12 jz0)), .inl (0, [.ref 20, .ref 21, .int 0, .int 0, .int 0, .int 0]), .inr (.inl (jv 12 jz0)), .inr (.inl (jv 12 jz0)), .inl (0, [.ref 23, .ref 24, .int 0, .int 0, .int 0, .int 0]), .inr (.inl (jv 12 jz0)), .inr (.inl (jv 12 jz0)), .inl (0, [.ref 26, .ref 27, .int 0, .int 0, .int 0, .int 0]), .inr (.inl (jv 12 jz0)), .inr (.inl (jv 12 jz0))] = hp28 (lgG 60) (lgA 60) (jF (fun f => nI (jb_al f)) jz0 12) := rfl
