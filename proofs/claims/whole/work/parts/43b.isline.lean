/-! THE MODEL: a line read -/
theorem j7_c0 : lg_cmp (86870255 : Int64) 86870255 = 0 := j2_c0 rfl
theorem j7_c0_1 : ¬ lg_cmp (86870255 : Int64) 12384299 = 0 := fun e => absurd (j2_c1 e) (by decide)
theorem j7_c0_2 : ¬ lg_cmp (86870255 : Int64) 439970 = 0 := fun e => absurd (j2_c1 e) (by decide)
theorem j7_c0_3 : ¬ lg_cmp (86870255 : Int64) 456690 = 0 := fun e => absurd (j2_c1 e) (by decide)
theorem j7_c0_4 : ¬ lg_cmp (86870255 : Int64) 453774 = 0 := fun e => absurd (j2_c1 e) (by decide)
theorem j7_c0_5 : ¬ lg_cmp (86870255 : Int64) 139055 = 0 := fun e => absurd (j2_c1 e) (by decide)
theorem j7_c0_6 : ¬ lg_cmp (86870255 : Int64) 10492150 = 0 := fun e => absurd (j2_c1 e) (by decide)
theorem j7_c0_7 : ¬ lg_cmp (86870255 : Int64) 405230 = 0 := fun e => absurd (j2_c1 e) (by decide)
theorem j7_c1 : lg_cmp (12384299 : Int64) 12384299 = 0 := j2_c0 rfl
theorem j7_c1_0 : ¬ lg_cmp (12384299 : Int64) 86870255 = 0 := fun e => absurd (j2_c1 e) (by decide)
theorem j7_c1_2 : ¬ lg_cmp (12384299 : Int64) 439970 = 0 := fun e => absurd (j2_c1 e) (by decide)
theorem j7_c1_3 : ¬ lg_cmp (12384299 : Int64) 456690 = 0 := fun e => absurd (j2_c1 e) (by decide)
theorem j7_c1_4 : ¬ lg_cmp (12384299 : Int64) 453774 = 0 := fun e => absurd (j2_c1 e) (by decide)
theorem j7_c1_5 : ¬ lg_cmp (12384299 : Int64) 139055 = 0 := fun e => absurd (j2_c1 e) (by decide)
theorem j7_c1_6 : ¬ lg_cmp (12384299 : Int64) 10492150 = 0 := fun e => absurd (j2_c1 e) (by decide)
theorem j7_c1_7 : ¬ lg_cmp (12384299 : Int64) 405230 = 0 := fun e => absurd (j2_c1 e) (by decide)
theorem j7_c2 : lg_cmp (439970 : Int64) 439970 = 0 := j2_c0 rfl
theorem j7_c2_0 : ¬ lg_cmp (439970 : Int64) 86870255 = 0 := fun e => absurd (j2_c1 e) (by decide)
theorem j7_c2_1 : ¬ lg_cmp (439970 : Int64) 12384299 = 0 := fun e => absurd (j2_c1 e) (by decide)
theorem j7_c2_3 : ¬ lg_cmp (439970 : Int64) 456690 = 0 := fun e => absurd (j2_c1 e) (by decide)
theorem j7_c2_4 : ¬ lg_cmp (439970 : Int64) 453774 = 0 := fun e => absurd (j2_c1 e) (by decide)
theorem j7_c2_5 : ¬ lg_cmp (439970 : Int64) 139055 = 0 := fun e => absurd (j2_c1 e) (by decide)
theorem j7_c2_6 : ¬ lg_cmp (439970 : Int64) 10492150 = 0 := fun e => absurd (j2_c1 e) (by decide)
theorem j7_c2_7 : ¬ lg_cmp (439970 : Int64) 405230 = 0 := fun e => absurd (j2_c1 e) (by decide)
theorem j7_c3 : lg_cmp (456690 : Int64) 456690 = 0 := j2_c0 rfl
theorem j7_c3_0 : ¬ lg_cmp (456690 : Int64) 86870255 = 0 := fun e => absurd (j2_c1 e) (by decide)
theorem j7_c3_1 : ¬ lg_cmp (456690 : Int64) 12384299 = 0 := fun e => absurd (j2_c1 e) (by decide)
theorem j7_c3_2 : ¬ lg_cmp (456690 : Int64) 439970 = 0 := fun e => absurd (j2_c1 e) (by decide)
theorem j7_c3_4 : ¬ lg_cmp (456690 : Int64) 453774 = 0 := fun e => absurd (j2_c1 e) (by decide)
theorem j7_c3_5 : ¬ lg_cmp (456690 : Int64) 139055 = 0 := fun e => absurd (j2_c1 e) (by decide)
theorem j7_c3_6 : ¬ lg_cmp (456690 : Int64) 10492150 = 0 := fun e => absurd (j2_c1 e) (by decide)
theorem j7_c3_7 : ¬ lg_cmp (456690 : Int64) 405230 = 0 := fun e => absurd (j2_c1 e) (by decide)
theorem j7_c4 : lg_cmp (453774 : Int64) 453774 = 0 := j2_c0 rfl
theorem j7_c4_0 : ¬ lg_cmp (453774 : Int64) 86870255 = 0 := fun e => absurd (j2_c1 e) (by decide)
theorem j7_c4_1 : ¬ lg_cmp (453774 : Int64) 12384299 = 0 := fun e => absurd (j2_c1 e) (by decide)
theorem j7_c4_2 : ¬ lg_cmp (453774 : Int64) 439970 = 0 := fun e => absurd (j2_c1 e) (by decide)
theorem j7_c4_3 : ¬ lg_cmp (453774 : Int64) 456690 = 0 := fun e => absurd (j2_c1 e) (by decide)
theorem j7_c4_5 : ¬ lg_cmp (453774 : Int64) 139055 = 0 := fun e => absurd (j2_c1 e) (by decide)
theorem j7_c4_6 : ¬ lg_cmp (453774 : Int64) 10492150 = 0 := fun e => absurd (j2_c1 e) (by decide)
theorem j7_c4_7 : ¬ lg_cmp (453774 : Int64) 405230 = 0 := fun e => absurd (j2_c1 e) (by decide)
theorem j7_c5 : lg_cmp (139055 : Int64) 139055 = 0 := j2_c0 rfl
theorem j7_c5_0 : ¬ lg_cmp (139055 : Int64) 86870255 = 0 := fun e => absurd (j2_c1 e) (by decide)
theorem j7_c5_1 : ¬ lg_cmp (139055 : Int64) 12384299 = 0 := fun e => absurd (j2_c1 e) (by decide)
theorem j7_c5_2 : ¬ lg_cmp (139055 : Int64) 439970 = 0 := fun e => absurd (j2_c1 e) (by decide)
theorem j7_c5_3 : ¬ lg_cmp (139055 : Int64) 456690 = 0 := fun e => absurd (j2_c1 e) (by decide)
theorem j7_c5_4 : ¬ lg_cmp (139055 : Int64) 453774 = 0 := fun e => absurd (j2_c1 e) (by decide)
theorem j7_c5_6 : ¬ lg_cmp (139055 : Int64) 10492150 = 0 := fun e => absurd (j2_c1 e) (by decide)
theorem j7_c5_7 : ¬ lg_cmp (139055 : Int64) 405230 = 0 := fun e => absurd (j2_c1 e) (by decide)
theorem j7_c6 : lg_cmp (10492150 : Int64) 10492150 = 0 := j2_c0 rfl
theorem j7_c6_0 : ¬ lg_cmp (10492150 : Int64) 86870255 = 0 := fun e => absurd (j2_c1 e) (by decide)
theorem j7_c6_1 : ¬ lg_cmp (10492150 : Int64) 12384299 = 0 := fun e => absurd (j2_c1 e) (by decide)
theorem j7_c6_2 : ¬ lg_cmp (10492150 : Int64) 439970 = 0 := fun e => absurd (j2_c1 e) (by decide)
theorem j7_c6_3 : ¬ lg_cmp (10492150 : Int64) 456690 = 0 := fun e => absurd (j2_c1 e) (by decide)
theorem j7_c6_4 : ¬ lg_cmp (10492150 : Int64) 453774 = 0 := fun e => absurd (j2_c1 e) (by decide)
theorem j7_c6_5 : ¬ lg_cmp (10492150 : Int64) 139055 = 0 := fun e => absurd (j2_c1 e) (by decide)
theorem j7_c6_7 : ¬ lg_cmp (10492150 : Int64) 405230 = 0 := fun e => absurd (j2_c1 e) (by decide)
theorem j7_c7 : lg_cmp (405230 : Int64) 405230 = 0 := j2_c0 rfl
theorem j7_c7_0 : ¬ lg_cmp (405230 : Int64) 86870255 = 0 := fun e => absurd (j2_c1 e) (by decide)
theorem j7_c7_1 : ¬ lg_cmp (405230 : Int64) 12384299 = 0 := fun e => absurd (j2_c1 e) (by decide)
theorem j7_c7_2 : ¬ lg_cmp (405230 : Int64) 439970 = 0 := fun e => absurd (j2_c1 e) (by decide)
theorem j7_c7_3 : ¬ lg_cmp (405230 : Int64) 456690 = 0 := fun e => absurd (j2_c1 e) (by decide)
theorem j7_c7_4 : ¬ lg_cmp (405230 : Int64) 453774 = 0 := fun e => absurd (j2_c1 e) (by decide)
theorem j7_c7_5 : ¬ lg_cmp (405230 : Int64) 139055 = 0 := fun e => absurd (j2_c1 e) (by decide)
theorem j7_c7_6 : ¬ lg_cmp (405230 : Int64) 10492150 = 0 := fun e => absurd (j2_c1 e) (by decide)
set_option maxRecDepth 100000 in
set_option maxHeartbeats 2000000 in
theorem ev7_isLine_8 {G : jj_G} {s : jj_S} {L : Nat} {X : jx_X} {Y : jx_X} {w : Nat} (hb : mb_ok s) (hL : L ≤ 200) (hw : w < 34) (hY : jj_Ev G m7_nextToken 1 [.ref 28] (jj_m (jx s L X)) 0 0 none (jj_m (jx s L Y))) (hYl : Y.1 ≤ L) (hno : ∀ j, j < 8 → ¬ Y.2.2.1 = jW j) : jj_Ev G m7_isLine 4 [.ref 28, .int (nI w)] (jj_m (jx s L X)) 0 0 (some (.int (jb_b ((jx_lw (mo_text s) L (jx_r Y w (-1)) w 8).1 = true)))) (jj_m (jx s L (jx_lw (mo_text s) L (jx_r Y w (-1)) w 8).2)) := by
  refine jj_Ev_of (lo := [some (.ref 28), some (.int (nI w)), none, none]) (by decide +kernel) (Nat.le_of_ble_eq_true rfl) rfl (jb_b01 _) ?_
  have hZl : (jx_r Y w (-1)).1 ≤ L := hYl
  generalize hZ : jx_r Y w (-1) = Z at hZl ⊢
  generalize hT : Y.2.2.1 = T at hno
  have hno0 : ¬ lg_cmp T 86870255 = 0 := fun e => hno 0 (by decide) (j2_c1 e)
  have hno1 : ¬ lg_cmp T 12384299 = 0 := fun e => hno 1 (by decide) (j2_c1 e)
  have hno2 : ¬ lg_cmp T 439970 = 0 := fun e => hno 2 (by decide) (j2_c1 e)
  have hno3 : ¬ lg_cmp T 456690 = 0 := fun e => hno 3 (by decide) (j2_c1 e)
  have hno4 : ¬ lg_cmp T 453774 = 0 := fun e => hno 4 (by decide) (j2_c1 e)
  have hno5 : ¬ lg_cmp T 139055 = 0 := fun e => hno 5 (by decide) (j2_c1 e)
  have hno6 : ¬ lg_cmp T 10492150 = 0 := fun e => hno 6 (by decide) (j2_c1 e)
  have hno7 : ¬ lg_cmp T 405230 = 0 := fun e => hno 7 (by decide) (j2_c1 e)
  rw [show jx_lw (mo_text s) L Z w 8 = (false, jx_f Z) from rfl]
  refine jj_aload_n dX7_isLine_0 rfl ?_
  refine jj_callV (M2 := m7_nextToken) dX7_isLine_1 ml7_106 tm7_nextToken (hY) rfl rfl rfl rfl rfl (by omega) (Nat.le_of_ble_eq_true rfl) ?_
  refine jj_aload_n dX7_isLine_4 rfl ?_
  refine jj_getf dX7_isLine_5 fl7_89 rfl rfl ?_
  rw [show mo_tok (jx s L Y) = T from hT]
  refine jj_ldc2 dX7_isLine_8 kc7_121 ?_
  refine jj_lcmp dX7_isLine_11 rfl ?_
  refine jj_if_ne (tgt := 19) dX7_isLine_12 (by decide) (fun _ => ?_) (fun zz => absurd zz (hno0))
  refine jj_aload_n dX7_isLine_19 rfl ?_
  refine jj_getf dX7_isLine_20 fl7_89 rfl rfl ?_
  rw [show mo_tok (jx s L Y) = T from hT]
  refine jj_ldc2 dX7_isLine_23 kc7_123 ?_
  refine jj_lcmp dX7_isLine_26 rfl ?_
  refine jj_if_ne (tgt := 34) dX7_isLine_27 (by decide) (fun _ => ?_) (fun zz => absurd zz (hno1))
  refine jj_aload_n dX7_isLine_34 rfl ?_
  refine jj_getf dX7_isLine_35 fl7_89 rfl rfl ?_
  rw [show mo_tok (jx s L Y) = T from hT]
  refine jj_ldc2 dX7_isLine_38 kc7_125 ?_
  refine jj_lcmp dX7_isLine_41 rfl ?_
  refine jj_if_ne (tgt := 49) dX7_isLine_42 (by decide) (fun _ => ?_) (fun zz => absurd zz (hno2))
  refine jj_aload_n dX7_isLine_49 rfl ?_
  refine jj_getf dX7_isLine_50 fl7_89 rfl rfl ?_
  rw [show mo_tok (jx s L Y) = T from hT]
  refine jj_ldc2 dX7_isLine_53 kc7_127 ?_
  refine jj_lcmp dX7_isLine_56 rfl ?_
  refine jj_if_ne (tgt := 64) dX7_isLine_57 (by decide) (fun _ => ?_) (fun zz => absurd zz (hno3))
  refine jj_iconst (v := (-1)) dX7_isLine_64 (by decide) ?_
  refine jj_istore_n dX7_isLine_65 rfl (by decide) rfl ?_
  refine jj_aload_n dX7_isLine_66 rfl ?_
  refine jj_getf dX7_isLine_67 fl7_89 rfl rfl ?_
  rw [show mo_tok (jx s L Y) = T from hT]
  refine jj_ldc2 dX7_isLine_70 kc7_129 ?_
  refine jj_lcmp dX7_isLine_73 rfl ?_
  refine jj_if_ne (tgt := 81) dX7_isLine_74 (by decide) (fun _ => ?_) (fun zz => absurd zz (hno7))
  refine jj_aload_n dX7_isLine_81 rfl ?_
  refine jj_getf dX7_isLine_82 fl7_89 rfl rfl ?_
  rw [show mo_tok (jx s L Y) = T from hT]
  refine jj_ldc2 dX7_isLine_85 kc7_131 ?_
  refine jj_lcmp dX7_isLine_88 rfl ?_
  refine jj_if_ne (tgt := 96) dX7_isLine_89 (by decide) (fun _ => ?_) (fun zz => absurd zz (hno4))
  refine jj_aload_n dX7_isLine_96 rfl ?_
  refine jj_getf dX7_isLine_97 fl7_89 rfl rfl ?_
  rw [show mo_tok (jx s L Y) = T from hT]
  refine jj_ldc2 dX7_isLine_100 kc7_133 ?_
  refine jj_lcmp dX7_isLine_103 rfl ?_
  refine jj_if_ne (tgt := 112) dX7_isLine_104 (by decide) (fun _ => ?_) (fun zz => absurd zz (hno5))
  refine jj_aload_n dX7_isLine_112 rfl ?_
  refine jj_getf dX7_isLine_113 fl7_89 rfl rfl ?_
  rw [show mo_tok (jx s L Y) = T from hT]
  refine jj_ldc2 dX7_isLine_116 kc7_135 ?_
  refine jj_lcmp dX7_isLine_119 rfl ?_
  refine jj_if_ne (tgt := 128) dX7_isLine_120 (by decide) (fun _ => ?_) (fun zz => absurd zz (hno6))
  refine jj_iconst (v := (-1)) dX7_isLine_128 (by decide) ?_
  refine jj_istore_n dX7_isLine_129 rfl (by decide) rfl ?_
  refine jj_aload_n dX7_isLine_130 rfl ?_
  refine jj_getf dX7_isLine_131 fl7_26 rfl rfl ?_
  refine jj_iload_n dX7_isLine_134 rfl ?_
  refine jj_iload_n dX7_isLine_135 rfl ?_
  refine jj_iconst (v := (-1)) dX7_isLine_136 (by decide) ?_
  refine jj_icmp_ne (tgt := 144) dX7_isLine_137 (by decide) (fun zz => absurd rfl zz) (fun _ => ?_)
  refine jj_iload_n dX7_isLine_140 rfl ?_
  refine jj_goto (tgt := 145) dX7_isLine_141 (by decide) ?_
  refine jv_iast dX7_isLine_145 rfl (by omega) (by decide) rfl ?_
  refine jj_eq rfl rfl rfl (show _ = jj_m (jx s L Z) from by rw [← hZ]; rfl) ?_
  refine jj_aload_n dX7_isLine_146 rfl ?_
  refine jj_getf dX7_isLine_147 fl7_26 rfl rfl ?_
  refine jj_iload_n dX7_isLine_150 rfl ?_
  refine jv_iald dX7_isLine_151 rfl (by omega) (by decide) ?_
  rw [show mo_read (jx s L Z) w = (-1) from by rw [← hZ]; exact jU_at _ _ _]
  refine jj_swOut (tgt := 247) dX7_isLine_152 (by decide) (by decide) ?_
  refine jj_aload_n dX7_isLine_247 rfl ?_
  refine jj_callV (M2 := m7_fails) dX7_isLine_248 ml7_109 tm7_fails (ev7_fails (s := s) (L := L) (X := Z)) rfl rfl rfl rfl rfl (by omega) (Nat.le_of_ble_eq_true rfl) ?_
  exact jj_leaf dX7_isLine_251 rfl rfl
set_option maxRecDepth 100000 in
set_option maxHeartbeats 2000000 in
theorem ev7_isLine_0 {G : jj_G} {s : jj_S} {L : Nat} {X : jx_X} {Y : jx_X} {w : Nat} (hb : mb_ok s) (hL : L ≤ 200) (hw : w < 34) (hY : jj_Ev G m7_nextToken 1 [.ref 28] (jj_m (jx s L X)) 0 0 none (jj_m (jx s L Y))) (hYl : Y.1 ≤ L) (hyes : Y.2.2.1 = 86870255) : jj_Ev G m7_isLine 4 [.ref 28, .int (nI w)] (jj_m (jx s L X)) 0 0 (some (.int (jb_b ((jx_lw (mo_text s) L (jx_r Y w 0) w 0).1 = true)))) (jj_m (jx s L (jx_lw (mo_text s) L (jx_r Y w 0) w 0).2)) := by
  refine jj_Ev_of (lo := [some (.ref 28), some (.int (nI w)), none, none]) (by decide +kernel) (Nat.le_of_ble_eq_true rfl) rfl (jb_b01 _) ?_
  have hZl : (jx_r Y w 0).1 ≤ L := hYl
  generalize hZ : jx_r Y w 0 = Z at hZl ⊢
  rw [show jx_lw (mo_text s) L Z w 0 = (decide (¬ jx_a (mo_text s) L Z 11 = -1), jx_nm (mo_text s) L Z (w + 1) 11) from rfl]
  have i1 := (ev7_isNumber (G := G) (s := s) (X := Z) (w := w + 1) (b := 11) hL hZl (by omega) (by decide))
  rw [jb_b_iff (show ((decide (¬ jx_a (mo_text s) L Z 11 = -1), jx_nm (mo_text s) L Z (w + 1) 11) : Bool × jx_X).1 = true ↔ ¬ jx_a (mo_text s) L Z 11 = -1 from decide_eq_true_iff)]
  generalize jx_nm (mo_text s) L Z (w + 1) 11 = Z2 at i1 ⊢
  refine jj_aload_n dX7_isLine_0 rfl ?_
  refine jj_callV (M2 := m7_nextToken) dX7_isLine_1 ml7_106 tm7_nextToken (hY) rfl rfl rfl rfl rfl (by omega) (Nat.le_of_ble_eq_true rfl) ?_
  refine jj_aload_n dX7_isLine_4 rfl ?_
  refine jj_getf dX7_isLine_5 fl7_89 rfl rfl ?_
  rw [show mo_tok (jx s L Y) = 86870255 from hyes]
  refine jj_ldc2 dX7_isLine_8 kc7_121 ?_
  refine jj_lcmp dX7_isLine_11 rfl ?_
  refine jj_if_ne (tgt := 19) dX7_isLine_12 (by decide) (fun zz => absurd j7_c0 zz) (fun _ => ?_)
  refine jj_iconst (v := 0) dX7_isLine_15 (by decide) ?_
  refine jj_goto (tgt := 65) dX7_isLine_16 (by decide) ?_
  refine jj_istore_n dX7_isLine_65 rfl (by decide) rfl ?_
  refine jj_aload_n dX7_isLine_66 rfl ?_
  refine jj_getf dX7_isLine_67 fl7_89 rfl rfl ?_
  rw [show mo_tok (jx s L Y) = 86870255 from hyes]
  refine jj_ldc2 dX7_isLine_70 kc7_129 ?_
  refine jj_lcmp dX7_isLine_73 rfl ?_
  refine jj_if_ne (tgt := 81) dX7_isLine_74 (by decide) (fun _ => ?_) (fun zz => absurd zz j7_c0_7)
  refine jj_aload_n dX7_isLine_81 rfl ?_
  refine jj_getf dX7_isLine_82 fl7_89 rfl rfl ?_
  rw [show mo_tok (jx s L Y) = 86870255 from hyes]
  refine jj_ldc2 dX7_isLine_85 kc7_131 ?_
  refine jj_lcmp dX7_isLine_88 rfl ?_
  refine jj_if_ne (tgt := 96) dX7_isLine_89 (by decide) (fun _ => ?_) (fun zz => absurd zz j7_c0_4)
  refine jj_aload_n dX7_isLine_96 rfl ?_
  refine jj_getf dX7_isLine_97 fl7_89 rfl rfl ?_
  rw [show mo_tok (jx s L Y) = 86870255 from hyes]
  refine jj_ldc2 dX7_isLine_100 kc7_133 ?_
  refine jj_lcmp dX7_isLine_103 rfl ?_
  refine jj_if_ne (tgt := 112) dX7_isLine_104 (by decide) (fun _ => ?_) (fun zz => absurd zz j7_c0_5)
  refine jj_aload_n dX7_isLine_112 rfl ?_
  refine jj_getf dX7_isLine_113 fl7_89 rfl rfl ?_
  rw [show mo_tok (jx s L Y) = 86870255 from hyes]
  refine jj_ldc2 dX7_isLine_116 kc7_135 ?_
  refine jj_lcmp dX7_isLine_119 rfl ?_
  refine jj_if_ne (tgt := 128) dX7_isLine_120 (by decide) (fun _ => ?_) (fun zz => absurd zz j7_c0_6)
  refine jj_iconst (v := (-1)) dX7_isLine_128 (by decide) ?_
  refine jj_istore_n dX7_isLine_129 rfl (by decide) rfl ?_
  refine jj_aload_n dX7_isLine_130 rfl ?_
  refine jj_getf dX7_isLine_131 fl7_26 rfl rfl ?_
  refine jj_iload_n dX7_isLine_134 rfl ?_
  refine jj_iload_n dX7_isLine_135 rfl ?_
  refine jj_iconst (v := (-1)) dX7_isLine_136 (by decide) ?_
  refine jj_icmp_ne (tgt := 144) dX7_isLine_137 (by decide) (fun _ => ?_) (fun zz => absurd zz (by decide))
  refine jj_iload_n dX7_isLine_144 rfl ?_
  refine jv_iast dX7_isLine_145 rfl (by omega) (by decide) rfl ?_
  refine jj_eq rfl rfl rfl (show _ = jj_m (jx s L Z) from by rw [← hZ]; rfl) ?_
  refine jj_aload_n dX7_isLine_146 rfl ?_
  refine jj_getf dX7_isLine_147 fl7_26 rfl rfl ?_
  refine jj_iload_n dX7_isLine_150 rfl ?_
  refine jv_iald dX7_isLine_151 rfl (by omega) (by decide) ?_
  rw [show mo_read (jx s L Z) w = 0 from by rw [← hZ]; exact jU_at _ _ _]
  refine jj_swIn (tgt := 200) (off := 48) dX7_isLine_152 (by decide) (by decide) (by decide) (by decide) ?_
  refine jj_aload_n dX7_isLine_200 rfl ?_
  refine jj_iload_n dX7_isLine_201 rfl ?_
  refine jj_iconst (v := 1) dX7_isLine_202 (by decide) ?_
  refine jj_iadd (v := nI (w + 1)) dX7_isLine_203 (nI_add w 1) ?_
  refine jj_bipush (v := 11) dX7_isLine_204 (by decide) ?_
  refine jj_callV (M2 := m7_isNumber) dX7_isLine_206 ml7_113 tm7_isNumber (i1) rfl rfl rfl rfl rfl (by omega) (Nat.le_of_ble_eq_true rfl) ?_
  exact jj_leaf dX7_isLine_209 rfl rfl
set_option maxRecDepth 100000 in
set_option maxHeartbeats 2000000 in
theorem ev7_isLine_1 {G : jj_G} {s : jj_S} {L : Nat} {X : jx_X} {Y : jx_X} {w : Nat} (hb : mb_ok s) (hL : L ≤ 200) (hw : w < 34) (hY : jj_Ev G m7_nextToken 1 [.ref 28] (jj_m (jx s L X)) 0 0 none (jj_m (jx s L Y))) (hYl : Y.1 ≤ L) (hyes : Y.2.2.1 = 12384299) : jj_Ev G m7_isLine 4 [.ref 28, .int (nI w)] (jj_m (jx s L X)) 0 0 (some (.int (jb_b ((jx_lw (mo_text s) L (jx_r Y w 1) w 1).1 = true)))) (jj_m (jx s L (jx_lw (mo_text s) L (jx_r Y w 1) w 1).2)) := by
  refine jj_Ev_of (lo := [some (.ref 28), some (.int (nI w)), none, none]) (by decide +kernel) (Nat.le_of_ble_eq_true rfl) rfl (jb_b01 _) ?_
  have hZl : (jx_r Y w 1).1 ≤ L := hYl
  generalize hZ : jx_r Y w 1 = Z at hZl ⊢
  rw [show jx_lw (mo_text s) L Z w 1 = (decide (¬ jx_a (mo_text s) L Z 11 = -1), jx_nm (mo_text s) L Z (w + 1) 11) from rfl]
  have i1 := (ev7_isNumber (G := G) (s := s) (X := Z) (w := w + 1) (b := 11) hL hZl (by omega) (by decide))
  rw [jb_b_iff (show ((decide (¬ jx_a (mo_text s) L Z 11 = -1), jx_nm (mo_text s) L Z (w + 1) 11) : Bool × jx_X).1 = true ↔ ¬ jx_a (mo_text s) L Z 11 = -1 from decide_eq_true_iff)]
  generalize jx_nm (mo_text s) L Z (w + 1) 11 = Z2 at i1 ⊢
  refine jj_aload_n dX7_isLine_0 rfl ?_
  refine jj_callV (M2 := m7_nextToken) dX7_isLine_1 ml7_106 tm7_nextToken (hY) rfl rfl rfl rfl rfl (by omega) (Nat.le_of_ble_eq_true rfl) ?_
  refine jj_aload_n dX7_isLine_4 rfl ?_
  refine jj_getf dX7_isLine_5 fl7_89 rfl rfl ?_
  rw [show mo_tok (jx s L Y) = 12384299 from hyes]
  refine jj_ldc2 dX7_isLine_8 kc7_121 ?_
  refine jj_lcmp dX7_isLine_11 rfl ?_
  refine jj_if_ne (tgt := 19) dX7_isLine_12 (by decide) (fun _ => ?_) (fun zz => absurd zz j7_c1_0)
  refine jj_aload_n dX7_isLine_19 rfl ?_
  refine jj_getf dX7_isLine_20 fl7_89 rfl rfl ?_
  rw [show mo_tok (jx s L Y) = 12384299 from hyes]
  refine jj_ldc2 dX7_isLine_23 kc7_123 ?_
  refine jj_lcmp dX7_isLine_26 rfl ?_
  refine jj_if_ne (tgt := 34) dX7_isLine_27 (by decide) (fun zz => absurd j7_c1 zz) (fun _ => ?_)
  refine jj_iconst (v := 1) dX7_isLine_30 (by decide) ?_
  refine jj_goto (tgt := 65) dX7_isLine_31 (by decide) ?_
  refine jj_istore_n dX7_isLine_65 rfl (by decide) rfl ?_
  refine jj_aload_n dX7_isLine_66 rfl ?_
  refine jj_getf dX7_isLine_67 fl7_89 rfl rfl ?_
  rw [show mo_tok (jx s L Y) = 12384299 from hyes]
  refine jj_ldc2 dX7_isLine_70 kc7_129 ?_
  refine jj_lcmp dX7_isLine_73 rfl ?_
  refine jj_if_ne (tgt := 81) dX7_isLine_74 (by decide) (fun _ => ?_) (fun zz => absurd zz j7_c1_7)
  refine jj_aload_n dX7_isLine_81 rfl ?_
  refine jj_getf dX7_isLine_82 fl7_89 rfl rfl ?_
  rw [show mo_tok (jx s L Y) = 12384299 from hyes]
  refine jj_ldc2 dX7_isLine_85 kc7_131 ?_
  refine jj_lcmp dX7_isLine_88 rfl ?_
  refine jj_if_ne (tgt := 96) dX7_isLine_89 (by decide) (fun _ => ?_) (fun zz => absurd zz j7_c1_4)
  refine jj_aload_n dX7_isLine_96 rfl ?_
  refine jj_getf dX7_isLine_97 fl7_89 rfl rfl ?_
  rw [show mo_tok (jx s L Y) = 12384299 from hyes]
  refine jj_ldc2 dX7_isLine_100 kc7_133 ?_
  refine jj_lcmp dX7_isLine_103 rfl ?_
  refine jj_if_ne (tgt := 112) dX7_isLine_104 (by decide) (fun _ => ?_) (fun zz => absurd zz j7_c1_5)
  refine jj_aload_n dX7_isLine_112 rfl ?_
  refine jj_getf dX7_isLine_113 fl7_89 rfl rfl ?_
  rw [show mo_tok (jx s L Y) = 12384299 from hyes]
  refine jj_ldc2 dX7_isLine_116 kc7_135 ?_
  refine jj_lcmp dX7_isLine_119 rfl ?_
  refine jj_if_ne (tgt := 128) dX7_isLine_120 (by decide) (fun _ => ?_) (fun zz => absurd zz j7_c1_6)
  refine jj_iconst (v := (-1)) dX7_isLine_128 (by decide) ?_
  refine jj_istore_n dX7_isLine_129 rfl (by decide) rfl ?_
  refine jj_aload_n dX7_isLine_130 rfl ?_
  refine jj_getf dX7_isLine_131 fl7_26 rfl rfl ?_
  refine jj_iload_n dX7_isLine_134 rfl ?_
  refine jj_iload_n dX7_isLine_135 rfl ?_
  refine jj_iconst (v := (-1)) dX7_isLine_136 (by decide) ?_
  refine jj_icmp_ne (tgt := 144) dX7_isLine_137 (by decide) (fun _ => ?_) (fun zz => absurd zz (by decide))
  refine jj_iload_n dX7_isLine_144 rfl ?_
  refine jv_iast dX7_isLine_145 rfl (by omega) (by decide) rfl ?_
  refine jj_eq rfl rfl rfl (show _ = jj_m (jx s L Z) from by rw [← hZ]; rfl) ?_
  refine jj_aload_n dX7_isLine_146 rfl ?_
  refine jj_getf dX7_isLine_147 fl7_26 rfl rfl ?_
  refine jj_iload_n dX7_isLine_150 rfl ?_
  refine jv_iald dX7_isLine_151 rfl (by omega) (by decide) ?_
  rw [show mo_read (jx s L Z) w = 1 from by rw [← hZ]; exact jU_at _ _ _]
  refine jj_swIn (tgt := 200) (off := 48) dX7_isLine_152 (by decide) (by decide) (by decide) (by decide) ?_
  refine jj_aload_n dX7_isLine_200 rfl ?_
  refine jj_iload_n dX7_isLine_201 rfl ?_
  refine jj_iconst (v := 1) dX7_isLine_202 (by decide) ?_
  refine jj_iadd (v := nI (w + 1)) dX7_isLine_203 (nI_add w 1) ?_
  refine jj_bipush (v := 11) dX7_isLine_204 (by decide) ?_
  refine jj_callV (M2 := m7_isNumber) dX7_isLine_206 ml7_113 tm7_isNumber (i1) rfl rfl rfl rfl rfl (by omega) (Nat.le_of_ble_eq_true rfl) ?_
  exact jj_leaf dX7_isLine_209 rfl rfl
set_option maxRecDepth 100000 in
set_option maxHeartbeats 2000000 in
theorem ev7_isLine_2 {G : jj_G} {s : jj_S} {L : Nat} {X : jx_X} {Y : jx_X} {w : Nat} (hb : mb_ok s) (hL : L ≤ 200) (hw : w < 34) (hY : jj_Ev G m7_nextToken 1 [.ref 28] (jj_m (jx s L X)) 0 0 none (jj_m (jx s L Y))) (hYl : Y.1 ≤ L) (hyes : Y.2.2.1 = 439970) : jj_Ev G m7_isLine 4 [.ref 28, .int (nI w)] (jj_m (jx s L X)) 0 0 (some (.int (jb_b ((jx_lw (mo_text s) L (jx_r Y w 2) w 2).1 = true)))) (jj_m (jx s L (jx_lw (mo_text s) L (jx_r Y w 2) w 2).2)) := by
  refine jj_Ev_of (lo := [some (.ref 28), some (.int (nI w)), none, none]) (by decide +kernel) (Nat.le_of_ble_eq_true rfl) rfl (jb_b01 _) ?_
  have hZl : (jx_r Y w 2).1 ≤ L := hYl
  generalize hZ : jx_r Y w 2 = Z at hZl ⊢
  rw [show jx_lw (mo_text s) L Z w 2 = (decide (¬ jx_a (mo_text s) L Z 11 = -1), jx_nm (mo_text s) L Z (w + 1) 11) from rfl]
  have i1 := (ev7_isNumber (G := G) (s := s) (X := Z) (w := w + 1) (b := 11) hL hZl (by omega) (by decide))
  rw [jb_b_iff (show ((decide (¬ jx_a (mo_text s) L Z 11 = -1), jx_nm (mo_text s) L Z (w + 1) 11) : Bool × jx_X).1 = true ↔ ¬ jx_a (mo_text s) L Z 11 = -1 from decide_eq_true_iff)]
  generalize jx_nm (mo_text s) L Z (w + 1) 11 = Z2 at i1 ⊢
  refine jj_aload_n dX7_isLine_0 rfl ?_
  refine jj_callV (M2 := m7_nextToken) dX7_isLine_1 ml7_106 tm7_nextToken (hY) rfl rfl rfl rfl rfl (by omega) (Nat.le_of_ble_eq_true rfl) ?_
  refine jj_aload_n dX7_isLine_4 rfl ?_
  refine jj_getf dX7_isLine_5 fl7_89 rfl rfl ?_
  rw [show mo_tok (jx s L Y) = 439970 from hyes]
  refine jj_ldc2 dX7_isLine_8 kc7_121 ?_
  refine jj_lcmp dX7_isLine_11 rfl ?_
  refine jj_if_ne (tgt := 19) dX7_isLine_12 (by decide) (fun _ => ?_) (fun zz => absurd zz j7_c2_0)
  refine jj_aload_n dX7_isLine_19 rfl ?_
  refine jj_getf dX7_isLine_20 fl7_89 rfl rfl ?_
  rw [show mo_tok (jx s L Y) = 439970 from hyes]
  refine jj_ldc2 dX7_isLine_23 kc7_123 ?_
  refine jj_lcmp dX7_isLine_26 rfl ?_
  refine jj_if_ne (tgt := 34) dX7_isLine_27 (by decide) (fun _ => ?_) (fun zz => absurd zz j7_c2_1)
  refine jj_aload_n dX7_isLine_34 rfl ?_
  refine jj_getf dX7_isLine_35 fl7_89 rfl rfl ?_
  rw [show mo_tok (jx s L Y) = 439970 from hyes]
  refine jj_ldc2 dX7_isLine_38 kc7_125 ?_
  refine jj_lcmp dX7_isLine_41 rfl ?_
  refine jj_if_ne (tgt := 49) dX7_isLine_42 (by decide) (fun zz => absurd j7_c2 zz) (fun _ => ?_)
  refine jj_iconst (v := 2) dX7_isLine_45 (by decide) ?_
  refine jj_goto (tgt := 65) dX7_isLine_46 (by decide) ?_
  refine jj_istore_n dX7_isLine_65 rfl (by decide) rfl ?_
  refine jj_aload_n dX7_isLine_66 rfl ?_
  refine jj_getf dX7_isLine_67 fl7_89 rfl rfl ?_
  rw [show mo_tok (jx s L Y) = 439970 from hyes]
  refine jj_ldc2 dX7_isLine_70 kc7_129 ?_
  refine jj_lcmp dX7_isLine_73 rfl ?_
  refine jj_if_ne (tgt := 81) dX7_isLine_74 (by decide) (fun _ => ?_) (fun zz => absurd zz j7_c2_7)
  refine jj_aload_n dX7_isLine_81 rfl ?_
  refine jj_getf dX7_isLine_82 fl7_89 rfl rfl ?_
  rw [show mo_tok (jx s L Y) = 439970 from hyes]
  refine jj_ldc2 dX7_isLine_85 kc7_131 ?_
  refine jj_lcmp dX7_isLine_88 rfl ?_
  refine jj_if_ne (tgt := 96) dX7_isLine_89 (by decide) (fun _ => ?_) (fun zz => absurd zz j7_c2_4)
  refine jj_aload_n dX7_isLine_96 rfl ?_
  refine jj_getf dX7_isLine_97 fl7_89 rfl rfl ?_
  rw [show mo_tok (jx s L Y) = 439970 from hyes]
  refine jj_ldc2 dX7_isLine_100 kc7_133 ?_
  refine jj_lcmp dX7_isLine_103 rfl ?_
  refine jj_if_ne (tgt := 112) dX7_isLine_104 (by decide) (fun _ => ?_) (fun zz => absurd zz j7_c2_5)
  refine jj_aload_n dX7_isLine_112 rfl ?_
  refine jj_getf dX7_isLine_113 fl7_89 rfl rfl ?_
  rw [show mo_tok (jx s L Y) = 439970 from hyes]
  refine jj_ldc2 dX7_isLine_116 kc7_135 ?_
  refine jj_lcmp dX7_isLine_119 rfl ?_
  refine jj_if_ne (tgt := 128) dX7_isLine_120 (by decide) (fun _ => ?_) (fun zz => absurd zz j7_c2_6)
  refine jj_iconst (v := (-1)) dX7_isLine_128 (by decide) ?_
  refine jj_istore_n dX7_isLine_129 rfl (by decide) rfl ?_
  refine jj_aload_n dX7_isLine_130 rfl ?_
  refine jj_getf dX7_isLine_131 fl7_26 rfl rfl ?_
  refine jj_iload_n dX7_isLine_134 rfl ?_
  refine jj_iload_n dX7_isLine_135 rfl ?_
  refine jj_iconst (v := (-1)) dX7_isLine_136 (by decide) ?_
  refine jj_icmp_ne (tgt := 144) dX7_isLine_137 (by decide) (fun _ => ?_) (fun zz => absurd zz (by decide))
  refine jj_iload_n dX7_isLine_144 rfl ?_
  refine jv_iast dX7_isLine_145 rfl (by omega) (by decide) rfl ?_
  refine jj_eq rfl rfl rfl (show _ = jj_m (jx s L Z) from by rw [← hZ]; rfl) ?_
  refine jj_aload_n dX7_isLine_146 rfl ?_
  refine jj_getf dX7_isLine_147 fl7_26 rfl rfl ?_
  refine jj_iload_n dX7_isLine_150 rfl ?_
  refine jv_iald dX7_isLine_151 rfl (by omega) (by decide) ?_
  rw [show mo_read (jx s L Z) w = 2 from by rw [← hZ]; exact jU_at _ _ _]
  refine jj_swIn (tgt := 200) (off := 48) dX7_isLine_152 (by decide) (by decide) (by decide) (by decide) ?_
  refine jj_aload_n dX7_isLine_200 rfl ?_
  refine jj_iload_n dX7_isLine_201 rfl ?_
  refine jj_iconst (v := 1) dX7_isLine_202 (by decide) ?_
  refine jj_iadd (v := nI (w + 1)) dX7_isLine_203 (nI_add w 1) ?_
  refine jj_bipush (v := 11) dX7_isLine_204 (by decide) ?_
  refine jj_callV (M2 := m7_isNumber) dX7_isLine_206 ml7_113 tm7_isNumber (i1) rfl rfl rfl rfl rfl (by omega) (Nat.le_of_ble_eq_true rfl) ?_
  exact jj_leaf dX7_isLine_209 rfl rfl
set_option maxRecDepth 100000 in
set_option maxHeartbeats 2000000 in
theorem ev7_isLine_3 {G : jj_G} {s : jj_S} {L : Nat} {X : jx_X} {Y : jx_X} {w : Nat} (hb : mb_ok s) (hL : L ≤ 200) (hw : w < 34) (hY : jj_Ev G m7_nextToken 1 [.ref 28] (jj_m (jx s L X)) 0 0 none (jj_m (jx s L Y))) (hYl : Y.1 ≤ L) (hyes : Y.2.2.1 = 456690) : jj_Ev G m7_isLine 4 [.ref 28, .int (nI w)] (jj_m (jx s L X)) 0 0 (some (.int (jb_b ((jx_lw (mo_text s) L (jx_r Y w 3) w 3).1 = true)))) (jj_m (jx s L (jx_lw (mo_text s) L (jx_r Y w 3) w 3).2)) := by
  refine jj_Ev_of (lo := [some (.ref 28), some (.int (nI w)), none, none]) (by decide +kernel) (Nat.le_of_ble_eq_true rfl) rfl (jb_b01 _) ?_
  have hZl : (jx_r Y w 3).1 ≤ L := hYl
  generalize hZ : jx_r Y w 3 = Z at hZl ⊢
  rw [show jx_lw (mo_text s) L Z w 3 = (decide (¬ jx_a (mo_text s) L Z 11 = -1), jx_nm (mo_text s) L Z (w + 1) 11) from rfl]
  have i1 := (ev7_isNumber (G := G) (s := s) (X := Z) (w := w + 1) (b := 11) hL hZl (by omega) (by decide))
  rw [jb_b_iff (show ((decide (¬ jx_a (mo_text s) L Z 11 = -1), jx_nm (mo_text s) L Z (w + 1) 11) : Bool × jx_X).1 = true ↔ ¬ jx_a (mo_text s) L Z 11 = -1 from decide_eq_true_iff)]
  generalize jx_nm (mo_text s) L Z (w + 1) 11 = Z2 at i1 ⊢
  refine jj_aload_n dX7_isLine_0 rfl ?_
  refine jj_callV (M2 := m7_nextToken) dX7_isLine_1 ml7_106 tm7_nextToken (hY) rfl rfl rfl rfl rfl (by omega) (Nat.le_of_ble_eq_true rfl) ?_
  refine jj_aload_n dX7_isLine_4 rfl ?_
  refine jj_getf dX7_isLine_5 fl7_89 rfl rfl ?_
  rw [show mo_tok (jx s L Y) = 456690 from hyes]
  refine jj_ldc2 dX7_isLine_8 kc7_121 ?_
  refine jj_lcmp dX7_isLine_11 rfl ?_
  refine jj_if_ne (tgt := 19) dX7_isLine_12 (by decide) (fun _ => ?_) (fun zz => absurd zz j7_c3_0)
  refine jj_aload_n dX7_isLine_19 rfl ?_
  refine jj_getf dX7_isLine_20 fl7_89 rfl rfl ?_
  rw [show mo_tok (jx s L Y) = 456690 from hyes]
  refine jj_ldc2 dX7_isLine_23 kc7_123 ?_
  refine jj_lcmp dX7_isLine_26 rfl ?_
  refine jj_if_ne (tgt := 34) dX7_isLine_27 (by decide) (fun _ => ?_) (fun zz => absurd zz j7_c3_1)
  refine jj_aload_n dX7_isLine_34 rfl ?_
  refine jj_getf dX7_isLine_35 fl7_89 rfl rfl ?_
  rw [show mo_tok (jx s L Y) = 456690 from hyes]
  refine jj_ldc2 dX7_isLine_38 kc7_125 ?_
  refine jj_lcmp dX7_isLine_41 rfl ?_
  refine jj_if_ne (tgt := 49) dX7_isLine_42 (by decide) (fun _ => ?_) (fun zz => absurd zz j7_c3_2)
  refine jj_aload_n dX7_isLine_49 rfl ?_
  refine jj_getf dX7_isLine_50 fl7_89 rfl rfl ?_
  rw [show mo_tok (jx s L Y) = 456690 from hyes]
  refine jj_ldc2 dX7_isLine_53 kc7_127 ?_
  refine jj_lcmp dX7_isLine_56 rfl ?_
  refine jj_if_ne (tgt := 64) dX7_isLine_57 (by decide) (fun zz => absurd j7_c3 zz) (fun _ => ?_)
  refine jj_iconst (v := 3) dX7_isLine_60 (by decide) ?_
  refine jj_goto (tgt := 65) dX7_isLine_61 (by decide) ?_
  refine jj_istore_n dX7_isLine_65 rfl (by decide) rfl ?_
  refine jj_aload_n dX7_isLine_66 rfl ?_
  refine jj_getf dX7_isLine_67 fl7_89 rfl rfl ?_
  rw [show mo_tok (jx s L Y) = 456690 from hyes]
  refine jj_ldc2 dX7_isLine_70 kc7_129 ?_
  refine jj_lcmp dX7_isLine_73 rfl ?_
  refine jj_if_ne (tgt := 81) dX7_isLine_74 (by decide) (fun _ => ?_) (fun zz => absurd zz j7_c3_7)
  refine jj_aload_n dX7_isLine_81 rfl ?_
  refine jj_getf dX7_isLine_82 fl7_89 rfl rfl ?_
  rw [show mo_tok (jx s L Y) = 456690 from hyes]
  refine jj_ldc2 dX7_isLine_85 kc7_131 ?_
  refine jj_lcmp dX7_isLine_88 rfl ?_
  refine jj_if_ne (tgt := 96) dX7_isLine_89 (by decide) (fun _ => ?_) (fun zz => absurd zz j7_c3_4)
  refine jj_aload_n dX7_isLine_96 rfl ?_
  refine jj_getf dX7_isLine_97 fl7_89 rfl rfl ?_
  rw [show mo_tok (jx s L Y) = 456690 from hyes]
  refine jj_ldc2 dX7_isLine_100 kc7_133 ?_
  refine jj_lcmp dX7_isLine_103 rfl ?_
  refine jj_if_ne (tgt := 112) dX7_isLine_104 (by decide) (fun _ => ?_) (fun zz => absurd zz j7_c3_5)
  refine jj_aload_n dX7_isLine_112 rfl ?_
  refine jj_getf dX7_isLine_113 fl7_89 rfl rfl ?_
  rw [show mo_tok (jx s L Y) = 456690 from hyes]
  refine jj_ldc2 dX7_isLine_116 kc7_135 ?_
  refine jj_lcmp dX7_isLine_119 rfl ?_
  refine jj_if_ne (tgt := 128) dX7_isLine_120 (by decide) (fun _ => ?_) (fun zz => absurd zz j7_c3_6)
  refine jj_iconst (v := (-1)) dX7_isLine_128 (by decide) ?_
  refine jj_istore_n dX7_isLine_129 rfl (by decide) rfl ?_
  refine jj_aload_n dX7_isLine_130 rfl ?_
  refine jj_getf dX7_isLine_131 fl7_26 rfl rfl ?_
  refine jj_iload_n dX7_isLine_134 rfl ?_
  refine jj_iload_n dX7_isLine_135 rfl ?_
  refine jj_iconst (v := (-1)) dX7_isLine_136 (by decide) ?_
  refine jj_icmp_ne (tgt := 144) dX7_isLine_137 (by decide) (fun _ => ?_) (fun zz => absurd zz (by decide))
  refine jj_iload_n dX7_isLine_144 rfl ?_
  refine jv_iast dX7_isLine_145 rfl (by omega) (by decide) rfl ?_
  refine jj_eq rfl rfl rfl (show _ = jj_m (jx s L Z) from by rw [← hZ]; rfl) ?_
  refine jj_aload_n dX7_isLine_146 rfl ?_
  refine jj_getf dX7_isLine_147 fl7_26 rfl rfl ?_
  refine jj_iload_n dX7_isLine_150 rfl ?_
  refine jv_iald dX7_isLine_151 rfl (by omega) (by decide) ?_
  rw [show mo_read (jx s L Z) w = 3 from by rw [← hZ]; exact jU_at _ _ _]
  refine jj_swIn (tgt := 200) (off := 48) dX7_isLine_152 (by decide) (by decide) (by decide) (by decide) ?_
  refine jj_aload_n dX7_isLine_200 rfl ?_
  refine jj_iload_n dX7_isLine_201 rfl ?_
  refine jj_iconst (v := 1) dX7_isLine_202 (by decide) ?_
  refine jj_iadd (v := nI (w + 1)) dX7_isLine_203 (nI_add w 1) ?_
  refine jj_bipush (v := 11) dX7_isLine_204 (by decide) ?_
  refine jj_callV (M2 := m7_isNumber) dX7_isLine_206 ml7_113 tm7_isNumber (i1) rfl rfl rfl rfl rfl (by omega) (Nat.le_of_ble_eq_true rfl) ?_
  exact jj_leaf dX7_isLine_209 rfl rfl
set_option maxRecDepth 100000 in
set_option maxHeartbeats 2000000 in
theorem ev7_isLine_6 {G : jj_G} {s : jj_S} {L : Nat} {X : jx_X} {Y : jx_X} {w : Nat} (hb : mb_ok s) (hL : L ≤ 200) (hw : w < 34) (hY : jj_Ev G m7_nextToken 1 [.ref 28] (jj_m (jx s L X)) 0 0 none (jj_m (jx s L Y))) (hYl : Y.1 ≤ L) (hyes : Y.2.2.1 = 10492150) : jj_Ev G m7_isLine 4 [.ref 28, .int (nI w)] (jj_m (jx s L X)) 0 0 (some (.int (jb_b ((jx_lw (mo_text s) L (jx_r Y w 7) w 6).1 = true)))) (jj_m (jx s L (jx_lw (mo_text s) L (jx_r Y w 7) w 6).2)) := by
  refine jj_Ev_of (lo := [some (.ref 28), some (.int (nI w)), none, none]) (by decide +kernel) (Nat.le_of_ble_eq_true rfl) rfl (jb_b01 _) ?_
  have hZl : (jx_r Y w 7).1 ≤ L := hYl
  generalize hZ : jx_r Y w 7 = Z at hZl ⊢
  rw [show jx_lw (mo_text s) L Z w 6 = jx_st (mo_text s) L Z w from rfl]
  unfold jx_st
  by_cases z1 : jx_a (mo_text s) L Z 11 = -1
  · have i1 := (ev7_isNumber_f (G := G) (s := s) (X := Z) (w := w + 1) (b := 11) hL hZl (by omega) (by decide) z1)
    rw [if_pos z1]
    generalize jx_nm (mo_text s) L Z (w + 1) 11 = X1 at i1 ⊢
    refine jj_aload_n dX7_isLine_0 rfl ?_
    refine jj_callV (M2 := m7_nextToken) dX7_isLine_1 ml7_106 tm7_nextToken (hY) rfl rfl rfl rfl rfl (by omega) (Nat.le_of_ble_eq_true rfl) ?_
    refine jj_aload_n dX7_isLine_4 rfl ?_
    refine jj_getf dX7_isLine_5 fl7_89 rfl rfl ?_
    rw [show mo_tok (jx s L Y) = 10492150 from hyes]
    refine jj_ldc2 dX7_isLine_8 kc7_121 ?_
    refine jj_lcmp dX7_isLine_11 rfl ?_
    refine jj_if_ne (tgt := 19) dX7_isLine_12 (by decide) (fun _ => ?_) (fun zz => absurd zz j7_c6_0)
    refine jj_aload_n dX7_isLine_19 rfl ?_
    refine jj_getf dX7_isLine_20 fl7_89 rfl rfl ?_
    rw [show mo_tok (jx s L Y) = 10492150 from hyes]
    refine jj_ldc2 dX7_isLine_23 kc7_123 ?_
    refine jj_lcmp dX7_isLine_26 rfl ?_
    refine jj_if_ne (tgt := 34) dX7_isLine_27 (by decide) (fun _ => ?_) (fun zz => absurd zz j7_c6_1)
    refine jj_aload_n dX7_isLine_34 rfl ?_
    refine jj_getf dX7_isLine_35 fl7_89 rfl rfl ?_
    rw [show mo_tok (jx s L Y) = 10492150 from hyes]
    refine jj_ldc2 dX7_isLine_38 kc7_125 ?_
    refine jj_lcmp dX7_isLine_41 rfl ?_
    refine jj_if_ne (tgt := 49) dX7_isLine_42 (by decide) (fun _ => ?_) (fun zz => absurd zz j7_c6_2)
    refine jj_aload_n dX7_isLine_49 rfl ?_
    refine jj_getf dX7_isLine_50 fl7_89 rfl rfl ?_
    rw [show mo_tok (jx s L Y) = 10492150 from hyes]
    refine jj_ldc2 dX7_isLine_53 kc7_127 ?_
    refine jj_lcmp dX7_isLine_56 rfl ?_
    refine jj_if_ne (tgt := 64) dX7_isLine_57 (by decide) (fun _ => ?_) (fun zz => absurd zz j7_c6_3)
    refine jj_iconst (v := (-1)) dX7_isLine_64 (by decide) ?_
    refine jj_istore_n dX7_isLine_65 rfl (by decide) rfl ?_
    refine jj_aload_n dX7_isLine_66 rfl ?_
    refine jj_getf dX7_isLine_67 fl7_89 rfl rfl ?_
    rw [show mo_tok (jx s L Y) = 10492150 from hyes]
    refine jj_ldc2 dX7_isLine_70 kc7_129 ?_
    refine jj_lcmp dX7_isLine_73 rfl ?_
    refine jj_if_ne (tgt := 81) dX7_isLine_74 (by decide) (fun _ => ?_) (fun zz => absurd zz j7_c6_7)
    refine jj_aload_n dX7_isLine_81 rfl ?_
    refine jj_getf dX7_isLine_82 fl7_89 rfl rfl ?_
    rw [show mo_tok (jx s L Y) = 10492150 from hyes]
    refine jj_ldc2 dX7_isLine_85 kc7_131 ?_
    refine jj_lcmp dX7_isLine_88 rfl ?_
    refine jj_if_ne (tgt := 96) dX7_isLine_89 (by decide) (fun _ => ?_) (fun zz => absurd zz j7_c6_4)
    refine jj_aload_n dX7_isLine_96 rfl ?_
    refine jj_getf dX7_isLine_97 fl7_89 rfl rfl ?_
    rw [show mo_tok (jx s L Y) = 10492150 from hyes]
    refine jj_ldc2 dX7_isLine_100 kc7_133 ?_
    refine jj_lcmp dX7_isLine_103 rfl ?_
    refine jj_if_ne (tgt := 112) dX7_isLine_104 (by decide) (fun _ => ?_) (fun zz => absurd zz j7_c6_5)
    refine jj_aload_n dX7_isLine_112 rfl ?_
    refine jj_getf dX7_isLine_113 fl7_89 rfl rfl ?_
    rw [show mo_tok (jx s L Y) = 10492150 from hyes]
    refine jj_ldc2 dX7_isLine_116 kc7_135 ?_
    refine jj_lcmp dX7_isLine_119 rfl ?_
    refine jj_if_ne (tgt := 128) dX7_isLine_120 (by decide) (fun zz => absurd j7_c6 zz) (fun _ => ?_)
    refine jj_bipush (v := 7) dX7_isLine_123 (by decide) ?_
    refine jj_goto (tgt := 129) dX7_isLine_125 (by decide) ?_
    refine jj_istore_n dX7_isLine_129 rfl (by decide) rfl ?_
    refine jj_aload_n dX7_isLine_130 rfl ?_
    refine jj_getf dX7_isLine_131 fl7_26 rfl rfl ?_
    refine jj_iload_n dX7_isLine_134 rfl ?_
    refine jj_iload_n dX7_isLine_135 rfl ?_
    refine jj_iconst (v := (-1)) dX7_isLine_136 (by decide) ?_
    refine jj_icmp_ne (tgt := 144) dX7_isLine_137 (by decide) (fun zz => absurd rfl zz) (fun _ => ?_)
    refine jj_iload_n dX7_isLine_140 rfl ?_
    refine jj_goto (tgt := 145) dX7_isLine_141 (by decide) ?_
    refine jv_iast dX7_isLine_145 rfl (by omega) (by decide) rfl ?_
    refine jj_eq rfl rfl rfl (show _ = jj_m (jx s L Z) from by rw [← hZ]; rfl) ?_
    refine jj_aload_n dX7_isLine_146 rfl ?_
    refine jj_getf dX7_isLine_147 fl7_26 rfl rfl ?_
    refine jj_iload_n dX7_isLine_150 rfl ?_
    refine jv_iald dX7_isLine_151 rfl (by omega) (by decide) ?_
    rw [show mo_read (jx s L Z) w = 7 from by rw [← hZ]; exact jU_at _ _ _]
    refine jj_swIn (tgt := 218) (off := 66) dX7_isLine_152 (by decide) (by decide) (by decide) (by decide) ?_
    refine jj_aload_n dX7_isLine_218 rfl ?_
    refine jj_iload_n dX7_isLine_219 rfl ?_
    refine jj_iconst (v := 1) dX7_isLine_220 (by decide) ?_
    refine jj_iadd (v := nI (w + 1)) dX7_isLine_221 (nI_add w 1) ?_
    refine jj_bipush (v := 11) dX7_isLine_222 (by decide) ?_
    refine jj_callV (M2 := m7_isNumber) dX7_isLine_224 ml7_113 tm7_isNumber (i1) rfl rfl rfl rfl rfl (by omega) (Nat.le_of_ble_eq_true rfl) ?_
    refine jj_if_eq (tgt := 245) dX7_isLine_227 (by decide) (fun _ => ?_) (fun zz => absurd rfl zz)
    refine jj_iconst (v := 0) dX7_isLine_245 (by decide) ?_
    exact jj_leaf dX7_isLine_246 rfl rfl
  · have i1 := (ev7_isNumber_t (G := G) (s := s) (X := Z) (w := w + 1) (b := 11) hL hZl (by omega) (by decide) z1)
    have p1 := jx_nm_le (sg := mo_text s) (w + 1) 11 hZl
    rw [if_neg z1]
    generalize jx_nm (mo_text s) L Z (w + 1) 11 = X1 at i1 p1 ⊢
    by_cases z2 : jx_a (mo_text s) L X1 4 = -1
    · have i2 := (ev7_isNumber_f (G := G) (s := s) (X := X1) (w := w + 2) (b := 4) hL p1 (by omega) (by decide) z2)
      rw [decide_eq_false (fun q => q z2)]
      generalize jx_nm (mo_text s) L X1 (w + 2) 4 = X2 at i2 ⊢
      refine jj_aload_n dX7_isLine_0 rfl ?_
      refine jj_callV (M2 := m7_nextToken) dX7_isLine_1 ml7_106 tm7_nextToken (hY) rfl rfl rfl rfl rfl (by omega) (Nat.le_of_ble_eq_true rfl) ?_
      refine jj_aload_n dX7_isLine_4 rfl ?_
      refine jj_getf dX7_isLine_5 fl7_89 rfl rfl ?_
      rw [show mo_tok (jx s L Y) = 10492150 from hyes]
      refine jj_ldc2 dX7_isLine_8 kc7_121 ?_
      refine jj_lcmp dX7_isLine_11 rfl ?_
      refine jj_if_ne (tgt := 19) dX7_isLine_12 (by decide) (fun _ => ?_) (fun zz => absurd zz j7_c6_0)
      refine jj_aload_n dX7_isLine_19 rfl ?_
      refine jj_getf dX7_isLine_20 fl7_89 rfl rfl ?_
      rw [show mo_tok (jx s L Y) = 10492150 from hyes]
      refine jj_ldc2 dX7_isLine_23 kc7_123 ?_
      refine jj_lcmp dX7_isLine_26 rfl ?_
      refine jj_if_ne (tgt := 34) dX7_isLine_27 (by decide) (fun _ => ?_) (fun zz => absurd zz j7_c6_1)
      refine jj_aload_n dX7_isLine_34 rfl ?_
      refine jj_getf dX7_isLine_35 fl7_89 rfl rfl ?_
      rw [show mo_tok (jx s L Y) = 10492150 from hyes]
      refine jj_ldc2 dX7_isLine_38 kc7_125 ?_
      refine jj_lcmp dX7_isLine_41 rfl ?_
      refine jj_if_ne (tgt := 49) dX7_isLine_42 (by decide) (fun _ => ?_) (fun zz => absurd zz j7_c6_2)
      refine jj_aload_n dX7_isLine_49 rfl ?_
      refine jj_getf dX7_isLine_50 fl7_89 rfl rfl ?_
      rw [show mo_tok (jx s L Y) = 10492150 from hyes]
      refine jj_ldc2 dX7_isLine_53 kc7_127 ?_
      refine jj_lcmp dX7_isLine_56 rfl ?_
      refine jj_if_ne (tgt := 64) dX7_isLine_57 (by decide) (fun _ => ?_) (fun zz => absurd zz j7_c6_3)
      refine jj_iconst (v := (-1)) dX7_isLine_64 (by decide) ?_
      refine jj_istore_n dX7_isLine_65 rfl (by decide) rfl ?_
      refine jj_aload_n dX7_isLine_66 rfl ?_
      refine jj_getf dX7_isLine_67 fl7_89 rfl rfl ?_
      rw [show mo_tok (jx s L Y) = 10492150 from hyes]
      refine jj_ldc2 dX7_isLine_70 kc7_129 ?_
      refine jj_lcmp dX7_isLine_73 rfl ?_
      refine jj_if_ne (tgt := 81) dX7_isLine_74 (by decide) (fun _ => ?_) (fun zz => absurd zz j7_c6_7)
      refine jj_aload_n dX7_isLine_81 rfl ?_
      refine jj_getf dX7_isLine_82 fl7_89 rfl rfl ?_
      rw [show mo_tok (jx s L Y) = 10492150 from hyes]
      refine jj_ldc2 dX7_isLine_85 kc7_131 ?_
      refine jj_lcmp dX7_isLine_88 rfl ?_
      refine jj_if_ne (tgt := 96) dX7_isLine_89 (by decide) (fun _ => ?_) (fun zz => absurd zz j7_c6_4)
      refine jj_aload_n dX7_isLine_96 rfl ?_
      refine jj_getf dX7_isLine_97 fl7_89 rfl rfl ?_
      rw [show mo_tok (jx s L Y) = 10492150 from hyes]
      refine jj_ldc2 dX7_isLine_100 kc7_133 ?_
      refine jj_lcmp dX7_isLine_103 rfl ?_
      refine jj_if_ne (tgt := 112) dX7_isLine_104 (by decide) (fun _ => ?_) (fun zz => absurd zz j7_c6_5)
      refine jj_aload_n dX7_isLine_112 rfl ?_
      refine jj_getf dX7_isLine_113 fl7_89 rfl rfl ?_
      rw [show mo_tok (jx s L Y) = 10492150 from hyes]
      refine jj_ldc2 dX7_isLine_116 kc7_135 ?_
      refine jj_lcmp dX7_isLine_119 rfl ?_
      refine jj_if_ne (tgt := 128) dX7_isLine_120 (by decide) (fun zz => absurd j7_c6 zz) (fun _ => ?_)
      refine jj_bipush (v := 7) dX7_isLine_123 (by decide) ?_
      refine jj_goto (tgt := 129) dX7_isLine_125 (by decide) ?_
      refine jj_istore_n dX7_isLine_129 rfl (by decide) rfl ?_
      refine jj_aload_n dX7_isLine_130 rfl ?_
      refine jj_getf dX7_isLine_131 fl7_26 rfl rfl ?_
      refine jj_iload_n dX7_isLine_134 rfl ?_
      refine jj_iload_n dX7_isLine_135 rfl ?_
      refine jj_iconst (v := (-1)) dX7_isLine_136 (by decide) ?_
      refine jj_icmp_ne (tgt := 144) dX7_isLine_137 (by decide) (fun zz => absurd rfl zz) (fun _ => ?_)
      refine jj_iload_n dX7_isLine_140 rfl ?_
      refine jj_goto (tgt := 145) dX7_isLine_141 (by decide) ?_
      refine jv_iast dX7_isLine_145 rfl (by omega) (by decide) rfl ?_
      refine jj_eq rfl rfl rfl (show _ = jj_m (jx s L Z) from by rw [← hZ]; rfl) ?_
      refine jj_aload_n dX7_isLine_146 rfl ?_
      refine jj_getf dX7_isLine_147 fl7_26 rfl rfl ?_
      refine jj_iload_n dX7_isLine_150 rfl ?_
      refine jv_iald dX7_isLine_151 rfl (by omega) (by decide) ?_
      rw [show mo_read (jx s L Z) w = 7 from by rw [← hZ]; exact jU_at _ _ _]
      refine jj_swIn (tgt := 218) (off := 66) dX7_isLine_152 (by decide) (by decide) (by decide) (by decide) ?_
      refine jj_aload_n dX7_isLine_218 rfl ?_
      refine jj_iload_n dX7_isLine_219 rfl ?_
      refine jj_iconst (v := 1) dX7_isLine_220 (by decide) ?_
      refine jj_iadd (v := nI (w + 1)) dX7_isLine_221 (nI_add w 1) ?_
      refine jj_bipush (v := 11) dX7_isLine_222 (by decide) ?_
      refine jj_callV (M2 := m7_isNumber) dX7_isLine_224 ml7_113 tm7_isNumber (i1) rfl rfl rfl rfl rfl (by omega) (Nat.le_of_ble_eq_true rfl) ?_
      refine jj_if_eq (tgt := 245) dX7_isLine_227 (by decide) (fun zz => absurd zz (by decide)) (fun _ => ?_)
      refine jj_aload_n dX7_isLine_230 rfl ?_
      refine jj_iload_n dX7_isLine_231 rfl ?_
      refine jj_iconst (v := 2) dX7_isLine_232 (by decide) ?_
      refine jj_iadd (v := nI (w + 2)) dX7_isLine_233 (nI_add w 2) ?_
      refine jj_iconst (v := 4) dX7_isLine_234 (by decide) ?_
      refine jj_callV (M2 := m7_isNumber) dX7_isLine_235 ml7_113 tm7_isNumber (i2) rfl rfl rfl rfl rfl (by omega) (Nat.le_of_ble_eq_true rfl) ?_
      refine jj_if_eq (tgt := 245) dX7_isLine_238 (by decide) (fun _ => ?_) (fun zz => absurd rfl zz)
      refine jj_iconst (v := 0) dX7_isLine_245 (by decide) ?_
      exact jj_leaf dX7_isLine_246 rfl rfl
    · have i2 := (ev7_isNumber_t (G := G) (s := s) (X := X1) (w := w + 2) (b := 4) hL p1 (by omega) (by decide) z2)
      rw [decide_eq_true z2]
      generalize jx_nm (mo_text s) L X1 (w + 2) 4 = X2 at i2 ⊢
      refine jj_aload_n dX7_isLine_0 rfl ?_
      refine jj_callV (M2 := m7_nextToken) dX7_isLine_1 ml7_106 tm7_nextToken (hY) rfl rfl rfl rfl rfl (by omega) (Nat.le_of_ble_eq_true rfl) ?_
      refine jj_aload_n dX7_isLine_4 rfl ?_
      refine jj_getf dX7_isLine_5 fl7_89 rfl rfl ?_
      rw [show mo_tok (jx s L Y) = 10492150 from hyes]
      refine jj_ldc2 dX7_isLine_8 kc7_121 ?_
      refine jj_lcmp dX7_isLine_11 rfl ?_
      refine jj_if_ne (tgt := 19) dX7_isLine_12 (by decide) (fun _ => ?_) (fun zz => absurd zz j7_c6_0)
      refine jj_aload_n dX7_isLine_19 rfl ?_
      refine jj_getf dX7_isLine_20 fl7_89 rfl rfl ?_
      rw [show mo_tok (jx s L Y) = 10492150 from hyes]
      refine jj_ldc2 dX7_isLine_23 kc7_123 ?_
      refine jj_lcmp dX7_isLine_26 rfl ?_
      refine jj_if_ne (tgt := 34) dX7_isLine_27 (by decide) (fun _ => ?_) (fun zz => absurd zz j7_c6_1)
      refine jj_aload_n dX7_isLine_34 rfl ?_
      refine jj_getf dX7_isLine_35 fl7_89 rfl rfl ?_
      rw [show mo_tok (jx s L Y) = 10492150 from hyes]
      refine jj_ldc2 dX7_isLine_38 kc7_125 ?_
      refine jj_lcmp dX7_isLine_41 rfl ?_
      refine jj_if_ne (tgt := 49) dX7_isLine_42 (by decide) (fun _ => ?_) (fun zz => absurd zz j7_c6_2)
      refine jj_aload_n dX7_isLine_49 rfl ?_
      refine jj_getf dX7_isLine_50 fl7_89 rfl rfl ?_
      rw [show mo_tok (jx s L Y) = 10492150 from hyes]
      refine jj_ldc2 dX7_isLine_53 kc7_127 ?_
      refine jj_lcmp dX7_isLine_56 rfl ?_
      refine jj_if_ne (tgt := 64) dX7_isLine_57 (by decide) (fun _ => ?_) (fun zz => absurd zz j7_c6_3)
      refine jj_iconst (v := (-1)) dX7_isLine_64 (by decide) ?_
      refine jj_istore_n dX7_isLine_65 rfl (by decide) rfl ?_
      refine jj_aload_n dX7_isLine_66 rfl ?_
      refine jj_getf dX7_isLine_67 fl7_89 rfl rfl ?_
      rw [show mo_tok (jx s L Y) = 10492150 from hyes]
      refine jj_ldc2 dX7_isLine_70 kc7_129 ?_
      refine jj_lcmp dX7_isLine_73 rfl ?_
      refine jj_if_ne (tgt := 81) dX7_isLine_74 (by decide) (fun _ => ?_) (fun zz => absurd zz j7_c6_7)
      refine jj_aload_n dX7_isLine_81 rfl ?_
      refine jj_getf dX7_isLine_82 fl7_89 rfl rfl ?_
      rw [show mo_tok (jx s L Y) = 10492150 from hyes]
      refine jj_ldc2 dX7_isLine_85 kc7_131 ?_
      refine jj_lcmp dX7_isLine_88 rfl ?_
      refine jj_if_ne (tgt := 96) dX7_isLine_89 (by decide) (fun _ => ?_) (fun zz => absurd zz j7_c6_4)
      refine jj_aload_n dX7_isLine_96 rfl ?_
      refine jj_getf dX7_isLine_97 fl7_89 rfl rfl ?_
      rw [show mo_tok (jx s L Y) = 10492150 from hyes]
      refine jj_ldc2 dX7_isLine_100 kc7_133 ?_
      refine jj_lcmp dX7_isLine_103 rfl ?_
      refine jj_if_ne (tgt := 112) dX7_isLine_104 (by decide) (fun _ => ?_) (fun zz => absurd zz j7_c6_5)
      refine jj_aload_n dX7_isLine_112 rfl ?_
      refine jj_getf dX7_isLine_113 fl7_89 rfl rfl ?_
      rw [show mo_tok (jx s L Y) = 10492150 from hyes]
      refine jj_ldc2 dX7_isLine_116 kc7_135 ?_
      refine jj_lcmp dX7_isLine_119 rfl ?_
      refine jj_if_ne (tgt := 128) dX7_isLine_120 (by decide) (fun zz => absurd j7_c6 zz) (fun _ => ?_)
      refine jj_bipush (v := 7) dX7_isLine_123 (by decide) ?_
      refine jj_goto (tgt := 129) dX7_isLine_125 (by decide) ?_
      refine jj_istore_n dX7_isLine_129 rfl (by decide) rfl ?_
      refine jj_aload_n dX7_isLine_130 rfl ?_
      refine jj_getf dX7_isLine_131 fl7_26 rfl rfl ?_
      refine jj_iload_n dX7_isLine_134 rfl ?_
      refine jj_iload_n dX7_isLine_135 rfl ?_
      refine jj_iconst (v := (-1)) dX7_isLine_136 (by decide) ?_
      refine jj_icmp_ne (tgt := 144) dX7_isLine_137 (by decide) (fun zz => absurd rfl zz) (fun _ => ?_)
      refine jj_iload_n dX7_isLine_140 rfl ?_
      refine jj_goto (tgt := 145) dX7_isLine_141 (by decide) ?_
      refine jv_iast dX7_isLine_145 rfl (by omega) (by decide) rfl ?_
      refine jj_eq rfl rfl rfl (show _ = jj_m (jx s L Z) from by rw [← hZ]; rfl) ?_
      refine jj_aload_n dX7_isLine_146 rfl ?_
      refine jj_getf dX7_isLine_147 fl7_26 rfl rfl ?_
      refine jj_iload_n dX7_isLine_150 rfl ?_
      refine jv_iald dX7_isLine_151 rfl (by omega) (by decide) ?_
      rw [show mo_read (jx s L Z) w = 7 from by rw [← hZ]; exact jU_at _ _ _]
      refine jj_swIn (tgt := 218) (off := 66) dX7_isLine_152 (by decide) (by decide) (by decide) (by decide) ?_
      refine jj_aload_n dX7_isLine_218 rfl ?_
      refine jj_iload_n dX7_isLine_219 rfl ?_
      refine jj_iconst (v := 1) dX7_isLine_220 (by decide) ?_
      refine jj_iadd (v := nI (w + 1)) dX7_isLine_221 (nI_add w 1) ?_
      refine jj_bipush (v := 11) dX7_isLine_222 (by decide) ?_
      refine jj_callV (M2 := m7_isNumber) dX7_isLine_224 ml7_113 tm7_isNumber (i1) rfl rfl rfl rfl rfl (by omega) (Nat.le_of_ble_eq_true rfl) ?_
      refine jj_if_eq (tgt := 245) dX7_isLine_227 (by decide) (fun zz => absurd zz (by decide)) (fun _ => ?_)
      refine jj_aload_n dX7_isLine_230 rfl ?_
      refine jj_iload_n dX7_isLine_231 rfl ?_
      refine jj_iconst (v := 2) dX7_isLine_232 (by decide) ?_
      refine jj_iadd (v := nI (w + 2)) dX7_isLine_233 (nI_add w 2) ?_
      refine jj_iconst (v := 4) dX7_isLine_234 (by decide) ?_
      refine jj_callV (M2 := m7_isNumber) dX7_isLine_235 ml7_113 tm7_isNumber (i2) rfl rfl rfl rfl rfl (by omega) (Nat.le_of_ble_eq_true rfl) ?_
      refine jj_if_eq (tgt := 245) dX7_isLine_238 (by decide) (fun zz => absurd zz (by decide)) (fun _ => ?_)
      refine jj_iconst (v := 1) dX7_isLine_241 (by decide) ?_
      refine jj_goto (tgt := 246) dX7_isLine_242 (by decide) ?_
      exact jj_leaf dX7_isLine_246 rfl rfl
set_option maxRecDepth 100000 in
set_option maxHeartbeats 2000000 in
theorem ev7_isLine_7 {G : jj_G} {s : jj_S} {L : Nat} {X : jx_X} {Y : jx_X} {w : Nat} (hb : mb_ok s) (hL : L ≤ 200) (hw : w < 34) (hY : jj_Ev G m7_nextToken 1 [.ref 28] (jj_m (jx s L X)) 0 0 none (jj_m (jx s L Y))) (hYl : Y.1 ≤ L) (hyes : Y.2.2.1 = 405230) : jj_Ev G m7_isLine 4 [.ref 28, .int (nI w)] (jj_m (jx s L X)) 0 0 (some (.int (jb_b ((jx_lw (mo_text s) L (jx_r Y w 4) w 7).1 = true)))) (jj_m (jx s L (jx_lw (mo_text s) L (jx_r Y w 4) w 7).2)) := by
  refine jj_Ev_of (lo := [some (.ref 28), some (.int (nI w)), none, none]) (by decide +kernel) (Nat.le_of_ble_eq_true rfl) rfl (jb_b01 _) ?_
  have hZl : (jx_r Y w 4).1 ≤ L := hYl
  generalize hZ : jx_r Y w 4 = Z at hZl ⊢
  rw [show jx_lw (mo_text s) L Z w 7 = (true, Z) from rfl]
  refine jj_aload_n dX7_isLine_0 rfl ?_
  refine jj_callV (M2 := m7_nextToken) dX7_isLine_1 ml7_106 tm7_nextToken (hY) rfl rfl rfl rfl rfl (by omega) (Nat.le_of_ble_eq_true rfl) ?_
  refine jj_aload_n dX7_isLine_4 rfl ?_
  refine jj_getf dX7_isLine_5 fl7_89 rfl rfl ?_
  rw [show mo_tok (jx s L Y) = 405230 from hyes]
  refine jj_ldc2 dX7_isLine_8 kc7_121 ?_
  refine jj_lcmp dX7_isLine_11 rfl ?_
  refine jj_if_ne (tgt := 19) dX7_isLine_12 (by decide) (fun _ => ?_) (fun zz => absurd zz j7_c7_0)
  refine jj_aload_n dX7_isLine_19 rfl ?_
  refine jj_getf dX7_isLine_20 fl7_89 rfl rfl ?_
  rw [show mo_tok (jx s L Y) = 405230 from hyes]
  refine jj_ldc2 dX7_isLine_23 kc7_123 ?_
  refine jj_lcmp dX7_isLine_26 rfl ?_
  refine jj_if_ne (tgt := 34) dX7_isLine_27 (by decide) (fun _ => ?_) (fun zz => absurd zz j7_c7_1)
  refine jj_aload_n dX7_isLine_34 rfl ?_
  refine jj_getf dX7_isLine_35 fl7_89 rfl rfl ?_
  rw [show mo_tok (jx s L Y) = 405230 from hyes]
  refine jj_ldc2 dX7_isLine_38 kc7_125 ?_
  refine jj_lcmp dX7_isLine_41 rfl ?_
  refine jj_if_ne (tgt := 49) dX7_isLine_42 (by decide) (fun _ => ?_) (fun zz => absurd zz j7_c7_2)
  refine jj_aload_n dX7_isLine_49 rfl ?_
  refine jj_getf dX7_isLine_50 fl7_89 rfl rfl ?_
  rw [show mo_tok (jx s L Y) = 405230 from hyes]
  refine jj_ldc2 dX7_isLine_53 kc7_127 ?_
  refine jj_lcmp dX7_isLine_56 rfl ?_
  refine jj_if_ne (tgt := 64) dX7_isLine_57 (by decide) (fun _ => ?_) (fun zz => absurd zz j7_c7_3)
  refine jj_iconst (v := (-1)) dX7_isLine_64 (by decide) ?_
  refine jj_istore_n dX7_isLine_65 rfl (by decide) rfl ?_
  refine jj_aload_n dX7_isLine_66 rfl ?_
  refine jj_getf dX7_isLine_67 fl7_89 rfl rfl ?_
  rw [show mo_tok (jx s L Y) = 405230 from hyes]
  refine jj_ldc2 dX7_isLine_70 kc7_129 ?_
  refine jj_lcmp dX7_isLine_73 rfl ?_
  refine jj_if_ne (tgt := 81) dX7_isLine_74 (by decide) (fun zz => absurd j7_c7 zz) (fun _ => ?_)
  refine jj_iconst (v := 4) dX7_isLine_77 (by decide) ?_
  refine jj_goto (tgt := 129) dX7_isLine_78 (by decide) ?_
  refine jj_istore_n dX7_isLine_129 rfl (by decide) rfl ?_
  refine jj_aload_n dX7_isLine_130 rfl ?_
  refine jj_getf dX7_isLine_131 fl7_26 rfl rfl ?_
  refine jj_iload_n dX7_isLine_134 rfl ?_
  refine jj_iload_n dX7_isLine_135 rfl ?_
  refine jj_iconst (v := (-1)) dX7_isLine_136 (by decide) ?_
  refine jj_icmp_ne (tgt := 144) dX7_isLine_137 (by decide) (fun zz => absurd rfl zz) (fun _ => ?_)
  refine jj_iload_n dX7_isLine_140 rfl ?_
  refine jj_goto (tgt := 145) dX7_isLine_141 (by decide) ?_
  refine jv_iast dX7_isLine_145 rfl (by omega) (by decide) rfl ?_
  refine jj_eq rfl rfl rfl (show _ = jj_m (jx s L Z) from by rw [← hZ]; rfl) ?_
  refine jj_aload_n dX7_isLine_146 rfl ?_
  refine jj_getf dX7_isLine_147 fl7_26 rfl rfl ?_
  refine jj_iload_n dX7_isLine_150 rfl ?_
  refine jv_iald dX7_isLine_151 rfl (by omega) (by decide) ?_
  rw [show mo_read (jx s L Z) w = 4 from by rw [← hZ]; exact jU_at _ _ _]
  refine jj_swIn (tgt := 210) (off := 58) dX7_isLine_152 (by decide) (by decide) (by decide) (by decide) ?_
  refine jj_iconst (v := 1) dX7_isLine_210 (by decide) ?_
  exact jj_leaf dX7_isLine_211 rfl rfl
