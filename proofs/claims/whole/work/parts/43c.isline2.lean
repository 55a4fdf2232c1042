/-! THE MODEL: a line read -/
theorem jx_lw_4 (sg : Nat → Int32) (L : Nat) (Z : jx_X) (w : Nat) : jx_lw sg L Z w 4 = jx_ap sg L Z w := by
  unfold jx_lw
  rw [if_neg (by decide), if_neg (by decide), if_neg (by decide), if_pos (.inl rfl)]
theorem jx_lw_5 (sg : Nat → Int32) (L : Nat) (Z : jx_X) (w : Nat) : jx_lw sg L Z w 5 = jx_ap sg L Z w := by
  unfold jx_lw
  rw [if_neg (by decide), if_neg (by decide), if_neg (by decide), if_pos (.inr rfl)]
set_option maxRecDepth 100000 in
set_option maxHeartbeats 2000000 in
theorem ev7_isLine_4 {G : jj_G} {s : jj_S} {L : Nat} {X : jx_X} {Y : jx_X} {w : Nat} (hb : mb_ok s) (hL : L ≤ 200) (hw : w < 34) (hY : jj_Ev G m7_nextToken 1 [.ref 28] (jj_m (jx s L X)) 0 0 none (jj_m (jx s L Y))) (hYl : Y.1 ≤ L) (hyes : Y.2.2.1 = 453774) : jj_Ev G m7_isLine 4 [.ref 28, .int (nI w)] (jj_m (jx s L X)) 0 0 (some (.int (jb_b ((jx_lw (mo_text s) L (jx_r Y w 5) w 4).1 = true)))) (jj_m (jx s L (jx_lw (mo_text s) L (jx_r Y w 5) w 4).2)) := by
  refine jj_Ev_of (lo := [some (.ref 28), some (.int (nI w)), none, none]) (by decide +kernel) (Nat.le_of_ble_eq_true rfl) rfl (jb_b01 _) ?_
  have hZl : (jx_r Y w 5).1 ≤ L := hYl
  generalize hZ : jx_r Y w 5 = Z at hZl ⊢
  rw [jx_lw_4]
  have i1 := ev7_arePair (G := G) (s := s) (X := Z) (w := w) hb hL hZl hw
  generalize jx_ap (mo_text s) L Z w = Z2 at i1 ⊢
  refine jj_aload_n dX7_isLine_0 rfl ?_
  refine jj_callV (M2 := m7_nextToken) dX7_isLine_1 ml7_106 tm7_nextToken (hY) rfl rfl rfl rfl rfl (by omega) (Nat.le_of_ble_eq_true rfl) ?_
  refine jj_aload_n dX7_isLine_4 rfl ?_
  refine jj_getf dX7_isLine_5 fl7_89 rfl rfl ?_
  rw [show mo_tok (jx s L Y) = 453774 from hyes]
  refine jj_ldc2 dX7_isLine_8 kc7_121 ?_
  refine jj_lcmp dX7_isLine_11 rfl ?_
  refine jj_if_ne (tgt := 19) dX7_isLine_12 (by decide) (fun _ => ?_) (fun zz => absurd zz j7_c4_0)
  refine jj_aload_n dX7_isLine_19 rfl ?_
  refine jj_getf dX7_isLine_20 fl7_89 rfl rfl ?_
  rw [show mo_tok (jx s L Y) = 453774 from hyes]
  refine jj_ldc2 dX7_isLine_23 kc7_123 ?_
  refine jj_lcmp dX7_isLine_26 rfl ?_
  refine jj_if_ne (tgt := 34) dX7_isLine_27 (by decide) (fun _ => ?_) (fun zz => absurd zz j7_c4_1)
  refine jj_aload_n dX7_isLine_34 rfl ?_
  refine jj_getf dX7_isLine_35 fl7_89 rfl rfl ?_
  rw [show mo_tok (jx s L Y) = 453774 from hyes]
  refine jj_ldc2 dX7_isLine_38 kc7_125 ?_
  refine jj_lcmp dX7_isLine_41 rfl ?_
  refine jj_if_ne (tgt := 49) dX7_isLine_42 (by decide) (fun _ => ?_) (fun zz => absurd zz j7_c4_2)
  refine jj_aload_n dX7_isLine_49 rfl ?_
  refine jj_getf dX7_isLine_50 fl7_89 rfl rfl ?_
  rw [show mo_tok (jx s L Y) = 453774 from hyes]
  refine jj_ldc2 dX7_isLine_53 kc7_127 ?_
  refine jj_lcmp dX7_isLine_56 rfl ?_
  refine jj_if_ne (tgt := 64) dX7_isLine_57 (by decide) (fun _ => ?_) (fun zz => absurd zz j7_c4_3)
  refine jj_iconst (v := (-1)) dX7_isLine_64 (by decide) ?_
  refine jj_istore_n dX7_isLine_65 rfl (by decide) rfl ?_
  refine jj_aload_n dX7_isLine_66 rfl ?_
  refine jj_getf dX7_isLine_67 fl7_89 rfl rfl ?_
  rw [show mo_tok (jx s L Y) = 453774 from hyes]
  refine jj_ldc2 dX7_isLine_70 kc7_129 ?_
  refine jj_lcmp dX7_isLine_73 rfl ?_
  refine jj_if_ne (tgt := 81) dX7_isLine_74 (by decide) (fun _ => ?_) (fun zz => absurd zz j7_c4_7)
  refine jj_aload_n dX7_isLine_81 rfl ?_
  refine jj_getf dX7_isLine_82 fl7_89 rfl rfl ?_
  rw [show mo_tok (jx s L Y) = 453774 from hyes]
  refine jj_ldc2 dX7_isLine_85 kc7_131 ?_
  refine jj_lcmp dX7_isLine_88 rfl ?_
  refine jj_if_ne (tgt := 96) dX7_isLine_89 (by decide) (fun zz => absurd j7_c4 zz) (fun _ => ?_)
  refine jj_iconst (v := 5) dX7_isLine_92 (by decide) ?_
  refine jj_goto (tgt := 129) dX7_isLine_93 (by decide) ?_
  refine jj_istore_n dX7_isLine_129 rfl (by decide) rfl ?_
  refine jj_aload_n dX7_isLine_130 rfl ?_
  refine jj_getf dX7_isLine_131 fl7_26 rfl rfl ?_
  refine jj_iload_n dX7_isLine_134 rfl ?_
  refine jj_iload_n dX7_isLine_135 rfl ?_
  refine jj_iconst (v := (-1)) dX7_isLine_136 (by decide) ?_
  refine jj_icmp_ne (tgt := 144) dX7_isLine_137 (by decide) (fun zz => absurd rfl zz) (fun _ => ?_)
  refine jj_iload_n dX7_isLine_140 rfl ?_
  refine jj_goto (tgt := 145) dX7_isLine_141 (by decide) ?_
  refine jv_iast dX7_isLine_145 rfl (by omega) (by decide) rfl ?_
  refine jj_eq rfl rfl rfl (show _ = jj_m (jx s L Z) from by rw [← hZ]; rfl) ?_
  refine jj_aload_n dX7_isLine_146 rfl ?_
  refine jj_getf dX7_isLine_147 fl7_26 rfl rfl ?_
  refine jj_iload_n dX7_isLine_150 rfl ?_
  refine jv_iald dX7_isLine_151 rfl (by omega) (by decide) ?_
  rw [show mo_read (jx s L Z) w = 5 from by rw [← hZ]; exact jU_at _ _ _]
  refine jj_swIn (tgt := 212) (off := 60) dX7_isLine_152 (by decide) (by decide) (by decide) (by decide) ?_
  refine jj_aload_n dX7_isLine_212 rfl ?_
  refine jj_iload_n dX7_isLine_213 rfl ?_
  refine jj_callV (M2 := m7_arePair) dX7_isLine_214 ml7_137 tm7_arePair (i1) rfl rfl rfl rfl rfl (by omega) (Nat.le_of_ble_eq_true rfl) ?_
  exact jj_leaf dX7_isLine_217 rfl rfl
set_option maxRecDepth 100000 in
set_option maxHeartbeats 2000000 in
theorem ev7_isLine_5 {G : jj_G} {s : jj_S} {L : Nat} {X : jx_X} {Y : jx_X} {w : Nat} (hb : mb_ok s) (hL : L ≤ 200) (hw : w < 34) (hY : jj_Ev G m7_nextToken 1 [.ref 28] (jj_m (jx s L X)) 0 0 none (jj_m (jx s L Y))) (hYl : Y.1 ≤ L) (hyes : Y.2.2.1 = 139055) : jj_Ev G m7_isLine 4 [.ref 28, .int (nI w)] (jj_m (jx s L X)) 0 0 (some (.int (jb_b ((jx_lw (mo_text s) L (jx_r Y w 6) w 5).1 = true)))) (jj_m (jx s L (jx_lw (mo_text s) L (jx_r Y w 6) w 5).2)) := by
  refine jj_Ev_of (lo := [some (.ref 28), some (.int (nI w)), none, none]) (by decide +kernel) (Nat.le_of_ble_eq_true rfl) rfl (jb_b01 _) ?_
  have hZl : (jx_r Y w 6).1 ≤ L := hYl
  generalize hZ : jx_r Y w 6 = Z at hZl ⊢
  rw [jx_lw_5]
  have i1 := ev7_arePair (G := G) (s := s) (X := Z) (w := w) hb hL hZl hw
  generalize jx_ap (mo_text s) L Z w = Z2 at i1 ⊢
  refine jj_aload_n dX7_isLine_0 rfl ?_
  refine jj_callV (M2 := m7_nextToken) dX7_isLine_1 ml7_106 tm7_nextToken (hY) rfl rfl rfl rfl rfl (by omega) (Nat.le_of_ble_eq_true rfl) ?_
  refine jj_aload_n dX7_isLine_4 rfl ?_
  refine jj_getf dX7_isLine_5 fl7_89 rfl rfl ?_
  rw [show mo_tok (jx s L Y) = 139055 from hyes]
  refine jj_ldc2 dX7_isLine_8 kc7_121 ?_
  refine jj_lcmp dX7_isLine_11 rfl ?_
  refine jj_if_ne (tgt := 19) dX7_isLine_12 (by decide) (fun _ => ?_) (fun zz => absurd zz j7_c5_0)
  refine jj_aload_n dX7_isLine_19 rfl ?_
  refine jj_getf dX7_isLine_20 fl7_89 rfl rfl ?_
  rw [show mo_tok (jx s L Y) = 139055 from hyes]
  refine jj_ldc2 dX7_isLine_23 kc7_123 ?_
  refine jj_lcmp dX7_isLine_26 rfl ?_
  refine jj_if_ne (tgt := 34) dX7_isLine_27 (by decide) (fun _ => ?_) (fun zz => absurd zz j7_c5_1)
  refine jj_aload_n dX7_isLine_34 rfl ?_
  refine jj_getf dX7_isLine_35 fl7_89 rfl rfl ?_
  rw [show mo_tok (jx s L Y) = 139055 from hyes]
  refine jj_ldc2 dX7_isLine_38 kc7_125 ?_
  refine jj_lcmp dX7_isLine_41 rfl ?_
  refine jj_if_ne (tgt := 49) dX7_isLine_42 (by decide) (fun _ => ?_) (fun zz => absurd zz j7_c5_2)
  refine jj_aload_n dX7_isLine_49 rfl ?_
  refine jj_getf dX7_isLine_50 fl7_89 rfl rfl ?_
  rw [show mo_tok (jx s L Y) = 139055 from hyes]
  refine jj_ldc2 dX7_isLine_53 kc7_127 ?_
  refine jj_lcmp dX7_isLine_56 rfl ?_
  refine jj_if_ne (tgt := 64) dX7_isLine_57 (by decide) (fun _ => ?_) (fun zz => absurd zz j7_c5_3)
  refine jj_iconst (v := (-1)) dX7_isLine_64 (by decide) ?_
  refine jj_istore_n dX7_isLine_65 rfl (by decide) rfl ?_
  refine jj_aload_n dX7_isLine_66 rfl ?_
  refine jj_getf dX7_isLine_67 fl7_89 rfl rfl ?_
  rw [show mo_tok (jx s L Y) = 139055 from hyes]
  refine jj_ldc2 dX7_isLine_70 kc7_129 ?_
  refine jj_lcmp dX7_isLine_73 rfl ?_
  refine jj_if_ne (tgt := 81) dX7_isLine_74 (by decide) (fun _ => ?_) (fun zz => absurd zz j7_c5_7)
  refine jj_aload_n dX7_isLine_81 rfl ?_
  refine jj_getf dX7_isLine_82 fl7_89 rfl rfl ?_
  rw [show mo_tok (jx s L Y) = 139055 from hyes]
  refine jj_ldc2 dX7_isLine_85 kc7_131 ?_
  refine jj_lcmp dX7_isLine_88 rfl ?_
  refine jj_if_ne (tgt := 96) dX7_isLine_89 (by decide) (fun _ => ?_) (fun zz => absurd zz j7_c5_4)
  refine jj_aload_n dX7_isLine_96 rfl ?_
  refine jj_getf dX7_isLine_97 fl7_89 rfl rfl ?_
  rw [show mo_tok (jx s L Y) = 139055 from hyes]
  refine jj_ldc2 dX7_isLine_100 kc7_133 ?_
  refine jj_lcmp dX7_isLine_103 rfl ?_
  refine jj_if_ne (tgt := 112) dX7_isLine_104 (by decide) (fun zz => absurd j7_c5 zz) (fun _ => ?_)
  refine jj_bipush (v := 6) dX7_isLine_107 (by decide) ?_
  refine jj_goto (tgt := 129) dX7_isLine_109 (by decide) ?_
  refine jj_istore_n dX7_isLine_129 rfl (by decide) rfl ?_
  refine jj_aload_n dX7_isLine_130 rfl ?_
  refine jj_getf dX7_isLine_131 fl7_26 rfl rfl ?_
  refine jj_iload_n dX7_isLine_134 rfl ?_
  refine jj_iload_n dX7_isLine_135 rfl ?_
  refine jj_iconst (v := (-1)) dX7_isLine_136 (by decide) ?_
  refine jj_icmp_ne (tgt := 144) dX7_isLine_137 (by decide) (fun zz => absurd rfl zz) (fun _ => ?_)
  refine jj_iload_n dX7_isLine_140 rfl ?_
  refine jj_goto (tgt := 145) dX7_isLine_141 (by decide) ?_
  refine jv_iast dX7_isLine_145 rfl (by omega) (by decide) rfl ?_
  refine jj_eq rfl rfl rfl (show _ = jj_m (jx s L Z) from by rw [← hZ]; rfl) ?_
  refine jj_aload_n dX7_isLine_146 rfl ?_
  refine jj_getf dX7_isLine_147 fl7_26 rfl rfl ?_
  refine jj_iload_n dX7_isLine_150 rfl ?_
  refine jv_iald dX7_isLine_151 rfl (by omega) (by decide) ?_
  rw [show mo_read (jx s L Z) w = 6 from by rw [← hZ]; exact jU_at _ _ _]
  refine jj_swIn (tgt := 212) (off := 60) dX7_isLine_152 (by decide) (by decide) (by decide) (by decide) ?_
  refine jj_aload_n dX7_isLine_212 rfl ?_
  refine jj_iload_n dX7_isLine_213 rfl ?_
  refine jj_callV (M2 := m7_arePair) dX7_isLine_214 ml7_137 tm7_arePair (i1) rfl rfl rfl rfl rfl (by omega) (Nat.le_of_ble_eq_true rfl) ?_
  exact jj_leaf dX7_isLine_217 rfl rfl
theorem ev7_isLine {G : jj_G} {s : jj_S} {L : Nat} {X : jx_X} {w : Nat} (hb : mb_ok s) (hL : L ≤ 200) (hp : X.1 ≤ L) (hw : w < 34) : jj_Ev G m7_isLine 4 [.ref 28, .int (nI w)] (jj_m (jx s L X)) 0 0 (some (.int (jb_b ((jx_ln (mo_text s) L X w).1 = true)))) (jj_m (jx s L (jx_ln (mo_text s) L X w).2)) := by
  have hY := ev7_nextToken (G := G) (s := s) (X := X) hL hp
  have hw8 := jx_w (sg := mo_text s) hp
  have hYl := jx_n_le (sg := mo_text s) hp
  unfold jx_ln
  change (jx_i (mo_text s) L X = 8 ∧ ∀ j, j < 8 → ¬ (jx_n (mo_text s) L X).2.2.1 = jW j) ∨ (jx_i (mo_text s) L X < 8 ∧ (jx_n (mo_text s) L X).2.2.1 = jW (jx_i (mo_text s) L X)) at hw8
  generalize jx_i (mo_text s) L X = i at hw8 ⊢
  generalize jx_n (mo_text s) L X = Y at hY hw8 hYl ⊢
  rcases hw8 with ⟨e8, hno⟩ | ⟨e8, hyes⟩
  · subst e8
    exact ev7_isLine_8 hb hL hw hY hYl hno
  · rcases (show i = 0 ∨ i = 1 ∨ i = 2 ∨ i = 3 ∨ i = 4 ∨ i = 5 ∨ i = 6 ∨ i = 7 by omega) with q | q | q | q | q | q | q | q
    · subst q
      exact ev7_isLine_0 hb hL hw hY hYl hyes
    · subst q
      exact ev7_isLine_1 hb hL hw hY hYl hyes
    · subst q
      exact ev7_isLine_2 hb hL hw hY hYl hyes
    · subst q
      exact ev7_isLine_3 hb hL hw hY hYl hyes
    · subst q
      exact ev7_isLine_4 hb hL hw hY hYl hyes
    · subst q
      exact ev7_isLine_5 hb hL hw hY hYl hyes
    · subst q
      exact ev7_isLine_6 hb hL hw hY hYl hyes
    · subst q
      exact ev7_isLine_7 hb hL hw hY hYl hyes
