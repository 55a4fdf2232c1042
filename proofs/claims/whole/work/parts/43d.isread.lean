/-! THE MODEL: the text read -/
set_option maxRecDepth 100000 in
set_option maxHeartbeats 2000000 in
theorem ev7_isRead {G : jj_G} {s : jj_S} {L : Nat} {X : jx_X} (hb : mb_ok s) (hL : L ≤ 200) : jj_Ev G m7_isRead 5 [.ref 28] (jj_m (jx s L X)) 0 0 (some (.int (jb_b ((jx_rd (mo_text s) L 12 0 (0, X.2)).1 = true)))) (jj_m (jx (mo_rmS s (nI ((jx_rd (mo_text s) L 12 0 (0, X.2)).2.1))) L ((jx_rd (mo_text s) L 12 0 (0, X.2)).2.2))) := by
  refine jj_Ev_of (lo := [some (.ref 28), none]) (by decide +kernel) (Nat.le_of_ble_eq_true rfl) rfl (jb_b01 _) ?_
  have M : ∀ n k X, k + n = 12 → 1 ≤ n → X.1 ≤ L → jj_Go G m7_isRead 5 12 [some (.ref 28), some (.int 1)] [] (jj_m (jx (mo_rmS s (nI k)) L X)) 0 0 (some (.int (jb_b ((jx_rd (mo_text s) L n k X).1 = true)))) (jj_m (jx (mo_rmS s (nI ((jx_rd (mo_text s) L n k X).2.1))) L ((jx_rd (mo_text s) L n k X).2.2))) := by
    intro n
    induction n with
    | zero => intro k X _ h1 _; exact absurd h1 (by decide)
    | succ n ihn =>
      intro k X hk _ hp
      have iL := ev7_isLine (G := G) (s := mo_rmS s (nI k)) (X := X) (w := 3 * k) hb hL hp (by omega)
      change jj_Ev G m7_isLine _ _ _ 0 0 (some (.int (jb_b ((jx_ln (mo_text s) L X (3 * k)).1 = true)))) (jj_m (jx (mo_rmS s (nI k)) L (jx_ln (mo_text s) L X (3 * k)).2)) at iL
      have hLl := jx_ln_le (sg := mo_text s) (3 * k) hp
      rw [jx_rd]
      generalize jx_ln (mo_text s) L X (3 * k) = A at iL hLl ⊢
      by_cases z1 : A.1 = true
      · rw [jb_bt z1] at iL
        rw [if_pos z1]
        have iN := ev7_nextToken (G := G) (s := mo_rmS s (nI (k + 1))) (X := A.2) hL hLl
        change jj_Ev G m7_nextToken _ _ _ 0 0 none (jj_m (jx (mo_rmS s (nI (k + 1))) L (jx_n (mo_text s) L A.2))) at iN
        have hNl := jx_n_le (sg := mo_text s) hLl
        generalize jx_n (mo_text s) L A.2 = Y at iN hNl ⊢
        by_cases z2 : Y.2.2.1 = -3
        · rw [if_pos z2]
          by_cases z3 : n = 0
          · subst z3
            rw [jx_rd]
            have hk11 : k = 11 := by omega
            refine jj_iload_n dX7_isRead_12 rfl ?_
            refine jj_if_eq (tgt := 74) dX7_isRead_13 (by decide) (fun zz => absurd zz (by decide)) (fun _ => ?_)
            refine jj_aload_n dX7_isRead_16 rfl ?_
            refine jj_iconst (v := 3) dX7_isRead_17 (by decide) ?_
            refine jj_aload_n dX7_isRead_18 rfl ?_
            refine jj_getf dX7_isRead_19 fl7_141 rfl rfl ?_
            refine jj_eq (st' := [.int (nI k), .int (nI 3), .ref 28]) rfl rfl rfl rfl ?_
            refine jj_imul dX7_isRead_22 (j4_mul 3 k) ?_
            refine jj_callV (M2 := m7_isLine) dX7_isRead_23 ml7_144 tm7_isLine (iL) rfl rfl rfl rfl rfl (by omega) (Nat.le_of_ble_eq_true rfl) ?_
            refine jj_if_ne (tgt := 31) dX7_isRead_26 (by decide) (fun _ => ?_) (fun zz => absurd zz (by decide))
            refine jj_aload_n dX7_isRead_31 rfl ?_
            refine jj_dup dX7_isRead_32 rfl ?_
            refine jj_getf dX7_isRead_33 fl7_141 rfl rfl ?_
            refine jj_iconst (v := 1) dX7_isRead_36 (by decide) ?_
            refine jj_eq (st' := [.int 1, .int (nI k), .ref 28]) rfl rfl rfl rfl ?_
            refine jj_iadd (v := nI (k + 1)) dX7_isRead_37 (nI_add k 1) ?_
            refine jj_putf dX7_isRead_38 (fw7_141 _) rfl (Nat.le_of_ble_eq_true rfl) rfl rfl rfl ?_
            refine jj_aload_n dX7_isRead_41 rfl ?_
            refine jj_eq rfl rfl rfl (show _ = jj_m (jx (mo_rmS s (nI (k + 1))) L A.2) from rfl) ?_
            refine jj_callV (M2 := m7_nextToken) dX7_isRead_42 ml7_106 tm7_nextToken (iN) rfl rfl rfl rfl rfl (by omega) (Nat.le_of_ble_eq_true rfl) ?_
            refine jj_aload_n dX7_isRead_45 rfl ?_
            refine jj_getf dX7_isRead_46 fl7_89 rfl rfl ?_
            refine jj_ldc2 dX7_isRead_49 kc7_101 ?_
            refine jj_lcmp dX7_isRead_52 rfl ?_
            refine jj_if_ne (tgt := 69) dX7_isRead_53 (by decide) (fun zz => absurd (j2_c0 z2) zz) (fun _ => ?_)
            refine jj_aload_n dX7_isRead_56 rfl ?_
            refine jj_getf dX7_isRead_57 fl7_141 rfl rfl ?_
            refine jj_bipush (v := 12) dX7_isRead_60 (by decide) ?_
            refine jj_icmp_ge (tgt := 69) dX7_isRead_62 (by decide) (fun _ => ?_) (fun zz => absurd (nI_le (a := 12) (b := k + 1) (by omega) (by omega)) zz)
            refine jj_iconst (v := 0) dX7_isRead_69 (by decide) ?_
            refine jj_istore_n dX7_isRead_70 rfl (by decide) rfl ?_
            refine jj_goto (tgt := 12) dX7_isRead_71 (by decide) ?_
            refine jj_iload_n dX7_isRead_12 rfl ?_
            refine jj_if_eq (tgt := 74) dX7_isRead_13 (by decide) (fun _ => ?_) (fun zz => absurd rfl zz)
            refine jj_aload_n dX7_isRead_74 rfl ?_
            refine jj_getf dX7_isRead_75 fl7_89 rfl rfl ?_
            refine jj_ldc2 dX7_isRead_78 kc7_87 ?_
            refine jj_lcmp dX7_isRead_81 rfl ?_
            refine jj_if_eq (tgt := 92) dX7_isRead_82 (by decide) (fun zz => absurd zz (fun q => by have q2 : Y.2.2.1 = -2 := j2_c1 q; rw [z2] at q2; exact absurd q2 (by decide))) (fun _ => ?_)
            refine jj_aload_n dX7_isRead_85 rfl ?_
            refine jj_callV (M2 := m7_fails) dX7_isRead_86 ml7_109 tm7_fails (ev7_fails (s := mo_rmS s (nI (k + 1))) (L := L) (X := Y)) rfl rfl rfl rfl rfl (by omega) (Nat.le_of_ble_eq_true rfl) ?_
            refine jj_if_eq (tgt := 96) dX7_isRead_89 (by decide) (fun _ => ?_) (fun zz => absurd rfl zz)
            refine jj_iconst (v := 0) dX7_isRead_96 (by decide) ?_
            exact jj_leaf dX7_isRead_97 rfl rfl
          · have ih := ihn (k + 1) Y (by omega) (by omega) hNl
            refine jj_iload_n dX7_isRead_12 rfl ?_
            refine jj_if_eq (tgt := 74) dX7_isRead_13 (by decide) (fun zz => absurd zz (by decide)) (fun _ => ?_)
            refine jj_aload_n dX7_isRead_16 rfl ?_
            refine jj_iconst (v := 3) dX7_isRead_17 (by decide) ?_
            refine jj_aload_n dX7_isRead_18 rfl ?_
            refine jj_getf dX7_isRead_19 fl7_141 rfl rfl ?_
            refine jj_eq (st' := [.int (nI k), .int (nI 3), .ref 28]) rfl rfl rfl rfl ?_
            refine jj_imul dX7_isRead_22 (j4_mul 3 k) ?_
            refine jj_callV (M2 := m7_isLine) dX7_isRead_23 ml7_144 tm7_isLine (iL) rfl rfl rfl rfl rfl (by omega) (Nat.le_of_ble_eq_true rfl) ?_
            refine jj_if_ne (tgt := 31) dX7_isRead_26 (by decide) (fun _ => ?_) (fun zz => absurd zz (by decide))
            refine jj_aload_n dX7_isRead_31 rfl ?_
            refine jj_dup dX7_isRead_32 rfl ?_
            refine jj_getf dX7_isRead_33 fl7_141 rfl rfl ?_
            refine jj_iconst (v := 1) dX7_isRead_36 (by decide) ?_
            refine jj_eq (st' := [.int 1, .int (nI k), .ref 28]) rfl rfl rfl rfl ?_
            refine jj_iadd (v := nI (k + 1)) dX7_isRead_37 (nI_add k 1) ?_
            refine jj_putf dX7_isRead_38 (fw7_141 _) rfl (Nat.le_of_ble_eq_true rfl) rfl rfl rfl ?_
            refine jj_aload_n dX7_isRead_41 rfl ?_
            refine jj_eq rfl rfl rfl (show _ = jj_m (jx (mo_rmS s (nI (k + 1))) L A.2) from rfl) ?_
            refine jj_callV (M2 := m7_nextToken) dX7_isRead_42 ml7_106 tm7_nextToken (iN) rfl rfl rfl rfl rfl (by omega) (Nat.le_of_ble_eq_true rfl) ?_
            refine jj_aload_n dX7_isRead_45 rfl ?_
            refine jj_getf dX7_isRead_46 fl7_89 rfl rfl ?_
            refine jj_ldc2 dX7_isRead_49 kc7_101 ?_
            refine jj_lcmp dX7_isRead_52 rfl ?_
            refine jj_if_ne (tgt := 69) dX7_isRead_53 (by decide) (fun zz => absurd (j2_c0 z2) zz) (fun _ => ?_)
            refine jj_aload_n dX7_isRead_56 rfl ?_
            refine jj_getf dX7_isRead_57 fl7_141 rfl rfl ?_
            refine jj_bipush (v := 12) dX7_isRead_60 (by decide) ?_
            refine jj_icmp_ge (tgt := 69) dX7_isRead_62 (by decide) (fun zz => absurd zz (nI_ge (a := k + 1) (b := 12) (by omega) (by decide))) (fun _ => ?_)
            refine jj_iconst (v := 1) dX7_isRead_65 (by decide) ?_
            refine jj_goto (tgt := 70) dX7_isRead_66 (by decide) ?_
            refine jj_istore_n dX7_isRead_70 rfl (by decide) rfl ?_
            refine jj_goto (tgt := 12) dX7_isRead_71 (by decide) ?_
            exact ih
        · rw [if_neg z2]
          by_cases z4 : Y.2.2.1 = -2
          · rw [if_pos z4]
            refine jj_iload_n dX7_isRead_12 rfl ?_
            refine jj_if_eq (tgt := 74) dX7_isRead_13 (by decide) (fun zz => absurd zz (by decide)) (fun _ => ?_)
            refine jj_aload_n dX7_isRead_16 rfl ?_
            refine jj_iconst (v := 3) dX7_isRead_17 (by decide) ?_
            refine jj_aload_n dX7_isRead_18 rfl ?_
            refine jj_getf dX7_isRead_19 fl7_141 rfl rfl ?_
            refine jj_eq (st' := [.int (nI k), .int (nI 3), .ref 28]) rfl rfl rfl rfl ?_
            refine jj_imul dX7_isRead_22 (j4_mul 3 k) ?_
            refine jj_callV (M2 := m7_isLine) dX7_isRead_23 ml7_144 tm7_isLine (iL) rfl rfl rfl rfl rfl (by omega) (Nat.le_of_ble_eq_true rfl) ?_
            refine jj_if_ne (tgt := 31) dX7_isRead_26 (by decide) (fun _ => ?_) (fun zz => absurd zz (by decide))
            refine jj_aload_n dX7_isRead_31 rfl ?_
            refine jj_dup dX7_isRead_32 rfl ?_
            refine jj_getf dX7_isRead_33 fl7_141 rfl rfl ?_
            refine jj_iconst (v := 1) dX7_isRead_36 (by decide) ?_
            refine jj_eq (st' := [.int 1, .int (nI k), .ref 28]) rfl rfl rfl rfl ?_
            refine jj_iadd (v := nI (k + 1)) dX7_isRead_37 (nI_add k 1) ?_
            refine jj_putf dX7_isRead_38 (fw7_141 _) rfl (Nat.le_of_ble_eq_true rfl) rfl rfl rfl ?_
            refine jj_aload_n dX7_isRead_41 rfl ?_
            refine jj_eq rfl rfl rfl (show _ = jj_m (jx (mo_rmS s (nI (k + 1))) L A.2) from rfl) ?_
            refine jj_callV (M2 := m7_nextToken) dX7_isRead_42 ml7_106 tm7_nextToken (iN) rfl rfl rfl rfl rfl (by omega) (Nat.le_of_ble_eq_true rfl) ?_
            refine jj_aload_n dX7_isRead_45 rfl ?_
            refine jj_getf dX7_isRead_46 fl7_89 rfl rfl ?_
            refine jj_ldc2 dX7_isRead_49 kc7_101 ?_
            refine jj_lcmp dX7_isRead_52 rfl ?_
            refine jj_if_ne (tgt := 69) dX7_isRead_53 (by decide) (fun _ => ?_) (fun zz => absurd zz (fun q => z2 (j2_c1 q)))
            refine jj_iconst (v := 0) dX7_isRead_69 (by decide) ?_
            refine jj_istore_n dX7_isRead_70 rfl (by decide) rfl ?_
            refine jj_goto (tgt := 12) dX7_isRead_71 (by decide) ?_
            refine jj_iload_n dX7_isRead_12 rfl ?_
            refine jj_if_eq (tgt := 74) dX7_isRead_13 (by decide) (fun _ => ?_) (fun zz => absurd rfl zz)
            refine jj_aload_n dX7_isRead_74 rfl ?_
            refine jj_getf dX7_isRead_75 fl7_89 rfl rfl ?_
            refine jj_ldc2 dX7_isRead_78 kc7_87 ?_
            refine jj_lcmp dX7_isRead_81 rfl ?_
            refine jj_if_eq (tgt := 92) dX7_isRead_82 (by decide) (fun _ => ?_) (fun zz => absurd (j2_c0 z4) zz)
            refine jj_iconst (v := 1) dX7_isRead_92 (by decide) ?_
            refine jj_goto (tgt := 97) dX7_isRead_93 (by decide) ?_
            exact jj_leaf dX7_isRead_97 rfl rfl
          · rw [if_neg z4]
            refine jj_iload_n dX7_isRead_12 rfl ?_
            refine jj_if_eq (tgt := 74) dX7_isRead_13 (by decide) (fun zz => absurd zz (by decide)) (fun _ => ?_)
            refine jj_aload_n dX7_isRead_16 rfl ?_
            refine jj_iconst (v := 3) dX7_isRead_17 (by decide) ?_
            refine jj_aload_n dX7_isRead_18 rfl ?_
            refine jj_getf dX7_isRead_19 fl7_141 rfl rfl ?_
            refine jj_eq (st' := [.int (nI k), .int (nI 3), .ref 28]) rfl rfl rfl rfl ?_
            refine jj_imul dX7_isRead_22 (j4_mul 3 k) ?_
            refine jj_callV (M2 := m7_isLine) dX7_isRead_23 ml7_144 tm7_isLine (iL) rfl rfl rfl rfl rfl (by omega) (Nat.le_of_ble_eq_true rfl) ?_
            refine jj_if_ne (tgt := 31) dX7_isRead_26 (by decide) (fun _ => ?_) (fun zz => absurd zz (by decide))
            refine jj_aload_n dX7_isRead_31 rfl ?_
            refine jj_dup dX7_isRead_32 rfl ?_
            refine jj_getf dX7_isRead_33 fl7_141 rfl rfl ?_
            refine jj_iconst (v := 1) dX7_isRead_36 (by decide) ?_
            refine jj_eq (st' := [.int 1, .int (nI k), .ref 28]) rfl rfl rfl rfl ?_
            refine jj_iadd (v := nI (k + 1)) dX7_isRead_37 (nI_add k 1) ?_
            refine jj_putf dX7_isRead_38 (fw7_141 _) rfl (Nat.le_of_ble_eq_true rfl) rfl rfl rfl ?_
            refine jj_aload_n dX7_isRead_41 rfl ?_
            refine jj_eq rfl rfl rfl (show _ = jj_m (jx (mo_rmS s (nI (k + 1))) L A.2) from rfl) ?_
            refine jj_callV (M2 := m7_nextToken) dX7_isRead_42 ml7_106 tm7_nextToken (iN) rfl rfl rfl rfl rfl (by omega) (Nat.le_of_ble_eq_true rfl) ?_
            refine jj_aload_n dX7_isRead_45 rfl ?_
            refine jj_getf dX7_isRead_46 fl7_89 rfl rfl ?_
            refine jj_ldc2 dX7_isRead_49 kc7_101 ?_
            refine jj_lcmp dX7_isRead_52 rfl ?_
            refine jj_if_ne (tgt := 69) dX7_isRead_53 (by decide) (fun _ => ?_) (fun zz => absurd zz (fun q => z2 (j2_c1 q)))
            refine jj_iconst (v := 0) dX7_isRead_69 (by decide) ?_
            refine jj_istore_n dX7_isRead_70 rfl (by decide) rfl ?_
            refine jj_goto (tgt := 12) dX7_isRead_71 (by decide) ?_
            refine jj_iload_n dX7_isRead_12 rfl ?_
            refine jj_if_eq (tgt := 74) dX7_isRead_13 (by decide) (fun _ => ?_) (fun zz => absurd rfl zz)
            refine jj_aload_n dX7_isRead_74 rfl ?_
            refine jj_getf dX7_isRead_75 fl7_89 rfl rfl ?_
            refine jj_ldc2 dX7_isRead_78 kc7_87 ?_
            refine jj_lcmp dX7_isRead_81 rfl ?_
            refine jj_if_eq (tgt := 92) dX7_isRead_82 (by decide) (fun zz => absurd zz (fun q => z4 (j2_c1 q))) (fun _ => ?_)
            refine jj_aload_n dX7_isRead_85 rfl ?_
            refine jj_callV (M2 := m7_fails) dX7_isRead_86 ml7_109 tm7_fails (ev7_fails (s := mo_rmS s (nI (k + 1))) (L := L) (X := Y)) rfl rfl rfl rfl rfl (by omega) (Nat.le_of_ble_eq_true rfl) ?_
            refine jj_if_eq (tgt := 96) dX7_isRead_89 (by decide) (fun _ => ?_) (fun zz => absurd rfl zz)
            refine jj_iconst (v := 0) dX7_isRead_96 (by decide) ?_
            exact jj_leaf dX7_isRead_97 rfl rfl
      · rw [jb_bf z1] at iL
        rw [if_neg z1]
        refine jj_iload_n dX7_isRead_12 rfl ?_
        refine jj_if_eq (tgt := 74) dX7_isRead_13 (by decide) (fun zz => absurd zz (by decide)) (fun _ => ?_)
        refine jj_aload_n dX7_isRead_16 rfl ?_
        refine jj_iconst (v := 3) dX7_isRead_17 (by decide) ?_
        refine jj_aload_n dX7_isRead_18 rfl ?_
        refine jj_getf dX7_isRead_19 fl7_141 rfl rfl ?_
        refine jj_eq (st' := [.int (nI k), .int (nI 3), .ref 28]) rfl rfl rfl rfl ?_
        refine jj_imul dX7_isRead_22 (j4_mul 3 k) ?_
        refine jj_callV (M2 := m7_isLine) dX7_isRead_23 ml7_144 tm7_isLine (iL) rfl rfl rfl rfl rfl (by omega) (Nat.le_of_ble_eq_true rfl) ?_
        refine jj_if_ne (tgt := 31) dX7_isRead_26 (by decide) (fun zz => absurd rfl zz) (fun _ => ?_)
        refine jj_iconst (v := 0) dX7_isRead_29 (by decide) ?_
        exact jj_leaf dX7_isRead_30 rfl rfl
  refine jj_aload_n dX7_isRead_0 rfl ?_
  refine jj_iconst (v := 0) dX7_isRead_1 (by decide) ?_
  refine jj_putf dX7_isRead_2 (fw7_75 _) rfl (Nat.le_of_ble_eq_true rfl) rfl rfl rfl ?_
  refine jj_aload_n dX7_isRead_5 rfl ?_
  refine jj_iconst (v := 0) dX7_isRead_6 (by decide) ?_
  refine jj_putf dX7_isRead_7 (fw7_141 _) rfl (Nat.le_of_ble_eq_true rfl) rfl rfl rfl ?_
  refine jj_iconst (v := 1) dX7_isRead_10 (by decide) ?_
  refine jj_istore_n dX7_isRead_11 rfl (by decide) rfl ?_
  exact jj_eq rfl rfl rfl rfl (M 12 0 (0, X.2) rfl (by decide) (Nat.zero_le L))
set_option maxRecDepth 100000 in
set_option maxHeartbeats 2000000 in
theorem ev7_fault {G : jj_G} {s : jj_S} {L : Nat} {X : jx_X} (hb : mb_ok s) (hL : L ≤ 200) : jj_Ev G m7_fault 6 [.ref 28] (jj_m (jx s L X)) 0 0 (some (.int (if (jx_rd (mo_text s) L 12 0 (0, X.2)).1 = true then -1 else (jx_rd (mo_text s) L 12 0 (0, X.2)).2.2.2.2.2.2.2.1))) (jj_m (jx (mo_rmS s (nI ((jx_rd (mo_text s) L 12 0 (0, X.2)).2.1))) L ((jx_rd (mo_text s) L 12 0 (0, X.2)).2.2))) := by
  refine jj_Ev_of (lo := [some (.ref 28)]) (by decide +kernel) (Nat.le_of_ble_eq_true rfl) rfl (by trivial) ?_
  have iR := ev7_isRead (G := G) (s := s) (X := X) hb hL
  generalize jx_rd (mo_text s) L 12 0 (0, X.2) = R at iR ⊢
  by_cases z : R.1 = true
  · rw [jb_bt z] at iR
    rw [if_pos z]
    refine jj_aload_n dX7_fault_0 rfl ?_
    refine jj_callV (M2 := m7_isRead) dX7_fault_1 ml7_147 tm7_isRead (iR) rfl rfl rfl rfl rfl (by omega) (Nat.le_of_ble_eq_true rfl) ?_
    refine jj_if_eq (tgt := 11) dX7_fault_4 (by decide) (fun zz => absurd zz (by decide)) (fun _ => ?_)
    refine jj_iconst (v := (-1)) dX7_fault_7 (by decide) ?_
    refine jj_goto (tgt := 15) dX7_fault_8 (by decide) ?_
    exact jj_leaf dX7_fault_15 rfl rfl
  · rw [jb_bf z] at iR
    rw [if_neg z]
    refine jj_aload_n dX7_fault_0 rfl ?_
    refine jj_callV (M2 := m7_isRead) dX7_fault_1 ml7_147 tm7_isRead (iR) rfl rfl rfl rfl rfl (by omega) (Nat.le_of_ble_eq_true rfl) ?_
    refine jj_if_eq (tgt := 11) dX7_fault_4 (by decide) (fun _ => ?_) (fun zz => absurd rfl zz)
    refine jj_aload_n dX7_fault_11 rfl ?_
    refine jj_getf dX7_fault_12 fl7_103 rfl rfl ?_
    exact jj_leaf dX7_fault_15 rfl rfl
