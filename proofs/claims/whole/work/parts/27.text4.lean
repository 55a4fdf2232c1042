/-! THE TEXT: the reading of all lines -/
def j3_ok (s : jj_S) (k : Nat) (R : tkR) : jj_S := tx_lcS (j3_w s k (nI R.2.2.1) R.2.2.2.1 R.2.2.2.2) (nI (k + 1))
/-- behind a line: the token behind it -/
def j3_rt (cont : jj_S → Nat → Nat → Int32 × jj_S) (L : Nat) (s1 : jj_S) (t : Nat × Nat) : Int32 × jj_S :=
  if t.1 = L then (-1, j3_s s1 L t.1 t.2) else if tx_sg s1 t.1 = 59 then cont s1 t.1 t.2 else (nI t.1, j3_s s1 L t.1 t.2)
def j3_rk (cont : jj_S → Nat → Nat → Int32 × jj_S) (L k : Nat) (s : jj_S) (R : tkR) : Int32 × jj_S :=
  if R.1 = true then j3_rt cont L (j3_ok s k R) (tk_t (tx_sg s) L R.2.1.2) else (nI R.2.1.1, j3_s s L R.2.1.1 R.2.1.2)
/-- n lines more, from line k on -/
def j3_rd (L : Nat) : Nat → Nat → jj_S → Nat → Nat → Int32 × jj_S
  | 0, _, s, a, b => (nI a, j3_s s L a b)
  | n + 1, k, s, _, b => j3_rk (j3_rd L n (k + 1)) L k s (tk_l (tx_sg s) L b)
theorem tk_l_le {sg : Nat → Int32} {L p : Nat} (h : p ≤ L) : (tk_l sg L p).2.1.2 ≤ L := by
  have h1 := tk_t_le (sg := sg) h
  have h2 := tk_t_le (sg := sg) h1.2.2
  have h3 := tk_t_le (sg := sg) h2.2.2
  unfold tk_l tk_lb
  split
  · exact h1.2.2
  · split
    · exact h1.2.2
    · unfold tk_lc tk_ld
      split
      · exact h2.2.2
      · split
        · unfold tk_le tk_lf
          split
          · exact h3.2.2
          · exact h3.2.2
        · split
          · unfold tk_lg tk_lh
            split
            · exact h3.2.2
            · exact h3.2.2
          · exact h2.2.2
set_option maxRecDepth 100000 in
set_option maxHeartbeats 4000000 in
theorem ev3_read {G : jj_G} {s : jj_S} {L a b : Nat} (hL : L ≤ 200) : jj_Ev G m3_read 8 [.ref 1] (jj_m (j3_s s L a b)) 0 0 (some (.int (j3_rd L 12 0 (tx_lcS s 0) a 0).1)) (jj_m (j3_rd L 12 0 (tx_lcS s 0) a 0).2) := by
  refine jj_Ev_of (lo := [some (.ref 1), none]) (by decide +kernel) (Nat.le_of_ble_eq_true rfl) rfl (by trivial) ?_
  have M : ∀ k, k ≤ 12 → ∀ (s : jj_S) (a b : Nat), b ≤ L → jj_Go G m3_read 8 12 [some (.ref 1), some (.int (nI k))] [] (jj_m (j3_s s L a b)) 0 0 (some (.int (j3_rd L (12 - k) k s a b).1)) (jj_m (j3_rd L (12 - k) k s a b).2) := by
    refine jj_up 12 (fun k hk ih => ?_) ?_
    · intro s a b hb
      have e : 12 - k = (12 - (k + 1)) + 1 := by omega
      rw [e, j3_rd]
      have hR2 := tk_l_le (sg := tx_sg s) hb
      have E := ev3_readLine (G := G) (s := s) (L := L) (a := a) (b := b) (k := k) hb hL hk
      generalize (tk_l (tx_sg s) L b) = R at hR2 E ⊢
      obtain ⟨ok, t, w, f, g⟩ := R
      cases ok with
      | false =>
        show jj_Go G m3_read 8 12 [some (.ref 1), some (.int (nI k))] [] (jj_m (j3_s s L a b)) 0 0 (some (.int (nI t.1))) (jj_m (j3_s s L t.1 t.2))
        refine jj_iload_n dX3_read_12 rfl ?_
        refine jj_bipush (v := 12) dX3_read_13 (by decide) ?_
        refine jj_icmp_ge (tgt := 79) dX3_read_15 (by decide) (fun zz => absurd zz (jb_ge hk (by decide))) (fun _ => ?_)
        refine jj_aload_n dX3_read_18 rfl ?_
        refine jj_iload_n dX3_read_19 rfl ?_
        refine jj_callV (M2 := m3_readLine) dX3_read_20 ml3_40 tm3_readLine (E) rfl rfl rfl rfl rfl (by omega) (Nat.le_of_ble_eq_true rfl) ?_
        refine jj_if_ne (tgt := 31) dX3_read_23 (by decide) (fun zz => absurd rfl zz) (fun _ => ?_)
        refine jj_aload_n dX3_read_26 rfl ?_
        refine jj_getf dX3_read_27 fl3_44 rfl rfl ?_
        exact jj_leaf dX3_read_30 rfl rfl
      | true =>
        have ht := tk_t_le (sg := tx_sg s) hR2
        have E2 := ev3_nextToken_t (G := G) (s := (j3_ok s k (true, t, w, f, g))) (L := L) (a := t.1) (b := t.2) hR2 hL
        have E2 : jj_Ev G m3_nextToken 1 [.ref 1] (jj_m (j3_s (j3_ok s k (true, t, w, f, g)) L t.1 t.2)) 0 0 none (jj_m (j3_s (j3_ok s k (true, t, w, f, g)) L (tk_t (tx_sg s) L t.2).1 (tk_t (tx_sg s) L t.2).2)) := E2
        show jj_Go G m3_read 8 12 [some (.ref 1), some (.int (nI k))] [] (jj_m (j3_s s L a b)) 0 0 (some (.int (j3_rt (j3_rd L (12 - (k + 1)) (k + 1)) L (j3_ok s k (true, t, w, f, g)) (tk_t (tx_sg s) L t.2)).1)) (jj_m (j3_rt (j3_rd L (12 - (k + 1)) (k + 1)) L (j3_ok s k (true, t, w, f, g)) (tk_t (tx_sg s) L t.2)).2)
        generalize (tk_t (tx_sg s) L t.2) = T at ht E2 ⊢
        by_cases hT : T.1 = L
        · rw [show j3_rt (j3_rd L (12 - (k + 1)) (k + 1)) L (j3_ok s k (true, t, w, f, g)) T = (-1, j3_s (j3_ok s k (true, t, w, f, g)) L T.1 T.2) from if_pos hT]
          refine jj_iload_n dX3_read_12 rfl ?_
          refine jj_bipush (v := 12) dX3_read_13 (by decide) ?_
          refine jj_icmp_ge (tgt := 79) dX3_read_15 (by decide) (fun zz => absurd zz (jb_ge hk (by decide))) (fun _ => ?_)
          refine jj_aload_n dX3_read_18 rfl ?_
          refine jj_iload_n dX3_read_19 rfl ?_
          refine jj_callV (M2 := m3_readLine) dX3_read_20 ml3_40 tm3_readLine (E) rfl rfl rfl rfl rfl (by omega) (Nat.le_of_ble_eq_true rfl) ?_
          refine jj_if_ne (tgt := 31) dX3_read_23 (by decide) (fun _ => ?_) (fun zz => absurd zz (show ¬ ((1 : Int32) = 0) by decide))
          refine jj_aload_n dX3_read_31 rfl ?_
          refine jj_iload_n dX3_read_32 rfl ?_
          refine jj_iconst (v := 1) dX3_read_33 (by decide) ?_
          refine jj_iadd (v := nI (k + 1)) dX3_read_34 (jb_i k) ?_
          refine jj_putf dX3_read_35 (fw3_30 _) rfl (Nat.le_of_ble_eq_true rfl) rfl rfl rfl ?_
          refine jj_eq rfl rfl rfl (rfl : _ = jj_m (j3_s (j3_ok s k (true, t, w, f, g)) L t.1 t.2)) ?_
          refine jj_aload_n dX3_read_38 rfl ?_
          refine jj_callV (M2 := m3_nextToken) dX3_read_39 ml3_47 tm3_nextToken (E2) rfl rfl rfl rfl rfl (by omega) (Nat.le_of_ble_eq_true rfl) ?_
          refine jj_aload_n dX3_read_42 rfl ?_
          refine jj_getf dX3_read_43 fl3_44 rfl rfl ?_
          refine jj_aload_n dX3_read_46 rfl ?_
          refine jj_getf dX3_read_47 fl3_24 rfl rfl ?_
          refine jj_icmp_ne (tgt := 55) dX3_read_50 (by decide) (fun zz => absurd (by rw [← hT]; rfl) zz) (fun _ => ?_)
          refine jj_iconst (v := (-1)) dX3_read_53 (by decide) ?_
          exact jj_leaf dX3_read_54 rfl rfl
        · by_cases h59 : tx_sg s T.1 = 59
          · rw [show j3_rt (j3_rd L (12 - (k + 1)) (k + 1)) L (j3_ok s k (true, t, w, f, g)) T = j3_rd L (12 - (k + 1)) (k + 1) (j3_ok s k (true, t, w, f, g)) T.1 T.2 from (if_neg hT).trans (if_pos h59)]
            refine jj_iload_n dX3_read_12 rfl ?_
            refine jj_bipush (v := 12) dX3_read_13 (by decide) ?_
            refine jj_icmp_ge (tgt := 79) dX3_read_15 (by decide) (fun zz => absurd zz (jb_ge hk (by decide))) (fun _ => ?_)
            refine jj_aload_n dX3_read_18 rfl ?_
            refine jj_iload_n dX3_read_19 rfl ?_
            refine jj_callV (M2 := m3_readLine) dX3_read_20 ml3_40 tm3_readLine (E) rfl rfl rfl rfl rfl (by omega) (Nat.le_of_ble_eq_true rfl) ?_
            refine jj_if_ne (tgt := 31) dX3_read_23 (by decide) (fun _ => ?_) (fun zz => absurd zz (show ¬ ((1 : Int32) = 0) by decide))
            refine jj_aload_n dX3_read_31 rfl ?_
            refine jj_iload_n dX3_read_32 rfl ?_
            refine jj_iconst (v := 1) dX3_read_33 (by decide) ?_
            refine jj_iadd (v := nI (k + 1)) dX3_read_34 (jb_i k) ?_
            refine jj_putf dX3_read_35 (fw3_30 _) rfl (Nat.le_of_ble_eq_true rfl) rfl rfl rfl ?_
            refine jj_eq rfl rfl rfl (rfl : _ = jj_m (j3_s (j3_ok s k (true, t, w, f, g)) L t.1 t.2)) ?_
            refine jj_aload_n dX3_read_38 rfl ?_
            refine jj_callV (M2 := m3_nextToken) dX3_read_39 ml3_47 tm3_nextToken (E2) rfl rfl rfl rfl rfl (by omega) (Nat.le_of_ble_eq_true rfl) ?_
            refine jj_aload_n dX3_read_42 rfl ?_
            refine jj_getf dX3_read_43 fl3_44 rfl rfl ?_
            refine jj_aload_n dX3_read_46 rfl ?_
            refine jj_getf dX3_read_47 fl3_24 rfl rfl ?_
            refine jj_icmp_ne (tgt := 55) dX3_read_50 (by decide) (fun _ => ?_) (fun zz => absurd zz (fun z => hT ((jb_inj (by omega) (by omega)).mp z)))
            refine jj_aload_n dX3_read_55 rfl ?_
            refine jj_aload_n dX3_read_56 rfl ?_
            refine jj_getf dX3_read_57 fl3_44 rfl rfl ?_
            refine jj_callV (M2 := m3_signAt) dX3_read_60 ml3_50 tm3_signAt (ev3_signAt (s := (j3_ok s k (true, t, w, f, g))) (L := L) (a := T.1) (b := T.2) (i := T.1) (by omega) hL) rfl rfl rfl rfl rfl (by omega) (Nat.le_of_ble_eq_true rfl) ?_
            refine jj_bipush (v := 59) dX3_read_63 (by decide) ?_
            refine jj_icmp_eq (tgt := 73) dX3_read_65 (by decide) (fun _ => ?_) (fun zz => absurd h59 zz)
            refine jj_iinc dX3_read_73 rfl (jb_i k) (by decide) rfl ?_
            refine jj_goto (tgt := 12) dX3_read_76 (by decide) ?_
            exact jj_eq rfl rfl rfl rfl (ih (j3_ok s k (true, t, w, f, g)) T.1 T.2 ht.2.2)
          · rw [show j3_rt (j3_rd L (12 - (k + 1)) (k + 1)) L (j3_ok s k (true, t, w, f, g)) T = (nI T.1, j3_s (j3_ok s k (true, t, w, f, g)) L T.1 T.2) from (if_neg hT).trans (if_neg h59)]
            refine jj_iload_n dX3_read_12 rfl ?_
            refine jj_bipush (v := 12) dX3_read_13 (by decide) ?_
            refine jj_icmp_ge (tgt := 79) dX3_read_15 (by decide) (fun zz => absurd zz (jb_ge hk (by decide))) (fun _ => ?_)
            refine jj_aload_n dX3_read_18 rfl ?_
            refine jj_iload_n dX3_read_19 rfl ?_
            refine jj_callV (M2 := m3_readLine) dX3_read_20 ml3_40 tm3_readLine (E) rfl rfl rfl rfl rfl (by omega) (Nat.le_of_ble_eq_true rfl) ?_
            refine jj_if_ne (tgt := 31) dX3_read_23 (by decide) (fun _ => ?_) (fun zz => absurd zz (show ¬ ((1 : Int32) = 0) by decide))
            refine jj_aload_n dX3_read_31 rfl ?_
            refine jj_iload_n dX3_read_32 rfl ?_
            refine jj_iconst (v := 1) dX3_read_33 (by decide) ?_
            refine jj_iadd (v := nI (k + 1)) dX3_read_34 (jb_i k) ?_
            refine jj_putf dX3_read_35 (fw3_30 _) rfl (Nat.le_of_ble_eq_true rfl) rfl rfl rfl ?_
            refine jj_eq rfl rfl rfl (rfl : _ = jj_m (j3_s (j3_ok s k (true, t, w, f, g)) L t.1 t.2)) ?_
            refine jj_aload_n dX3_read_38 rfl ?_
            refine jj_callV (M2 := m3_nextToken) dX3_read_39 ml3_47 tm3_nextToken (E2) rfl rfl rfl rfl rfl (by omega) (Nat.le_of_ble_eq_true rfl) ?_
            refine jj_aload_n dX3_read_42 rfl ?_
            refine jj_getf dX3_read_43 fl3_44 rfl rfl ?_
            refine jj_aload_n dX3_read_46 rfl ?_
            refine jj_getf dX3_read_47 fl3_24 rfl rfl ?_
            refine jj_icmp_ne (tgt := 55) dX3_read_50 (by decide) (fun _ => ?_) (fun zz => absurd zz (fun z => hT ((jb_inj (by omega) (by omega)).mp z)))
            refine jj_aload_n dX3_read_55 rfl ?_
            refine jj_aload_n dX3_read_56 rfl ?_
            refine jj_getf dX3_read_57 fl3_44 rfl rfl ?_
            refine jj_callV (M2 := m3_signAt) dX3_read_60 ml3_50 tm3_signAt (ev3_signAt (s := (j3_ok s k (true, t, w, f, g))) (L := L) (a := T.1) (b := T.2) (i := T.1) (by omega) hL) rfl rfl rfl rfl rfl (by omega) (Nat.le_of_ble_eq_true rfl) ?_
            refine jj_bipush (v := 59) dX3_read_63 (by decide) ?_
            refine jj_icmp_eq (tgt := 73) dX3_read_65 (by decide) (fun zz => absurd zz h59) (fun _ => ?_)
            refine jj_aload_n dX3_read_68 rfl ?_
            refine jj_getf dX3_read_69 fl3_44 rfl rfl ?_
            exact jj_leaf dX3_read_72 rfl rfl
    · intro s a b hb
      rw [Nat.sub_self, j3_rd]
      refine jj_iload_n dX3_read_12 rfl ?_
      refine jj_bipush (v := 12) dX3_read_13 (by decide) ?_
      refine jj_icmp_ge (tgt := 79) dX3_read_15 (by decide) (fun _ => ?_) (fun zz => absurd (jb_ge' (n := 12) (by decide)) zz)
      refine jj_aload_n dX3_read_79 rfl ?_
      refine jj_getf dX3_read_80 fl3_44 rfl rfl ?_
      exact jj_leaf dX3_read_83 rfl rfl
  refine jj_aload_n dX3_read_0 rfl ?_
  refine jj_iconst (v := 0) dX3_read_1 (by decide) ?_
  refine jj_putf dX3_read_2 (fw3_30 _) rfl (Nat.le_of_ble_eq_true rfl) rfl rfl rfl ?_
  refine jj_aload_n dX3_read_5 rfl ?_
  refine jj_iconst (v := 0) dX3_read_6 (by decide) ?_
  refine jj_putf dX3_read_7 (fw3_37 _) rfl (Nat.le_of_ble_eq_true rfl) rfl rfl rfl ?_
  refine jj_iconst (v := 0) dX3_read_10 (by decide) ?_
  refine jj_istore_n dX3_read_11 rfl (by decide) rfl ?_
  exact jj_eq rfl rfl rfl rfl (M 0 (by decide) (tx_lcS s 0) a 0 (Nat.zero_le L))
