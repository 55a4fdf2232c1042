/-! THE TEXT: numbers, lines, the reading -/
theorem jb_ltI {a b : Nat} (ha : a < 2 ^ 31) (hb : b < 2 ^ 31) : nI a < nI b ↔ a < b := by
  rw [Int32.lt_iff_toInt_lt, nI_toInt ha, nI_toInt hb]; omega
theorem jb_leI {a b : Nat} (ha : a < 2 ^ 31) (hb : b < 2 ^ 31) : nI a ≤ nI b ↔ a ≤ b := by
  rw [Int32.le_iff_toInt_le, nI_toInt ha, nI_toInt hb]; omega
theorem j3_id {s : jj_S} {L a b : Nat} (h1 : tx_len s = nI L) (h2 : tx_ts s = nI a) (h3 : tx_te s = nI b) : j3_s s L a b = s := by
  obtain ⟨I, V⟩ := s
  have e : jU (jU (jU I 0 (nI L)) 1 (nI a)) 2 (nI b) = I := by
    funext j
    unfold jU
    by_cases q2 : j = 2
    · subst q2; rw [if_pos rfl]; exact h3.symm
    · rw [if_neg q2]
      by_cases q1 : j = 1
      · subst q1; rw [if_pos rfl]; exact h2.symm
      · rw [if_neg q1]
        by_cases q0 : j = 0
        · subst q0; rw [if_pos rfl]; exact h1.symm
        · rw [if_neg q0]
  show (jU (jU (jU I 0 (nI L)) 1 (nI a)) 2 (nI b), V) = (I, V)
  rw [e]
theorem j3_len {s : jj_S} {L : Nat} (h1 : tx_len s = nI L) : tx_lenS s (nI L) = s := by
  obtain ⟨I, V⟩ := s
  have e : jU I 0 (nI L) = I := by
    funext j
    unfold jU
    by_cases q0 : j = 0
    · subst q0; rw [if_pos rfl]; exact h1.symm
    · rw [if_neg q0]
  show (jU I 0 (nI L), V) = (I, V)
  rw [e]
def tk_t (sg : Nat → Int32) (L p : Nat) : Nat × Nat := (tk_q sg L p, tk_e sg L (tk_q sg L p))
theorem tk_t_le {sg : Nat → Int32} {L p : Nat} (h : p ≤ L) : p ≤ (tk_t sg L p).1 ∧ (tk_t sg L p).1 ≤ (tk_t sg L p).2 ∧ (tk_t sg L p).2 ≤ L := by
  have h1 := tk_q_le (sg := sg) h
  have h2 := tk_e_le (sg := sg) h1.2
  exact ⟨h1.1, h2.1, h2.2⟩
set_option maxRecDepth 100000 in
set_option maxHeartbeats 4000000 in
theorem ev3_nextNumber {G : jj_G} {s : jj_S} {L a b : Nat} (B : Int32) (hb : b ≤ L) (hL : L ≤ 200) : jj_Ev G m3_nextNumber 2 [.ref 1, .int B] (jj_m (j3_s s L a b)) 0 0 (some (.int (tk_n (tx_sg s) (tk_t (tx_sg s) L b).1 (tk_t (tx_sg s) L b).2 B))) (jj_m (j3_s s L (tk_t (tx_sg s) L b).1 (tk_t (tx_sg s) L b).2)) := by
  refine jj_Ev_of (lo := [some (.ref 1), some (.int B), none, none, none]) (by decide +kernel) (Nat.le_of_ble_eq_true rfl) rfl (by trivial) ?_
  have hh := tk_q_le (sg := tx_sg s) hb
  have hh2 := tk_e_le (sg := tx_sg s) hh.2
  rw [show tk_t (tx_sg s) L b = ((tk_q (tx_sg s) L b), (tk_e (tx_sg s) L (tk_q (tx_sg s) L b))) from rfl]
  show jj_Go G m3_nextNumber 2 0 [some (.ref 1), some (.int B), none, none, none] [] (jj_m (j3_s s L a b)) 0 0 (some (.int (tk_n (tx_sg s) (tk_q (tx_sg s) L b) (tk_e (tx_sg s) L (tk_q (tx_sg s) L b)) B))) (jj_m (j3_s s L (tk_q (tx_sg s) L b) (tk_e (tx_sg s) L (tk_q (tx_sg s) L b))))
  generalize hq : (tk_q (tx_sg s) L b) = q at hh hh2 ⊢
  generalize he : tk_e (tx_sg s) L q = e at hh2 ⊢
  have hqe := hh2.1
  by_cases hd : 1 ≤ e - q ∧ e - q ≤ 2
  · by_cases h3 : tk_so (tx_sg s q) = 1
    · rw [show tk_n (tx_sg s) q e B = if tk_nk (tx_sg s) q (e - q) < B then tk_nk (tx_sg s) q (e - q) else -1 from if_pos ⟨hd, h3⟩]
      generalize hD : e - q = D at hd ⊢
      have L0 : ∀ k, k ≤ D → jj_Go G m3_nextNumber 2 46 [some (.ref 1), some (.int B), some (.int (nI D)), some (.int (tk_nk (tx_sg s) q k)), some (.int (nI k))] [] (jj_m (j3_s s L q e)) 0 0 (some (.int (if tk_nk (tx_sg s) q D < B then tk_nk (tx_sg s) q D else -1))) (jj_m (j3_s s L q e)) := by
        refine jj_up D (fun k hk ih => ?_) ?_
        · refine jj_iload dX3_nextNumber_46 rfl ?_
          refine jj_iload_n dX3_nextNumber_48 rfl ?_
          refine jj_icmp_ge (tgt := 78) dX3_nextNumber_49 (by decide) (fun zz => absurd zz (nI_ge (a := k) (b := D) hk (by omega))) (fun _ => ?_)
          refine jj_iload_n dX3_nextNumber_52 rfl ?_
          refine jj_bipush (v := 10) dX3_nextNumber_53 (by decide) ?_
          refine jj_imul dX3_nextNumber_55 rfl ?_
          refine jj_aload_n dX3_nextNumber_56 rfl ?_
          refine jj_aload_n dX3_nextNumber_57 rfl ?_
          refine jj_getf dX3_nextNumber_58 fl3_44 rfl rfl ?_
          refine jj_iload dX3_nextNumber_61 rfl ?_
          refine jj_iadd dX3_nextNumber_63 (nI_add q k) ?_
          refine jj_callV (M2 := m3_signAt) dX3_nextNumber_64 ml3_50 tm3_signAt (ev3_signAt (s := s) (L := L) (a := q) (b := e) (i := q + k) (by omega) hL) rfl rfl rfl rfl rfl (by omega) (Nat.le_of_ble_eq_true rfl) ?_
          refine jj_iadd dX3_nextNumber_67 rfl ?_
          refine jj_bipush (v := 48) dX3_nextNumber_68 (by decide) ?_
          refine jj_isub dX3_nextNumber_70 rfl ?_
          refine jj_istore_n dX3_nextNumber_71 rfl (by decide) rfl ?_
          refine jj_iinc dX3_nextNumber_72 rfl (jb_i k) (by decide) rfl ?_
          refine jj_goto (tgt := 46) dX3_nextNumber_75 (by decide) ?_
          exact jj_eq rfl rfl rfl rfl ih
        · refine jj_iload dX3_nextNumber_46 rfl ?_
          refine jj_iload_n dX3_nextNumber_48 rfl ?_
          refine jj_icmp_ge (tgt := 78) dX3_nextNumber_49 (by decide) (fun _ => ?_) (fun zz => absurd (nI_le (Nat.le_refl D) (by omega)) zz)
          refine jj_iload_n dX3_nextNumber_78 rfl ?_
          refine jj_iload_n dX3_nextNumber_79 rfl ?_
          refine jj_icmp_ge (tgt := 87) dX3_nextNumber_80 (by decide) (fun c80 => ?_) (fun c80 => ?_)
          · refine jj_iconst (v := (-1)) dX3_nextNumber_87 (by decide) ?_
            exact jj_leaf dX3_nextNumber_88 (by rw [if_neg (Int32.not_lt.mpr c80)]; rfl) rfl
          · refine jj_iload_n dX3_nextNumber_83 rfl ?_
            refine jj_goto (tgt := 88) dX3_nextNumber_84 (by decide) ?_
            exact jj_leaf dX3_nextNumber_88 (by rw [if_pos (Int32.not_le.mp c80)]; rfl) rfl
      refine jj_aload_n dX3_nextNumber_0 rfl ?_
      refine jj_callV (M2 := m3_nextToken) dX3_nextNumber_1 ml3_47 tm3_nextToken (ev3_nextToken (s := s) (L := L) (a := a) (b := b) hb hL) rfl rfl rfl rfl rfl (by omega) (Nat.le_of_ble_eq_true rfl) ?_
      rw [hq, he]
      refine jj_aload_n dX3_nextNumber_4 rfl ?_
      refine jj_getf dX3_nextNumber_5 fl3_37 rfl rfl ?_
      refine jj_aload_n dX3_nextNumber_8 rfl ?_
      refine jj_getf dX3_nextNumber_9 fl3_44 rfl rfl ?_
      refine jj_isub (v := nI (e - q)) dX3_nextNumber_12 (pk_sub hqe) ?_
      refine jj_istore_n dX3_nextNumber_13 rfl (by decide) rfl ?_
      refine jj_iload_n dX3_nextNumber_14 rfl ?_
      refine jj_iconst (v := 1) dX3_nextNumber_15 (by decide) ?_
      refine jj_icmp_lt (tgt := 39) dX3_nextNumber_16 (by decide) (fun zz => absurd zz (nI_nlt (a := e - q) (b := 1) (by omega) (by omega))) (fun _ => ?_)
      refine jj_iload_n dX3_nextNumber_19 rfl ?_
      refine jj_iconst (v := 2) dX3_nextNumber_20 (by decide) ?_
      refine jj_icmp_gt (tgt := 39) dX3_nextNumber_21 (by decide) (fun zz => absurd zz (nI_nlt (a := 2) (b := e - q) (by omega) (by omega))) (fun _ => ?_)
      refine jj_aload_n dX3_nextNumber_24 rfl ?_
      refine jj_aload_n dX3_nextNumber_25 rfl ?_
      refine jj_getf dX3_nextNumber_26 fl3_44 rfl rfl ?_
      refine jj_callV (M2 := m3_signAt) dX3_nextNumber_29 ml3_50 tm3_signAt (ev3_signAt (s := s) (L := L) (a := q) (b := e) (i := q) (by omega) hL) rfl rfl rfl rfl rfl (by omega) (Nat.le_of_ble_eq_true rfl) ?_
      refine jj_callS (M2 := m3_sortOf) dX3_nextNumber_32 ml3_71 tm3_sortOf (ev3_sortOf (tx_sg s q)) rfl rfl (by omega) (Nat.le_of_ble_eq_true rfl) ?_
      refine jj_iconst (v := 1) dX3_nextNumber_35 (by decide) ?_
      refine jj_icmp_eq (tgt := 41) dX3_nextNumber_36 (by decide) (fun _ => ?_) (fun zz => absurd h3 zz)
      rw [hD]
      refine jj_iconst (v := 0) dX3_nextNumber_41 (by decide) ?_
      refine jj_istore_n dX3_nextNumber_42 rfl (by decide) rfl ?_
      refine jj_iconst (v := 0) dX3_nextNumber_43 (by decide) ?_
      refine jj_istore dX3_nextNumber_44 (by decide) rfl ?_
      exact jj_eq rfl rfl rfl rfl (L0 0 (Nat.zero_le D))
    · rw [show tk_n (tx_sg s) q e B = -1 from if_neg fun z => h3 z.2]
      refine jj_aload_n dX3_nextNumber_0 rfl ?_
      refine jj_callV (M2 := m3_nextToken) dX3_nextNumber_1 ml3_47 tm3_nextToken (ev3_nextToken (s := s) (L := L) (a := a) (b := b) hb hL) rfl rfl rfl rfl rfl (by omega) (Nat.le_of_ble_eq_true rfl) ?_
      rw [hq, he]
      refine jj_aload_n dX3_nextNumber_4 rfl ?_
      refine jj_getf dX3_nextNumber_5 fl3_37 rfl rfl ?_
      refine jj_aload_n dX3_nextNumber_8 rfl ?_
      refine jj_getf dX3_nextNumber_9 fl3_44 rfl rfl ?_
      refine jj_isub (v := nI (e - q)) dX3_nextNumber_12 (pk_sub hqe) ?_
      refine jj_istore_n dX3_nextNumber_13 rfl (by decide) rfl ?_
      refine jj_iload_n dX3_nextNumber_14 rfl ?_
      refine jj_iconst (v := 1) dX3_nextNumber_15 (by decide) ?_
      refine jj_icmp_lt (tgt := 39) dX3_nextNumber_16 (by decide) (fun zz => absurd zz (nI_nlt (a := e - q) (b := 1) (by omega) (by omega))) (fun _ => ?_)
      refine jj_iload_n dX3_nextNumber_19 rfl ?_
      refine jj_iconst (v := 2) dX3_nextNumber_20 (by decide) ?_
      refine jj_icmp_gt (tgt := 39) dX3_nextNumber_21 (by decide) (fun zz => absurd zz (nI_nlt (a := 2) (b := e - q) (by omega) (by omega))) (fun _ => ?_)
      refine jj_aload_n dX3_nextNumber_24 rfl ?_
      refine jj_aload_n dX3_nextNumber_25 rfl ?_
      refine jj_getf dX3_nextNumber_26 fl3_44 rfl rfl ?_
      refine jj_callV (M2 := m3_signAt) dX3_nextNumber_29 ml3_50 tm3_signAt (ev3_signAt (s := s) (L := L) (a := q) (b := e) (i := q) (by omega) hL) rfl rfl rfl rfl rfl (by omega) (Nat.le_of_ble_eq_true rfl) ?_
      refine jj_callS (M2 := m3_sortOf) dX3_nextNumber_32 ml3_71 tm3_sortOf (ev3_sortOf (tx_sg s q)) rfl rfl (by omega) (Nat.le_of_ble_eq_true rfl) ?_
      refine jj_iconst (v := 1) dX3_nextNumber_35 (by decide) ?_
      refine jj_icmp_eq (tgt := 41) dX3_nextNumber_36 (by decide) (fun zz => absurd zz h3) (fun _ => ?_)
      refine jj_iconst (v := (-1)) dX3_nextNumber_39 (by decide) ?_
      exact jj_leaf dX3_nextNumber_40 rfl rfl
  · rw [show tk_n (tx_sg s) q e B = -1 from if_neg fun z => hd z.1]
    by_cases h1 : 1 ≤ e - q
    · skip
      refine jj_aload_n dX3_nextNumber_0 rfl ?_
      refine jj_callV (M2 := m3_nextToken) dX3_nextNumber_1 ml3_47 tm3_nextToken (ev3_nextToken (s := s) (L := L) (a := a) (b := b) hb hL) rfl rfl rfl rfl rfl (by omega) (Nat.le_of_ble_eq_true rfl) ?_
      rw [hq, he]
      refine jj_aload_n dX3_nextNumber_4 rfl ?_
      refine jj_getf dX3_nextNumber_5 fl3_37 rfl rfl ?_
      refine jj_aload_n dX3_nextNumber_8 rfl ?_
      refine jj_getf dX3_nextNumber_9 fl3_44 rfl rfl ?_
      refine jj_isub (v := nI (e - q)) dX3_nextNumber_12 (pk_sub hqe) ?_
      refine jj_istore_n dX3_nextNumber_13 rfl (by decide) rfl ?_
      refine jj_iload_n dX3_nextNumber_14 rfl ?_
      refine jj_iconst (v := 1) dX3_nextNumber_15 (by decide) ?_
      refine jj_icmp_lt (tgt := 39) dX3_nextNumber_16 (by decide) (fun zz => absurd zz (nI_nlt (a := e - q) (b := 1) (by omega) (by omega))) (fun _ => ?_)
      refine jj_iload_n dX3_nextNumber_19 rfl ?_
      refine jj_iconst (v := 2) dX3_nextNumber_20 (by decide) ?_
      refine jj_icmp_gt (tgt := 39) dX3_nextNumber_21 (by decide) (fun _ => ?_) (fun zz => absurd (nI_lt (a := 2) (b := e - q) (by omega) (by omega)) zz)
      refine jj_iconst (v := (-1)) dX3_nextNumber_39 (by decide) ?_
      exact jj_leaf dX3_nextNumber_40 rfl rfl
    · skip
      refine jj_aload_n dX3_nextNumber_0 rfl ?_
      refine jj_callV (M2 := m3_nextToken) dX3_nextNumber_1 ml3_47 tm3_nextToken (ev3_nextToken (s := s) (L := L) (a := a) (b := b) hb hL) rfl rfl rfl rfl rfl (by omega) (Nat.le_of_ble_eq_true rfl) ?_
      rw [hq, he]
      refine jj_aload_n dX3_nextNumber_4 rfl ?_
      refine jj_getf dX3_nextNumber_5 fl3_37 rfl rfl ?_
      refine jj_aload_n dX3_nextNumber_8 rfl ?_
      refine jj_getf dX3_nextNumber_9 fl3_44 rfl rfl ?_
      refine jj_isub (v := nI (e - q)) dX3_nextNumber_12 (pk_sub hqe) ?_
      refine jj_istore_n dX3_nextNumber_13 rfl (by decide) rfl ?_
      refine jj_iload_n dX3_nextNumber_14 rfl ?_
      refine jj_iconst (v := 1) dX3_nextNumber_15 (by decide) ?_
      refine jj_icmp_lt (tgt := 39) dX3_nextNumber_16 (by decide) (fun _ => ?_) (fun zz => absurd (nI_lt (a := e - q) (b := 1) (by omega) (by omega)) zz)
      refine jj_iconst (v := (-1)) dX3_nextNumber_39 (by decide) ?_
      exact jj_leaf dX3_nextNumber_40 rfl rfl
def j3_w (s : jj_S) (k : Nat) (w f g : Int32) : jj_S := tx_scS (tx_fsS (tx_wdS s (jU (tx_wd s) k w)) (jU (tx_fs s) k f)) (jU (tx_sc s) k g)
set_option maxRecDepth 100000 in
set_option maxHeartbeats 4000000 in
theorem ev3_setLine {G : jj_G} {s : jj_S} {k : Nat} (w f g : Int32) (hk : k < 12) : jj_Ev G m3_setLine 0 [.ref 1, .int (nI k), .int w, .int f, .int g] (jj_m s) 0 0 (none) (jj_m (j3_w s k w f g)) := by
  refine jj_Ev_of (lo := [some (.ref 1), some (.int (nI k)), some (.int w), some (.int f), some (.int g)]) (by decide +kernel) (Nat.le_of_ble_eq_true rfl) rfl (by trivial) ?_
  refine jj_iload_n dX3_setLine_0 rfl ?_
  refine jj_if_lt (tgt := 53) dX3_setLine_1 (by decide) (fun zz => absurd zz (jb_lt0 (by omega))) (fun _ => ?_)
  refine jj_iload_n dX3_setLine_4 rfl ?_
  refine jj_aload_n dX3_setLine_5 rfl ?_
  refine jj_getf dX3_setLine_6 fl3_15 rfl rfl ?_
  refine jv_alen_i (v := 12) dX3_setLine_9 rfl rfl ?_
  refine jj_icmp_ge (tgt := 53) dX3_setLine_10 (by decide) (fun zz => absurd zz (jb_ge hk (by decide))) (fun _ => ?_)
  refine jj_iload_n dX3_setLine_13 rfl ?_
  refine jj_aload_n dX3_setLine_14 rfl ?_
  refine jj_getf dX3_setLine_15 fl3_18 rfl rfl ?_
  refine jv_alen_i (v := 12) dX3_setLine_18 rfl rfl ?_
  refine jj_icmp_ge (tgt := 53) dX3_setLine_19 (by decide) (fun zz => absurd zz (jb_ge hk (by decide))) (fun _ => ?_)
  refine jj_iload_n dX3_setLine_22 rfl ?_
  refine jj_aload_n dX3_setLine_23 rfl ?_
  refine jj_getf dX3_setLine_24 fl3_21 rfl rfl ?_
  refine jv_alen_i (v := 12) dX3_setLine_27 rfl rfl ?_
  refine jj_icmp_ge (tgt := 53) dX3_setLine_28 (by decide) (fun zz => absurd zz (jb_ge hk (by decide))) (fun _ => ?_)
  refine jj_aload_n dX3_setLine_31 rfl ?_
  refine jj_getf dX3_setLine_32 fl3_15 rfl rfl ?_
  refine jj_iload_n dX3_setLine_35 rfl ?_
  refine jj_iload_n dX3_setLine_36 rfl ?_
  refine jv_iast dX3_setLine_37 rfl (hk) (by decide) rfl ?_
  refine jj_aload_n dX3_setLine_38 rfl ?_
  refine jj_getf dX3_setLine_39 fl3_18 rfl rfl ?_
  refine jj_iload_n dX3_setLine_42 rfl ?_
  refine jj_iload_n dX3_setLine_43 rfl ?_
  refine jv_iast dX3_setLine_44 rfl (hk) (by decide) rfl ?_
  refine jj_aload_n dX3_setLine_45 rfl ?_
  refine jj_getf dX3_setLine_46 fl3_21 rfl rfl ?_
  refine jj_iload_n dX3_setLine_49 rfl ?_
  refine jj_iload dX3_setLine_50 rfl ?_
  refine jv_iast dX3_setLine_52 rfl (hk) (by decide) rfl ?_
  exact jj_leaf dX3_setLine_53 rfl rfl
set_option maxRecDepth 100000 in
set_option maxHeartbeats 4000000 in
theorem ev3_length {G : jj_G} {s : jj_S}  : jj_Ev G m3_length 0 [.ref 1] (jj_m s) 0 0 (some (.int (tx_len s))) (jj_m s) := by
  refine jj_Ev_of (lo := [some (.ref 1)]) (by decide +kernel) (Nat.le_of_ble_eq_true rfl) rfl (by trivial) ?_
  refine jj_aload_n dX3_length_0 rfl ?_
  refine jj_getf dX3_length_1 fl3_24 rfl rfl ?_
  exact jj_leaf dX3_length_4 rfl rfl
set_option maxRecDepth 100000 in
set_option maxHeartbeats 4000000 in
theorem ev3_lineCount {G : jj_G} {s : jj_S}  : jj_Ev G m3_lineCount 0 [.ref 1] (jj_m s) 0 0 (some (.int (tx_lc s))) (jj_m s) := by
  refine jj_Ev_of (lo := [some (.ref 1)]) (by decide +kernel) (Nat.le_of_ble_eq_true rfl) rfl (by trivial) ?_
  refine jj_aload_n dX3_lineCount_0 rfl ?_
  refine jj_getf dX3_lineCount_1 fl3_30 rfl rfl ?_
  exact jj_leaf dX3_lineCount_4 rfl rfl
set_option maxRecDepth 100000 in
set_option maxHeartbeats 4000000 in
theorem ev3_clear {G : jj_G} {s : jj_S}  : jj_Ev G m3_clear 0 [.ref 1] (jj_m s) 0 0 (some (.int (tx_len s))) (jj_m (tx_lenS s 0)) := by
  refine jj_Ev_of (lo := [some (.ref 1), none]) (by decide +kernel) (Nat.le_of_ble_eq_true rfl) rfl (by trivial) ?_
  refine jj_aload_n dX3_clear_0 rfl ?_
  refine jj_getf dX3_clear_1 fl3_24 rfl rfl ?_
  refine jj_istore_n dX3_clear_4 rfl (by decide) rfl ?_
  refine jj_aload_n dX3_clear_5 rfl ?_
  refine jj_iconst (v := 0) dX3_clear_6 (by decide) ?_
  refine jj_putf dX3_clear_7 (fw3_24 _) rfl (Nat.le_of_ble_eq_true rfl) rfl rfl rfl ?_
  refine jj_iload_n dX3_clear_10 rfl ?_
  exact jj_leaf dX3_clear_11 rfl rfl
set_option maxRecDepth 100000 in
set_option maxHeartbeats 4000000 in
theorem ev3_inLine_wd {G : jj_G} {s : jj_S} {k : Nat} (hk : k < 12) : jj_Ev G m3_inLine 0 [.ref 3, .int (nI k)] (jj_m s) 0 0 (some (.int (tx_wd s k))) (jj_m s) := by
  refine jj_Ev_of (lo := [some (.ref 3), some (.int (nI k))]) (by decide +kernel) (Nat.le_of_ble_eq_true rfl) rfl (by trivial) ?_
  refine jj_iload_n dX3_inLine_0 rfl ?_
  refine jj_if_lt (tgt := 16) dX3_inLine_1 (by decide) (fun zz => absurd zz (jb_lt0 (by omega))) (fun _ => ?_)
  refine jj_iload_n dX3_inLine_4 rfl ?_
  refine jj_aload_n dX3_inLine_5 rfl ?_
  refine jv_alen_i (v := 12) dX3_inLine_6 rfl rfl ?_
  refine jj_icmp_ge (tgt := 16) dX3_inLine_7 (by decide) (fun zz => absurd zz (jb_ge hk (by decide))) (fun _ => ?_)
  refine jj_aload_n dX3_inLine_10 rfl ?_
  refine jj_iload_n dX3_inLine_11 rfl ?_
  refine jv_iald dX3_inLine_12 rfl (hk) (by decide) ?_
  refine jj_goto (tgt := 17) dX3_inLine_13 (by decide) ?_
  exact jj_leaf dX3_inLine_17 rfl rfl
set_option maxRecDepth 100000 in
set_option maxHeartbeats 4000000 in
theorem ev3_wordOf {G : jj_G} {s : jj_S} {k : Nat} (hk : k < 12) : jj_Ev G m3_wordOf 1 [.ref 1, .int (nI k)] (jj_m s) 0 0 (some (.int (tx_wd s k))) (jj_m s) := by
  refine jj_Ev_of (lo := [some (.ref 1), some (.int (nI k))]) (by decide +kernel) (Nat.le_of_ble_eq_true rfl) rfl (by trivial) ?_
  refine jj_aload_n dX3_wordOf_0 rfl ?_
  refine jj_getf dX3_wordOf_1 fl3_15 rfl rfl ?_
  refine jj_iload_n dX3_wordOf_4 rfl ?_
  refine jj_callS (M2 := m3_inLine) dX3_wordOf_5 ml3_33 tm3_inLine (ev3_inLine_wd hk) rfl rfl (by omega) (Nat.le_of_ble_eq_true rfl) ?_
  exact jj_leaf dX3_wordOf_8 rfl rfl
set_option maxRecDepth 100000 in
set_option maxHeartbeats 4000000 in
theorem ev3_inLine_fs {G : jj_G} {s : jj_S} {k : Nat} (hk : k < 12) : jj_Ev G m3_inLine 0 [.ref 4, .int (nI k)] (jj_m s) 0 0 (some (.int (tx_fs s k))) (jj_m s) := by
  refine jj_Ev_of (lo := [some (.ref 4), some (.int (nI k))]) (by decide +kernel) (Nat.le_of_ble_eq_true rfl) rfl (by trivial) ?_
  refine jj_iload_n dX3_inLine_0 rfl ?_
  refine jj_if_lt (tgt := 16) dX3_inLine_1 (by decide) (fun zz => absurd zz (jb_lt0 (by omega))) (fun _ => ?_)
  refine jj_iload_n dX3_inLine_4 rfl ?_
  refine jj_aload_n dX3_inLine_5 rfl ?_
  refine jv_alen_i (v := 12) dX3_inLine_6 rfl rfl ?_
  refine jj_icmp_ge (tgt := 16) dX3_inLine_7 (by decide) (fun zz => absurd zz (jb_ge hk (by decide))) (fun _ => ?_)
  refine jj_aload_n dX3_inLine_10 rfl ?_
  refine jj_iload_n dX3_inLine_11 rfl ?_
  refine jv_iald dX3_inLine_12 rfl (hk) (by decide) ?_
  refine jj_goto (tgt := 17) dX3_inLine_13 (by decide) ?_
  exact jj_leaf dX3_inLine_17 rfl rfl
set_option maxRecDepth 100000 in
set_option maxHeartbeats 4000000 in
theorem ev3_firstOf {G : jj_G} {s : jj_S} {k : Nat} (hk : k < 12) : jj_Ev G m3_firstOf 1 [.ref 1, .int (nI k)] (jj_m s) 0 0 (some (.int (tx_fs s k))) (jj_m s) := by
  refine jj_Ev_of (lo := [some (.ref 1), some (.int (nI k))]) (by decide +kernel) (Nat.le_of_ble_eq_true rfl) rfl (by trivial) ?_
  refine jj_aload_n dX3_firstOf_0 rfl ?_
  refine jj_getf dX3_firstOf_1 fl3_18 rfl rfl ?_
  refine jj_iload_n dX3_firstOf_4 rfl ?_
  refine jj_callS (M2 := m3_inLine) dX3_firstOf_5 ml3_33 tm3_inLine (ev3_inLine_fs hk) rfl rfl (by omega) (Nat.le_of_ble_eq_true rfl) ?_
  exact jj_leaf dX3_firstOf_8 rfl rfl
set_option maxRecDepth 100000 in
set_option maxHeartbeats 4000000 in
theorem ev3_inLine_sc {G : jj_G} {s : jj_S} {k : Nat} (hk : k < 12) : jj_Ev G m3_inLine 0 [.ref 5, .int (nI k)] (jj_m s) 0 0 (some (.int (tx_sc s k))) (jj_m s) := by
  refine jj_Ev_of (lo := [some (.ref 5), some (.int (nI k))]) (by decide +kernel) (Nat.le_of_ble_eq_true rfl) rfl (by trivial) ?_
  refine jj_iload_n dX3_inLine_0 rfl ?_
  refine jj_if_lt (tgt := 16) dX3_inLine_1 (by decide) (fun zz => absurd zz (jb_lt0 (by omega))) (fun _ => ?_)
  refine jj_iload_n dX3_inLine_4 rfl ?_
  refine jj_aload_n dX3_inLine_5 rfl ?_
  refine jv_alen_i (v := 12) dX3_inLine_6 rfl rfl ?_
  refine jj_icmp_ge (tgt := 16) dX3_inLine_7 (by decide) (fun zz => absurd zz (jb_ge hk (by decide))) (fun _ => ?_)
  refine jj_aload_n dX3_inLine_10 rfl ?_
  refine jj_iload_n dX3_inLine_11 rfl ?_
  refine jv_iald dX3_inLine_12 rfl (hk) (by decide) ?_
  refine jj_goto (tgt := 17) dX3_inLine_13 (by decide) ?_
  exact jj_leaf dX3_inLine_17 rfl rfl
set_option maxRecDepth 100000 in
set_option maxHeartbeats 4000000 in
theorem ev3_secondOf {G : jj_G} {s : jj_S} {k : Nat} (hk : k < 12) : jj_Ev G m3_secondOf 1 [.ref 1, .int (nI k)] (jj_m s) 0 0 (some (.int (tx_sc s k))) (jj_m s) := by
  refine jj_Ev_of (lo := [some (.ref 1), some (.int (nI k))]) (by decide +kernel) (Nat.le_of_ble_eq_true rfl) rfl (by trivial) ?_
  refine jj_aload_n dX3_secondOf_0 rfl ?_
  refine jj_getf dX3_secondOf_1 fl3_21 rfl rfl ?_
  refine jj_iload_n dX3_secondOf_4 rfl ?_
  refine jj_callS (M2 := m3_inLine) dX3_secondOf_5 ml3_33 tm3_inLine (ev3_inLine_sc hk) rfl rfl (by omega) (Nat.le_of_ble_eq_true rfl) ?_
  exact jj_leaf dX3_secondOf_8 rfl rfl
set_option maxRecDepth 100000 in
set_option maxHeartbeats 4000000 in
theorem ev3_hasRoomFor {G : jj_G} {s : jj_S} {L n : Nat} (hL : L ≤ 200) (hn : n < 100) : jj_Ev G m3_hasRoomFor 0 [.ref 1, .int (nI n)] (jj_m (tx_lenS s (nI L))) 0 0 (some (.int (jb_b (n ≤ 200 - L)))) (jj_m (tx_lenS s (nI L))) := by
  refine jj_Ev_of (lo := [some (.ref 1), some (.int (nI n))]) (by decide +kernel) (Nat.le_of_ble_eq_true rfl) rfl (jb_b01 _) ?_
  refine jj_iload_n dX3_hasRoomFor_0 rfl ?_
  refine jj_aload_n dX3_hasRoomFor_1 rfl ?_
  refine jj_getf dX3_hasRoomFor_2 fl3_11 rfl rfl ?_
  refine jv_alen_i (v := nI 200) dX3_hasRoomFor_5 rfl rfl ?_
  refine jj_aload_n dX3_hasRoomFor_6 rfl ?_
  refine jj_getf dX3_hasRoomFor_7 fl3_24 rfl rfl ?_
  refine jj_isub (v := nI (200 - L)) dX3_hasRoomFor_10 (pk_sub hL) ?_
  refine jj_icmp_gt (tgt := 18) dX3_hasRoomFor_11 (by decide) (fun c11 => ?_) (fun c11 => ?_)
  · refine jj_iconst (v := 0) dX3_hasRoomFor_18 (by decide) ?_
    exact jj_leaf dX3_hasRoomFor_19 (by rw [jb_bf (fun q => by have := (jb_ltI (by omega) (by omega)).mp c11; omega)]; rfl) rfl
  · refine jj_iconst (v := 1) dX3_hasRoomFor_14 (by decide) ?_
    refine jj_goto (tgt := 19) dX3_hasRoomFor_15 (by decide) ?_
    exact jj_leaf dX3_hasRoomFor_19 (by rw [jb_bt (by have := mt (jb_ltI (a := 200 - L) (b := n) (by omega) (by omega)).mpr c11; omega)]; rfl) rfl
def j3_ch (b : Int64) (k : Nat) : Int32 := ((b >>> ((nI (8 * k)).toInt64 &&& 63)) &&& 255).toInt32
def j3_ap (b : Int64) (sg : Nat → Int32) (L : Nat) : Nat → Nat → Int32
  | 0 => sg
  | k + 1 => jU (j3_ap b sg L k) (L + k) (j3_ch b k)
set_option maxRecDepth 100000 in
set_option maxHeartbeats 4000000 in
theorem ev3_append {G : jj_G} {s : jj_S} {L n : Nat} (v : Int64) (hL : L + n ≤ 200) : jj_Ev G m3_append 0 [.ref 1, .long v, .int (nI n)] (jj_m (tx_lenS s (nI L))) 0 0 (some (.int (nI (L + n)))) (jj_m (tx_lenS (tx_sgS s (j3_ap v (tx_sg s) L n)) (nI (L + n)))) := by
  refine jj_Ev_of (lo := [some (.ref 1), some (.long v), none, some (.int (nI n)), none]) (by decide +kernel) (Nat.le_of_ble_eq_true rfl) rfl (by trivial) ?_
  have L0 : ∀ k, k ≤ n → jj_Go G m3_append 0 3 [some (.ref 1), some (.long v), none, some (.int (nI n)), some (.int (nI k))] [] (jj_m (tx_lenS (tx_sgS s (j3_ap v (tx_sg s) L k)) (nI (L + k)))) 0 0 (some (.int (nI (L + n)))) (jj_m (tx_lenS (tx_sgS s (j3_ap v (tx_sg s) L n)) (nI (L + n)))) := by
    refine jj_up n (fun k hk ih => ?_) ?_
    · refine jj_iload dX3_append_3 rfl ?_
      refine jj_iload_n dX3_append_5 rfl ?_
      refine jj_icmp_ge (tgt := 58) dX3_append_6 (by decide) (fun zz => absurd zz (nI_ge (a := k) (b := n) hk (by omega))) (fun _ => ?_)
      refine jj_aload_n dX3_append_9 rfl ?_
      refine jj_getf dX3_append_10 fl3_24 rfl rfl ?_
      refine jj_aload_n dX3_append_13 rfl ?_
      refine jj_getf dX3_append_14 fl3_11 rfl rfl ?_
      refine jv_alen_i (v := 200) dX3_append_17 rfl rfl ?_
      refine jj_icmp_ge (tgt := 58) dX3_append_18 (by decide) (fun zz => absurd zz (jb_ge (k := L + k) (n := 200) (by omega) (by decide))) (fun _ => ?_)
      refine jj_aload_n dX3_append_21 rfl ?_
      refine jj_getf dX3_append_22 fl3_11 rfl rfl ?_
      refine jj_aload_n dX3_append_25 rfl ?_
      refine jj_getf dX3_append_26 fl3_24 rfl rfl ?_
      refine jj_lload_n dX3_append_29 rfl ?_
      refine jj_bipush (v := nI 8) dX3_append_30 (by decide) ?_
      refine jj_iload dX3_append_32 rfl ?_
      refine jj_imul dX3_append_34 (j4_mul 8 k) ?_
      refine jj_lshr dX3_append_35 rfl ?_
      refine jj_ldc2 dX3_append_36 kc3_28 ?_
      refine jj_land dX3_append_39 rfl ?_
      refine jj_l2i dX3_append_40 rfl ?_
      refine jv_iast (k := L + k) dX3_append_41 rfl (by omega) (by decide) rfl ?_
      refine jj_aload_n dX3_append_42 rfl ?_
      refine jj_dup dX3_append_43 rfl ?_
      refine jj_getf dX3_append_44 fl3_24 rfl rfl ?_
      refine jj_iconst (v := 1) dX3_append_47 (by decide) ?_
      refine jj_iadd (v := nI (L + (k + 1))) dX3_append_48 (jb_i (L + k)) ?_
      refine jj_putf dX3_append_49 (fw3_24 _) rfl (Nat.le_of_ble_eq_true rfl) rfl rfl rfl ?_
      refine jj_iinc dX3_append_52 rfl (jb_i k) (by decide) rfl ?_
      refine jj_goto (tgt := 3) dX3_append_55 (by decide) ?_
      exact jj_eq rfl rfl rfl rfl ih
    · refine jj_iload dX3_append_3 rfl ?_
      refine jj_iload_n dX3_append_5 rfl ?_
      refine jj_icmp_ge (tgt := 58) dX3_append_6 (by decide) (fun _ => ?_) (fun zz => absurd (nI_le (Nat.le_refl n) (by omega)) zz)
      refine jj_aload_n dX3_append_58 rfl ?_
      refine jj_getf dX3_append_59 fl3_24 rfl rfl ?_
      exact jj_leaf dX3_append_62 rfl rfl
  refine jj_iconst (v := 0) dX3_append_0 (by decide) ?_
  refine jj_istore dX3_append_1 (by decide) rfl ?_
  exact jj_eq rfl rfl rfl rfl (L0 0 (Nat.zero_le n))
