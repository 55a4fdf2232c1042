/-! THE TEXT: tokens over a row of signs sg, L of them -/
def j3_s (s : jj_S) (L a b : Nat) : jj_S := tx_teS (tx_tsS (tx_lenS s (nI L)) (nI a)) (nI b)
def tk_so (x : Int32) : Int32 := if x < 97 ∨ 122 < x then (if x < 48 ∨ 57 < x then 2 else 1) else 0
def tk_q (sg : Nat → Int32) (L p : Nat) : Nat := jb_fst (fun i => sg i != 32) p (L - p)
def tk_e (sg : Nat → Int32) (L q : Nat) : Nat := if q < L then (if tk_so (sg q) = 2 then q + 1 else jb_fst (fun i => tk_so (sg i) != tk_so (sg q)) (q + 1) (L - (q + 1))) else q
theorem jb_fst_le (p : Nat → Bool) : ∀ n k, k ≤ jb_fst p k n ∧ jb_fst p k n ≤ k + n := by
  intro n
  induction n with
  | zero => intro k; exact ⟨Nat.le_refl k, Nat.le_refl k⟩
  | succ n ih =>
    intro k
    unfold jb_fst
    split
    · omega
    · have := ih (k + 1); omega
theorem tk_q_le {sg : Nat → Int32} {L p : Nat} (h : p ≤ L) : p ≤ tk_q sg L p ∧ tk_q sg L p ≤ L := by
  have := jb_fst_le (fun i => sg i != 32) (L - p) p
  unfold tk_q
  omega
theorem tk_e_le {sg : Nat → Int32} {L q : Nat} (h : q ≤ L) : q ≤ tk_e sg L q ∧ tk_e sg L q ≤ L := by
  unfold tk_e
  split
  · split
    · omega
    · have := jb_fst_le (fun i => tk_so (sg i) != tk_so (sg q)) (L - (q + 1)) (q + 1)
      omega
  · omega
def tk_sp (sg : Nat → Int32) (q e i : Nat) : Bool := decide (e - q = jj_tl.getD i 0) && jb_all (fun j => sg (q + j) == js_c i j) (jj_tl.getD i 0)
/-- a word's place, 8 for none -/
def tk_w (sg : Nat → Int32) (q e : Nat) : Nat := jb_fst (tk_sp sg q e) 0 8
def tk_nk (sg : Nat → Int32) (q : Nat) : Nat → Int32
  | 0 => 0
  | k + 1 => tk_nk sg q k * 10 + sg (q + k) - 48
def tk_n (sg : Nat → Int32) (q e : Nat) (b : Int32) : Int32 := if (1 ≤ e - q ∧ e - q ≤ 2) ∧ tk_so (sg q) = 1 then (if tk_nk sg q (e - q) < b then tk_nk sg q (e - q) else -1) else -1
set_option maxRecDepth 100000 in
set_option maxHeartbeats 4000000 in
theorem ev3_sortOf {G : jj_G} {h : List jj_C} (x : Int32) : jj_Ev G m3_sortOf 0 [.int x] (h) 0 0 (some (.int (tk_so x))) (h) := by
  refine jj_Ev_of (lo := [some (.int x)]) (by decide +kernel) (Nat.le_of_ble_eq_true rfl) rfl (by trivial) ?_
  refine jj_iload_n dX3_sortOf_0 rfl ?_
  refine jj_bipush (v := 97) dX3_sortOf_1 (by decide) ?_
  refine jj_icmp_lt (tgt := 14) dX3_sortOf_3 (by decide) (fun c3 => ?_) (fun c3 => ?_)
  · refine jj_iload_n dX3_sortOf_14 rfl ?_
    refine jj_bipush (v := 48) dX3_sortOf_15 (by decide) ?_
    refine jj_icmp_lt (tgt := 30) dX3_sortOf_17 (by decide) (fun c17 => ?_) (fun c17 => ?_)
    · refine jj_iconst (v := 2) dX3_sortOf_30 (by decide) ?_
      exact jj_leaf dX3_sortOf_31 (by rw [show tk_so x = 2 from by unfold tk_so; rw [if_pos (Or.inl c3), if_pos (Or.inl c17)]]; rfl) rfl
    · refine jj_iload_n dX3_sortOf_20 rfl ?_
      refine jj_bipush (v := 57) dX3_sortOf_21 (by decide) ?_
      refine jj_icmp_gt (tgt := 30) dX3_sortOf_23 (by decide) (fun c23 => ?_) (fun c23 => ?_)
      · refine jj_iconst (v := 2) dX3_sortOf_30 (by decide) ?_
        exact jj_leaf dX3_sortOf_31 (by rw [show tk_so x = 2 from by unfold tk_so; rw [if_pos (Or.inl c3), if_pos (Or.inr c23)]]; rfl) rfl
      · refine jj_iconst (v := 1) dX3_sortOf_26 (by decide) ?_
        refine jj_goto (tgt := 31) dX3_sortOf_27 (by decide) ?_
        exact jj_leaf dX3_sortOf_31 (by rw [show tk_so x = 1 from by unfold tk_so; rw [if_pos (Or.inl c3), if_neg (fun q => q.elim c17 c23)]]; rfl) rfl
  · refine jj_iload_n dX3_sortOf_6 rfl ?_
    refine jj_bipush (v := 122) dX3_sortOf_7 (by decide) ?_
    refine jj_icmp_gt (tgt := 14) dX3_sortOf_9 (by decide) (fun c9 => ?_) (fun c9 => ?_)
    · refine jj_iload_n dX3_sortOf_14 rfl ?_
      refine jj_bipush (v := 48) dX3_sortOf_15 (by decide) ?_
      refine jj_icmp_lt (tgt := 30) dX3_sortOf_17 (by decide) (fun c17 => ?_) (fun c17 => ?_)
      · refine jj_iconst (v := 2) dX3_sortOf_30 (by decide) ?_
        exact jj_leaf dX3_sortOf_31 (by rw [show tk_so x = 2 from by unfold tk_so; rw [if_pos (Or.inr c9), if_pos (Or.inl c17)]]; rfl) rfl
      · refine jj_iload_n dX3_sortOf_20 rfl ?_
        refine jj_bipush (v := 57) dX3_sortOf_21 (by decide) ?_
        refine jj_icmp_gt (tgt := 30) dX3_sortOf_23 (by decide) (fun c23 => ?_) (fun c23 => ?_)
        · refine jj_iconst (v := 2) dX3_sortOf_30 (by decide) ?_
          exact jj_leaf dX3_sortOf_31 (by rw [show tk_so x = 2 from by unfold tk_so; rw [if_pos (Or.inr c9), if_pos (Or.inr c23)]]; rfl) rfl
        · refine jj_iconst (v := 1) dX3_sortOf_26 (by decide) ?_
          refine jj_goto (tgt := 31) dX3_sortOf_27 (by decide) ?_
          exact jj_leaf dX3_sortOf_31 (by rw [show tk_so x = 1 from by unfold tk_so; rw [if_pos (Or.inr c9), if_neg (fun q => q.elim c17 c23)]]; rfl) rfl
    · refine jj_iconst (v := 0) dX3_sortOf_12 (by decide) ?_
      exact jj_leaf dX3_sortOf_13 (by rw [show tk_so x = 0 from by unfold tk_so; rw [if_neg (fun q => q.elim c3 c9)]]; rfl) rfl
set_option maxRecDepth 100000 in
set_option maxHeartbeats 4000000 in
theorem ev3_signAt {G : jj_G} {s : jj_S} {L a b i : Nat} (hi : i < L) (hL : L ≤ 200) : jj_Ev G m3_signAt 0 [.ref 1, .int (nI i)] (jj_m (j3_s s L a b)) 0 0 (some (.int (tx_sg s i))) (jj_m (j3_s s L a b)) := by
  refine jj_Ev_of (lo := [some (.ref 1), some (.int (nI i))]) (by decide +kernel) (Nat.le_of_ble_eq_true rfl) rfl (by trivial) ?_
  refine jj_iload_n dX3_signAt_0 rfl ?_
  refine jj_if_lt (tgt := 30) dX3_signAt_1 (by decide) (fun zz => absurd zz (jb_lt0 (by omega))) (fun _ => ?_)
  refine jj_iload_n dX3_signAt_4 rfl ?_
  refine jj_aload_n dX3_signAt_5 rfl ?_
  refine jj_getf dX3_signAt_6 fl3_24 rfl rfl ?_
  refine jj_icmp_ge (tgt := 30) dX3_signAt_9 (by decide) (fun zz => absurd zz (nI_ge (a := i) (b := L) hi (by omega))) (fun _ => ?_)
  refine jj_iload_n dX3_signAt_12 rfl ?_
  refine jj_aload_n dX3_signAt_13 rfl ?_
  refine jj_getf dX3_signAt_14 fl3_11 rfl rfl ?_
  refine jv_alen_i (v := 200) dX3_signAt_17 rfl rfl ?_
  refine jj_icmp_ge (tgt := 30) dX3_signAt_18 (by decide) (fun zz => absurd zz (jb_ge (n := 200) (by omega) (by decide))) (fun _ => ?_)
  refine jj_aload_n dX3_signAt_21 rfl ?_
  refine jj_getf dX3_signAt_22 fl3_11 rfl rfl ?_
  refine jj_iload_n dX3_signAt_25 rfl ?_
  refine jv_iald dX3_signAt_26 rfl (by omega) (by decide) ?_
  refine jj_goto (tgt := 31) dX3_signAt_27 (by decide) ?_
  exact jj_leaf dX3_signAt_31 rfl rfl
set_option maxRecDepth 100000 in
set_option maxHeartbeats 4000000 in
theorem ev3_nextToken {G : jj_G} {s : jj_S} {L a b : Nat} (hb : b ≤ L) (hL : L ≤ 200) : jj_Ev G m3_nextToken 1 [.ref 1] (jj_m (j3_s s L a b)) 0 0 (none) (jj_m (j3_s s L (tk_q (tx_sg s) L b) (tk_e (tx_sg s) L (tk_q (tx_sg s) L b)))) := by
  refine jj_Ev_of (lo := [some (.ref 1), none]) (by decide +kernel) (Nat.le_of_ble_eq_true rfl) rfl (by trivial) ?_
  have J2 : ∀ q, q < L → ∀ k, k ≤ L → q < k → jj_Go G m3_nextToken 1 86 [some (.ref 1), some (.int (tk_so (tx_sg s q)))] [] (jj_m (j3_s s L q k)) 0 0 (none) (jj_m (j3_s s L q (if tk_so (tx_sg s q) = 2 then k else jb_fst (fun i => tk_so (tx_sg s i) != tk_so (tx_sg s q)) k (L - k)))) := by
    intro q hq
    have hR : ∀ k, k ≤ L → k ≤ k := fun _ _ => Nat.le_refl _
    refine jj_up L (fun k hk ih => ?_) ?_
    · intro hqk
      by_cases h2 : tk_so (tx_sg s q) = 2
      · rw [if_pos h2]
        refine jj_aload_n dX3_nextToken_86 rfl ?_
        refine jj_getf dX3_nextToken_87 fl3_37 rfl rfl ?_
        refine jj_aload_n dX3_nextToken_90 rfl ?_
        refine jj_getf dX3_nextToken_91 fl3_24 rfl rfl ?_
        refine jj_icmp_ge (tgt := 130) dX3_nextToken_94 (by decide) (fun zz => absurd zz (nI_ge (a := k) (b := L) (by omega) (by omega))) (fun _ => ?_)
        refine jj_iload_n dX3_nextToken_97 rfl ?_
        refine jj_iconst (v := 2) dX3_nextToken_98 (by decide) ?_
        refine jj_icmp_eq (tgt := 130) dX3_nextToken_99 (by decide) (fun _ => ?_) (fun zz => absurd h2 zz)
        exact jj_leaf dX3_nextToken_130 rfl rfl
      · rw [if_neg h2]
        rw [if_neg h2] at ih
        refine jj_aload_n dX3_nextToken_86 rfl ?_
        refine jj_getf dX3_nextToken_87 fl3_37 rfl rfl ?_
        refine jj_aload_n dX3_nextToken_90 rfl ?_
        refine jj_getf dX3_nextToken_91 fl3_24 rfl rfl ?_
        refine jj_icmp_ge (tgt := 130) dX3_nextToken_94 (by decide) (fun zz => absurd zz (nI_ge (a := k) (b := L) (by omega) (by omega))) (fun _ => ?_)
        refine jj_iload_n dX3_nextToken_97 rfl ?_
        refine jj_iconst (v := 2) dX3_nextToken_98 (by decide) ?_
        refine jj_icmp_eq (tgt := 130) dX3_nextToken_99 (by decide) (fun zz => absurd zz h2) (fun _ => ?_)
        refine jj_aload_n dX3_nextToken_102 rfl ?_
        refine jj_aload_n dX3_nextToken_103 rfl ?_
        refine jj_getf dX3_nextToken_104 fl3_37 rfl rfl ?_
        refine jj_callV (M2 := m3_signAt) dX3_nextToken_107 ml3_50 tm3_signAt (ev3_signAt (s := s) (L := L) (a := q) (b := k) hk hL) rfl rfl rfl rfl rfl (by omega) (Nat.le_of_ble_eq_true rfl) ?_
        refine jj_callS (M2 := m3_sortOf) dX3_nextToken_110 ml3_71 tm3_sortOf (ev3_sortOf (tx_sg s k)) rfl rfl (by omega) (Nat.le_of_ble_eq_true rfl) ?_
        refine jj_iload_n dX3_nextToken_113 rfl ?_
        refine jj_icmp_ne (tgt := 130) dX3_nextToken_114 (by decide) (fun c114 => ?_) (fun c114 => ?_)
        · exact jj_leaf dX3_nextToken_130 rfl (by rw [jb_fst_yes (p := fun i => tk_so (tx_sg s i) != tk_so (tx_sg s q)) (by simpa using c114) hk])
        · refine jj_aload_n dX3_nextToken_117 rfl ?_
          refine jj_dup dX3_nextToken_118 rfl ?_
          refine jj_getf dX3_nextToken_119 fl3_37 rfl rfl ?_
          refine jj_iconst (v := 1) dX3_nextToken_122 (by decide) ?_
          refine jj_iadd (v := nI (k + 1)) dX3_nextToken_123 (jb_i k) ?_
          refine jj_putf dX3_nextToken_124 (fw3_37 _) rfl (Nat.le_of_ble_eq_true rfl) rfl rfl rfl ?_
          refine jj_goto (tgt := 86) dX3_nextToken_127 (by decide) ?_
          rw [jb_fst_no (p := fun i => tk_so (tx_sg s i) != tk_so (tx_sg s q)) (by simpa using c114) hk]
          exact jj_eq rfl rfl rfl rfl (ih (by omega))
    · intro _
      have eL : (if tk_so (tx_sg s q) = 2 then L else jb_fst (fun i => tk_so (tx_sg s i) != tk_so (tx_sg s q)) L (L - L)) = L := by split; rfl; exact jb_fst_end _ L
      rw [eL]
      refine jj_aload_n dX3_nextToken_86 rfl ?_
      refine jj_getf dX3_nextToken_87 fl3_37 rfl rfl ?_
      refine jj_aload_n dX3_nextToken_90 rfl ?_
      refine jj_getf dX3_nextToken_91 fl3_24 rfl rfl ?_
      refine jj_icmp_ge (tgt := 130) dX3_nextToken_94 (by decide) (fun _ => ?_) (fun zz => absurd (nI_le (Nat.le_refl L) (by omega)) zz)
      exact jj_leaf dX3_nextToken_130 rfl rfl
  have J1 : ∀ q, q ≤ L → ∀ b, jj_Go G m3_nextToken 1 45 [some (.ref 1), none] [] (jj_m (j3_s s L q b)) 0 0 (none) (jj_m (j3_s s L q (tk_e (tx_sg s) L q))) := by
    intro q hq b
    by_cases hl : q < L
    · have eE : tk_e (tx_sg s) L q = if tk_so (tx_sg s q) = 2 then q + 1 else jb_fst (fun i => tk_so (tx_sg s i) != tk_so (tx_sg s q)) (q + 1) (L - (q + 1)) := if_pos hl
      rw [eE]
      refine jj_aload_n dX3_nextToken_45 rfl ?_
      refine jj_aload_n dX3_nextToken_46 rfl ?_
      refine jj_getf dX3_nextToken_47 fl3_44 rfl rfl ?_
      refine jj_putf dX3_nextToken_50 (fw3_37 _) rfl (Nat.le_of_ble_eq_true rfl) rfl rfl rfl ?_
      refine jj_aload_n dX3_nextToken_53 rfl ?_
      refine jj_getf dX3_nextToken_54 fl3_44 rfl rfl ?_
      refine jj_aload_n dX3_nextToken_57 rfl ?_
      refine jj_getf dX3_nextToken_58 fl3_24 rfl rfl ?_
      refine jj_icmp_ge (tgt := 130) dX3_nextToken_61 (by decide) (fun zz => absurd zz (nI_ge (a := q) (b := L) (by omega) (by omega))) (fun _ => ?_)
      refine jj_aload_n dX3_nextToken_64 rfl ?_
      refine jj_aload_n dX3_nextToken_65 rfl ?_
      refine jj_getf dX3_nextToken_66 fl3_44 rfl rfl ?_
      refine jj_callV (M2 := m3_signAt) dX3_nextToken_69 ml3_50 tm3_signAt (ev3_signAt (s := s) (L := L) (a := q) (b := q) hl hL) rfl rfl rfl rfl rfl (by omega) (Nat.le_of_ble_eq_true rfl) ?_
      refine jj_callS (M2 := m3_sortOf) dX3_nextToken_72 ml3_71 tm3_sortOf (ev3_sortOf (tx_sg s q)) rfl rfl (by omega) (Nat.le_of_ble_eq_true rfl) ?_
      refine jj_istore_n dX3_nextToken_75 rfl (by decide) rfl ?_
      refine jj_aload_n dX3_nextToken_76 rfl ?_
      refine jj_dup dX3_nextToken_77 rfl ?_
      refine jj_getf dX3_nextToken_78 fl3_37 rfl rfl ?_
      refine jj_iconst (v := 1) dX3_nextToken_81 (by decide) ?_
      refine jj_iadd (v := nI (q + 1)) dX3_nextToken_82 (jb_i q) ?_
      refine jj_putf dX3_nextToken_83 (fw3_37 _) rfl (Nat.le_of_ble_eq_true rfl) rfl rfl rfl ?_
      exact jj_eq rfl rfl rfl rfl (J2 q hl (q + 1) (by omega) (by omega))
    · have eE : tk_e (tx_sg s) L q = q := if_neg hl
      rw [eE]
      refine jj_aload_n dX3_nextToken_45 rfl ?_
      refine jj_aload_n dX3_nextToken_46 rfl ?_
      refine jj_getf dX3_nextToken_47 fl3_44 rfl rfl ?_
      refine jj_putf dX3_nextToken_50 (fw3_37 _) rfl (Nat.le_of_ble_eq_true rfl) rfl rfl rfl ?_
      refine jj_aload_n dX3_nextToken_53 rfl ?_
      refine jj_getf dX3_nextToken_54 fl3_44 rfl rfl ?_
      refine jj_aload_n dX3_nextToken_57 rfl ?_
      refine jj_getf dX3_nextToken_58 fl3_24 rfl rfl ?_
      refine jj_icmp_ge (tgt := 130) dX3_nextToken_61 (by decide) (fun _ => ?_) (fun zz => absurd (nI_le (a := L) (b := q) (by omega) (by omega)) zz)
      exact jj_leaf dX3_nextToken_130 rfl rfl
  have L0 : ∀ k, k ≤ L → jj_Go G m3_nextToken 1 8 [some (.ref 1), none] [] (jj_m (j3_s s L k b)) 0 0 (none) (jj_m (j3_s s L (jb_fst (fun i => tx_sg s i != 32) k (L - k)) (tk_e (tx_sg s) L (jb_fst (fun i => tx_sg s i != 32) k (L - k))))) := by
    refine jj_up L (fun k hk ih => ?_) ?_
    · skip
      refine jj_aload_n dX3_nextToken_8 rfl ?_
      refine jj_getf dX3_nextToken_9 fl3_44 rfl rfl ?_
      refine jj_aload_n dX3_nextToken_12 rfl ?_
      refine jj_getf dX3_nextToken_13 fl3_24 rfl rfl ?_
      refine jj_icmp_ge (tgt := 45) dX3_nextToken_16 (by decide) (fun zz => absurd zz (nI_ge (a := k) (b := L) (by omega) (by omega))) (fun _ => ?_)
      refine jj_aload_n dX3_nextToken_19 rfl ?_
      refine jj_aload_n dX3_nextToken_20 rfl ?_
      refine jj_getf dX3_nextToken_21 fl3_44 rfl rfl ?_
      refine jj_callV (M2 := m3_signAt) dX3_nextToken_24 ml3_50 tm3_signAt (ev3_signAt (s := s) (L := L) (a := k) (b := b) hk hL) rfl rfl rfl rfl rfl (by omega) (Nat.le_of_ble_eq_true rfl) ?_
      refine jj_bipush (v := 32) dX3_nextToken_27 (by decide) ?_
      refine jj_icmp_ne (tgt := 45) dX3_nextToken_29 (by decide) (fun c29 => ?_) (fun c29 => ?_)
      · rw [jb_fst_yes (p := fun i => tx_sg s i != 32) (by simpa using c29) hk]
        exact J1 k (by omega) b
      · refine jj_aload_n dX3_nextToken_32 rfl ?_
        refine jj_dup dX3_nextToken_33 rfl ?_
        refine jj_getf dX3_nextToken_34 fl3_44 rfl rfl ?_
        refine jj_iconst (v := 1) dX3_nextToken_37 (by decide) ?_
        refine jj_iadd (v := nI (k + 1)) dX3_nextToken_38 (jb_i k) ?_
        refine jj_putf dX3_nextToken_39 (fw3_44 _) rfl (Nat.le_of_ble_eq_true rfl) rfl rfl rfl ?_
        refine jj_goto (tgt := 8) dX3_nextToken_42 (by decide) ?_
        rw [jb_fst_no (p := fun i => tx_sg s i != 32) (by simpa using c29) hk]
        exact jj_eq rfl rfl rfl rfl ih
    · rw [jb_fst_end]
      refine jj_aload_n dX3_nextToken_8 rfl ?_
      refine jj_getf dX3_nextToken_9 fl3_44 rfl rfl ?_
      refine jj_aload_n dX3_nextToken_12 rfl ?_
      refine jj_getf dX3_nextToken_13 fl3_24 rfl rfl ?_
      refine jj_icmp_ge (tgt := 45) dX3_nextToken_16 (by decide) (fun _ => ?_) (fun zz => absurd (nI_le (Nat.le_refl L) (by omega)) zz)
      exact J1 L (Nat.le_refl L) b
  refine jj_aload_n dX3_nextToken_0 rfl ?_
  refine jj_aload_n dX3_nextToken_1 rfl ?_
  refine jj_getf dX3_nextToken_2 fl3_37 rfl rfl ?_
  refine jj_putf dX3_nextToken_5 (fw3_44 _) rfl (Nat.le_of_ble_eq_true rfl) rfl rfl rfl ?_
  exact jj_eq rfl rfl rfl rfl (L0 b hb)
set_option maxRecDepth 100000 in
set_option maxHeartbeats 4000000 in
theorem ev3_spells {G : jj_G} {s : jj_S} {L a b i : Nat} (hi : i < 8) (hab : a ≤ b) (hb : b ≤ L) (hL : L ≤ 200) : jj_Ev G m3_spells 5 [.ref 1, .ref (1000002 + i)] (jj_m (j3_s s L a b)) 0 0 (some (.int (jb_b (tk_sp (tx_sg s) a b i = true)))) (jj_m (j3_s s L a b)) := by
  refine jj_Ev_of (lo := [some (.ref 1), some (.ref (1000002 + i)), none]) (by decide +kernel) (Nat.le_of_ble_eq_true rfl) rfl (jb_b01 _) ?_
  have hll := js_ll i hi
  by_cases hl : b - a = jj_tl.getD i 0
  · have hs : tk_sp (tx_sg s) a b i = jb_all (fun j => tx_sg s (a + j) == js_c i j) (jj_tl.getD i 0) := by unfold tk_sp; rw [decide_eq_true hl, Bool.true_and]
    rw [hs]
    generalize hn : jj_tl.getD i 0 = n at hl hll ⊢
    have L : ∀ k, k ≤ n → (∀ j, j < k → tx_sg s (a + j) = js_c i j) → jj_Go G m3_spells 5 20 [some (.ref 1), some (.ref (1000002 + i)), some (.int (nI k))] [] (jj_m (j3_s s L a b)) 0 0 (some (.int (jb_b (jb_all (fun j => tx_sg s (a + j) == js_c i j) n = true)))) (jj_m (j3_s s L a b)) := by
      refine jj_up n (fun k hk ih => ?_) ?_
      · intro hp
        refine jj_iload_n dX3_spells_20 rfl ?_
        refine jj_aload_n dX3_spells_21 rfl ?_
        refine js_call (M2 := mJ0_length) hi dX3_spells_22 ml3_94 tmJ0_length (evJ0_length hi) rfl rfl rfl (by decide) (Nat.le_of_ble_eq_true rfl) ?_
        rw [hn]
        refine jj_icmp_ge (tgt := 54) dX3_spells_25 (by decide) (fun zz => absurd zz (nI_ge (a := k) (b := n) hk (by omega))) (fun _ => ?_)
        refine jj_aload_n dX3_spells_28 rfl ?_
        refine jj_aload_n dX3_spells_29 rfl ?_
        refine jj_getf dX3_spells_30 fl3_44 rfl rfl ?_
        refine jj_iload_n dX3_spells_33 rfl ?_
        refine jj_iadd dX3_spells_34 (nI_add a k) ?_
        refine jj_callV (M2 := m3_signAt) dX3_spells_35 ml3_50 tm3_signAt (ev3_signAt (s := s) (L := L) (a := a) (b := b) (i := a + k) (by omega) hL) rfl rfl rfl rfl rfl (by omega) (Nat.le_of_ble_eq_true rfl) ?_
        refine jj_aload_n dX3_spells_38 rfl ?_
        refine jj_iload_n dX3_spells_39 rfl ?_
        refine js_call (M2 := mJ0_charAt) hi dX3_spells_40 ml3_98 tmJ0_charAt (evJ0_charAt hi (j := k) (by rw [hn]; exact hk)) rfl rfl rfl (by decide) (Nat.le_of_ble_eq_true rfl) ?_
        refine jj_icmp_eq (tgt := 48) dX3_spells_43 (by decide) (fun c43 => ?_) (fun c43 => ?_)
        · refine jj_iinc dX3_spells_48 rfl (jb_i k) (by decide) rfl ?_
          refine jj_goto (tgt := 20) dX3_spells_51 (by decide) ?_
          refine ih (fun j hj => ?_)
          rcases Nat.lt_or_ge j k with q | q
          · exact hp j q
          · rw [show j = k by omega]
            exact c43
        · refine jj_iconst (v := 0) dX3_spells_46 (by decide) ?_
          exact jj_leaf dX3_spells_47 (by rw [jb_bf (fun q => c43 (by simpa using (jb_all_iff _ n).mp q k hk))]; rfl) rfl
      · intro hp
        refine jj_iload_n dX3_spells_20 rfl ?_
        refine jj_aload_n dX3_spells_21 rfl ?_
        refine js_call (M2 := mJ0_length) hi dX3_spells_22 ml3_94 tmJ0_length (evJ0_length hi) rfl rfl rfl (by decide) (Nat.le_of_ble_eq_true rfl) ?_
        rw [hn]
        refine jj_icmp_ge (tgt := 54) dX3_spells_25 (by decide) (fun _ => ?_) (fun zz => absurd (nI_le (Nat.le_refl n) (by omega)) zz)
        refine jj_iconst (v := 1) dX3_spells_54 (by decide) ?_
        exact jj_leaf dX3_spells_55 (by rw [jb_bt ((jb_all_iff _ n).mpr fun j hj => by simpa using hp j hj)]; rfl) rfl
    refine jj_aload_n dX3_spells_0 rfl ?_
    refine jj_getf dX3_spells_1 fl3_37 rfl rfl ?_
    refine jj_aload_n dX3_spells_4 rfl ?_
    refine jj_getf dX3_spells_5 fl3_44 rfl rfl ?_
    refine jj_isub dX3_spells_8 (pk_sub hab) ?_
    refine jj_aload_n dX3_spells_9 rfl ?_
    refine js_call (M2 := mJ0_length) hi dX3_spells_10 ml3_94 tmJ0_length (evJ0_length hi) rfl rfl rfl (by decide) (Nat.le_of_ble_eq_true rfl) ?_
    refine jj_icmp_eq (tgt := 18) dX3_spells_13 (by decide) (fun _ => ?_) (fun zz => absurd (by rw [hn, ← hl]) zz)
    refine jj_iconst (v := 0) dX3_spells_18 (by decide) ?_
    refine jj_istore_n dX3_spells_19 rfl (by decide) rfl ?_
    exact jj_eq rfl rfl rfl rfl (L 0 (Nat.zero_le n) (fun j hj => absurd hj (by omega)))
  · have hs : tk_sp (tx_sg s) a b i = false := by unfold tk_sp; rw [decide_eq_false hl, Bool.false_and]
    rw [hs, jb_bf (by decide)]
    refine jj_aload_n dX3_spells_0 rfl ?_
    refine jj_getf dX3_spells_1 fl3_37 rfl rfl ?_
    refine jj_aload_n dX3_spells_4 rfl ?_
    refine jj_getf dX3_spells_5 fl3_44 rfl rfl ?_
    refine jj_isub dX3_spells_8 (pk_sub hab) ?_
    refine jj_aload_n dX3_spells_9 rfl ?_
    refine js_call (M2 := mJ0_length) hi dX3_spells_10 ml3_94 tmJ0_length (evJ0_length hi) rfl rfl rfl (by decide) (Nat.le_of_ble_eq_true rfl) ?_
    refine jj_icmp_eq (tgt := 18) dX3_spells_13 (by decide) (fun zz => absurd zz (fun q => hl ((jb_inj (by omega) (by omega)).mp q))) (fun _ => ?_)
    refine jj_iconst (v := 0) dX3_spells_16 (by decide) ?_
    exact jj_leaf dX3_spells_17 rfl rfl
set_option maxRecDepth 100000 in
set_option maxHeartbeats 4000000 in
theorem ev3_wordHere {G : jj_G} {s : jj_S} {L a b : Nat} (hab : a ≤ b) (hb : b ≤ L) (hL : L ≤ 200) : jj_Ev G m3_wordHere 6 [.ref 1] (jj_m (j3_s s L a b)) 0 0 (some (.int (jb_pl 8 (tk_w (tx_sg s) a b)))) (jj_m (j3_s s L a b)) := by
  refine jj_Ev_of (lo := [some (.ref 1)]) (by decide +kernel) (Nat.le_of_ble_eq_true rfl) rfl (by trivial) ?_
  refine jj_aload_n dX3_wordHere_0 rfl ?_
  refine js_ldc (i := 0) dX3_wordHere_1 (by decide) (by decide) rfl ?_
  refine jj_callV (M2 := m3_spells) dX3_wordHere_3 ml3_76 tm3_spells (ev3_spells (s := s) (L := L) (a := a) (b := b) (i := 0) (by decide) hab hb hL) rfl rfl rfl rfl rfl (by omega) (Nat.le_of_ble_eq_true rfl) ?_
  refine jj_if_eq (tgt := 11) dX3_wordHere_6 (by decide) (fun c6 => ?_) (fun c6 => ?_)
  · refine jj_aload_n dX3_wordHere_11 rfl ?_
    refine js_ldc (i := 1) dX3_wordHere_12 (by decide) (by decide) rfl ?_
    refine jj_callV (M2 := m3_spells) dX3_wordHere_14 ml3_76 tm3_spells (ev3_spells (s := s) (L := L) (a := a) (b := b) (i := 1) (by decide) hab hb hL) rfl rfl rfl rfl rfl (by omega) (Nat.le_of_ble_eq_true rfl) ?_
    refine jj_if_eq (tgt := 22) dX3_wordHere_17 (by decide) (fun c17 => ?_) (fun c17 => ?_)
    · refine jj_aload_n dX3_wordHere_22 rfl ?_
      refine js_ldc (i := 2) dX3_wordHere_23 (by decide) (by decide) rfl ?_
      refine jj_callV (M2 := m3_spells) dX3_wordHere_25 ml3_76 tm3_spells (ev3_spells (s := s) (L := L) (a := a) (b := b) (i := 2) (by decide) hab hb hL) rfl rfl rfl rfl rfl (by omega) (Nat.le_of_ble_eq_true rfl) ?_
      refine jj_if_eq (tgt := 33) dX3_wordHere_28 (by decide) (fun c28 => ?_) (fun c28 => ?_)
      · refine jj_aload_n dX3_wordHere_33 rfl ?_
        refine js_ldc (i := 3) dX3_wordHere_34 (by decide) (by decide) rfl ?_
        refine jj_callV (M2 := m3_spells) dX3_wordHere_36 ml3_76 tm3_spells (ev3_spells (s := s) (L := L) (a := a) (b := b) (i := 3) (by decide) hab hb hL) rfl rfl rfl rfl rfl (by omega) (Nat.le_of_ble_eq_true rfl) ?_
        refine jj_if_eq (tgt := 44) dX3_wordHere_39 (by decide) (fun c39 => ?_) (fun c39 => ?_)
        · refine jj_aload_n dX3_wordHere_44 rfl ?_
          refine js_ldc (i := 4) dX3_wordHere_45 (by decide) (by decide) rfl ?_
          refine jj_callV (M2 := m3_spells) dX3_wordHere_47 ml3_76 tm3_spells (ev3_spells (s := s) (L := L) (a := a) (b := b) (i := 4) (by decide) hab hb hL) rfl rfl rfl rfl rfl (by omega) (Nat.le_of_ble_eq_true rfl) ?_
          refine jj_if_eq (tgt := 55) dX3_wordHere_50 (by decide) (fun c50 => ?_) (fun c50 => ?_)
          · refine jj_aload_n dX3_wordHere_55 rfl ?_
            refine js_ldc (i := 5) dX3_wordHere_56 (by decide) (by decide) rfl ?_
            refine jj_callV (M2 := m3_spells) dX3_wordHere_58 ml3_76 tm3_spells (ev3_spells (s := s) (L := L) (a := a) (b := b) (i := 5) (by decide) hab hb hL) rfl rfl rfl rfl rfl (by omega) (Nat.le_of_ble_eq_true rfl) ?_
            refine jj_if_eq (tgt := 66) dX3_wordHere_61 (by decide) (fun c61 => ?_) (fun c61 => ?_)
            · refine jj_aload_n dX3_wordHere_66 rfl ?_
              refine js_ldc (i := 6) dX3_wordHere_67 (by decide) (by decide) rfl ?_
              refine jj_callV (M2 := m3_spells) dX3_wordHere_69 ml3_76 tm3_spells (ev3_spells (s := s) (L := L) (a := a) (b := b) (i := 6) (by decide) hab hb hL) rfl rfl rfl rfl rfl (by omega) (Nat.le_of_ble_eq_true rfl) ?_
              refine jj_if_eq (tgt := 78) dX3_wordHere_72 (by decide) (fun c72 => ?_) (fun c72 => ?_)
              · refine jj_aload_n dX3_wordHere_78 rfl ?_
                refine js_ldc (i := 7) dX3_wordHere_79 (by decide) (by decide) rfl ?_
                refine jj_callV (M2 := m3_spells) dX3_wordHere_81 ml3_76 tm3_spells (ev3_spells (s := s) (L := L) (a := a) (b := b) (i := 7) (by decide) hab hb hL) rfl rfl rfl rfl rfl (by omega) (Nat.le_of_ble_eq_true rfl) ?_
                refine jj_if_eq (tgt := 92) dX3_wordHere_84 (by decide) (fun c84 => ?_) (fun c84 => ?_)
                · refine jj_iconst (v := (-1)) dX3_wordHere_92 (by decide) ?_
                  exact jj_leaf dX3_wordHere_93 (by rw [show tk_w (tx_sg s) a b = 8 from by unfold tk_w; exact (by rw [show (8 : Nat) = 8 - 0 from rfl, jb_fst_no (p := tk_sp (tx_sg s) a b) (k := 0) (n := 8) (by simpa using jb_b0 c6) (by decide), jb_fst_no (p := tk_sp (tx_sg s) a b) (k := 1) (n := 8) (by simpa using jb_b0 c17) (by decide), jb_fst_no (p := tk_sp (tx_sg s) a b) (k := 2) (n := 8) (by simpa using jb_b0 c28) (by decide), jb_fst_no (p := tk_sp (tx_sg s) a b) (k := 3) (n := 8) (by simpa using jb_b0 c39) (by decide), jb_fst_no (p := tk_sp (tx_sg s) a b) (k := 4) (n := 8) (by simpa using jb_b0 c50) (by decide), jb_fst_no (p := tk_sp (tx_sg s) a b) (k := 5) (n := 8) (by simpa using jb_b0 c61) (by decide), jb_fst_no (p := tk_sp (tx_sg s) a b) (k := 6) (n := 8) (by simpa using jb_b0 c72) (by decide), jb_fst_no (p := tk_sp (tx_sg s) a b) (k := 7) (n := 8) (by simpa using jb_b0 c84) (by decide)]; rfl : jb_fst (tk_sp (tx_sg s) a b) 0 8 = 8)]; rfl) rfl
                · refine jj_bipush (v := 7) dX3_wordHere_87 (by decide) ?_
                  refine jj_goto (tgt := 93) dX3_wordHere_89 (by decide) ?_
                  exact jj_leaf dX3_wordHere_93 (by rw [show tk_w (tx_sg s) a b = 7 from by unfold tk_w; exact (by rw [show (8 : Nat) = 8 - 0 from rfl, jb_fst_no (p := tk_sp (tx_sg s) a b) (k := 0) (n := 8) (by simpa using jb_b0 c6) (by decide), jb_fst_no (p := tk_sp (tx_sg s) a b) (k := 1) (n := 8) (by simpa using jb_b0 c17) (by decide), jb_fst_no (p := tk_sp (tx_sg s) a b) (k := 2) (n := 8) (by simpa using jb_b0 c28) (by decide), jb_fst_no (p := tk_sp (tx_sg s) a b) (k := 3) (n := 8) (by simpa using jb_b0 c39) (by decide), jb_fst_no (p := tk_sp (tx_sg s) a b) (k := 4) (n := 8) (by simpa using jb_b0 c50) (by decide), jb_fst_no (p := tk_sp (tx_sg s) a b) (k := 5) (n := 8) (by simpa using jb_b0 c61) (by decide), jb_fst_no (p := tk_sp (tx_sg s) a b) (k := 6) (n := 8) (by simpa using jb_b0 c72) (by decide), jb_fst_yes (p := tk_sp (tx_sg s) a b) (k := 7) (n := 8) (jb_b1 c84) (by decide)] : jb_fst (tk_sp (tx_sg s) a b) 0 8 = 7)]; rfl) rfl
              · refine jj_bipush (v := 6) dX3_wordHere_75 (by decide) ?_
                exact jj_leaf dX3_wordHere_77 (by rw [show tk_w (tx_sg s) a b = 6 from by unfold tk_w; exact (by rw [show (8 : Nat) = 8 - 0 from rfl, jb_fst_no (p := tk_sp (tx_sg s) a b) (k := 0) (n := 8) (by simpa using jb_b0 c6) (by decide), jb_fst_no (p := tk_sp (tx_sg s) a b) (k := 1) (n := 8) (by simpa using jb_b0 c17) (by decide), jb_fst_no (p := tk_sp (tx_sg s) a b) (k := 2) (n := 8) (by simpa using jb_b0 c28) (by decide), jb_fst_no (p := tk_sp (tx_sg s) a b) (k := 3) (n := 8) (by simpa using jb_b0 c39) (by decide), jb_fst_no (p := tk_sp (tx_sg s) a b) (k := 4) (n := 8) (by simpa using jb_b0 c50) (by decide), jb_fst_no (p := tk_sp (tx_sg s) a b) (k := 5) (n := 8) (by simpa using jb_b0 c61) (by decide), jb_fst_yes (p := tk_sp (tx_sg s) a b) (k := 6) (n := 8) (jb_b1 c72) (by decide)] : jb_fst (tk_sp (tx_sg s) a b) 0 8 = 6)]; rfl) rfl
            · refine jj_iconst (v := 5) dX3_wordHere_64 (by decide) ?_
              exact jj_leaf dX3_wordHere_65 (by rw [show tk_w (tx_sg s) a b = 5 from by unfold tk_w; exact (by rw [show (8 : Nat) = 8 - 0 from rfl, jb_fst_no (p := tk_sp (tx_sg s) a b) (k := 0) (n := 8) (by simpa using jb_b0 c6) (by decide), jb_fst_no (p := tk_sp (tx_sg s) a b) (k := 1) (n := 8) (by simpa using jb_b0 c17) (by decide), jb_fst_no (p := tk_sp (tx_sg s) a b) (k := 2) (n := 8) (by simpa using jb_b0 c28) (by decide), jb_fst_no (p := tk_sp (tx_sg s) a b) (k := 3) (n := 8) (by simpa using jb_b0 c39) (by decide), jb_fst_no (p := tk_sp (tx_sg s) a b) (k := 4) (n := 8) (by simpa using jb_b0 c50) (by decide), jb_fst_yes (p := tk_sp (tx_sg s) a b) (k := 5) (n := 8) (jb_b1 c61) (by decide)] : jb_fst (tk_sp (tx_sg s) a b) 0 8 = 5)]; rfl) rfl
          · refine jj_iconst (v := 4) dX3_wordHere_53 (by decide) ?_
            exact jj_leaf dX3_wordHere_54 (by rw [show tk_w (tx_sg s) a b = 4 from by unfold tk_w; exact (by rw [show (8 : Nat) = 8 - 0 from rfl, jb_fst_no (p := tk_sp (tx_sg s) a b) (k := 0) (n := 8) (by simpa using jb_b0 c6) (by decide), jb_fst_no (p := tk_sp (tx_sg s) a b) (k := 1) (n := 8) (by simpa using jb_b0 c17) (by decide), jb_fst_no (p := tk_sp (tx_sg s) a b) (k := 2) (n := 8) (by simpa using jb_b0 c28) (by decide), jb_fst_no (p := tk_sp (tx_sg s) a b) (k := 3) (n := 8) (by simpa using jb_b0 c39) (by decide), jb_fst_yes (p := tk_sp (tx_sg s) a b) (k := 4) (n := 8) (jb_b1 c50) (by decide)] : jb_fst (tk_sp (tx_sg s) a b) 0 8 = 4)]; rfl) rfl
        · refine jj_iconst (v := 3) dX3_wordHere_42 (by decide) ?_
          exact jj_leaf dX3_wordHere_43 (by rw [show tk_w (tx_sg s) a b = 3 from by unfold tk_w; exact (by rw [show (8 : Nat) = 8 - 0 from rfl, jb_fst_no (p := tk_sp (tx_sg s) a b) (k := 0) (n := 8) (by simpa using jb_b0 c6) (by decide), jb_fst_no (p := tk_sp (tx_sg s) a b) (k := 1) (n := 8) (by simpa using jb_b0 c17) (by decide), jb_fst_no (p := tk_sp (tx_sg s) a b) (k := 2) (n := 8) (by simpa using jb_b0 c28) (by decide), jb_fst_yes (p := tk_sp (tx_sg s) a b) (k := 3) (n := 8) (jb_b1 c39) (by decide)] : jb_fst (tk_sp (tx_sg s) a b) 0 8 = 3)]; rfl) rfl
      · refine jj_iconst (v := 2) dX3_wordHere_31 (by decide) ?_
        exact jj_leaf dX3_wordHere_32 (by rw [show tk_w (tx_sg s) a b = 2 from by unfold tk_w; exact (by rw [show (8 : Nat) = 8 - 0 from rfl, jb_fst_no (p := tk_sp (tx_sg s) a b) (k := 0) (n := 8) (by simpa using jb_b0 c6) (by decide), jb_fst_no (p := tk_sp (tx_sg s) a b) (k := 1) (n := 8) (by simpa using jb_b0 c17) (by decide), jb_fst_yes (p := tk_sp (tx_sg s) a b) (k := 2) (n := 8) (jb_b1 c28) (by decide)] : jb_fst (tk_sp (tx_sg s) a b) 0 8 = 2)]; rfl) rfl
    · refine jj_iconst (v := 1) dX3_wordHere_20 (by decide) ?_
      exact jj_leaf dX3_wordHere_21 (by rw [show tk_w (tx_sg s) a b = 1 from by unfold tk_w; exact (by rw [show (8 : Nat) = 8 - 0 from rfl, jb_fst_no (p := tk_sp (tx_sg s) a b) (k := 0) (n := 8) (by simpa using jb_b0 c6) (by decide), jb_fst_yes (p := tk_sp (tx_sg s) a b) (k := 1) (n := 8) (jb_b1 c17) (by decide)] : jb_fst (tk_sp (tx_sg s) a b) 0 8 = 1)]; rfl) rfl
  · refine jj_iconst (v := 0) dX3_wordHere_9 (by decide) ?_
    exact jj_leaf dX3_wordHere_10 (by rw [show tk_w (tx_sg s) a b = 0 from by unfold tk_w; exact (by rw [show (8 : Nat) = 8 - 0 from rfl, jb_fst_yes (p := tk_sp (tx_sg s) a b) (k := 0) (n := 8) (jb_b1 c6) (by decide)] : jb_fst (tk_sp (tx_sg s) a b) 0 8 = 0)]; rfl) rfl
