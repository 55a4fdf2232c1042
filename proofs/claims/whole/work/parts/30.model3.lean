/-! THE MODEL: text told, the walker, what is kept, the way home -/
abbrev v01 (x : Int32) : Prop := 0 ≤ x ∧ x ≤ 1
theorem v01_n {x : Int32} (h : v01 x) : ∃ k, k < 2 ∧ x = nI k := jb_num h.1 ((jb_le_lt (a := 1) (b := 2) (by decide)).mp h.2) (by decide)
theorem v01_of : ∀ k, k < 2 → v01 (nI k) := by decide +kernel
theorem v04 {x : Int32} : (0 ≤ x ∧ x ≤ 4) ↔ vS x := and_congr_right fun _ => jb_le_lt (by decide)
def jb_bk (f t : Nat) : Nat := jb_sdN (jb_s f t) f
theorem jb_bk_lt : ∀ f, f < 12 → ∀ t, t < 5 → jb_bk f t < 5 := by decide +kernel
theorem jb_bk_sd {f t : Nat} (hf : f < 12) (ht : t < 5) : jb_sd (jb_s f t) f = nI (jb_bk f t) := if_pos (jb_bk_lt f hf t ht)
def jh_u (d t : Nat) : Nat := (d + t) % 5
def jh_n (t : Nat) (q : Nat × Nat) : Nat × Nat := (jb_s q.1 (jh_u q.2 t), jb_bk q.1 (jh_u q.2 t))
def jh_o (t : Nat) (q : Nat × Nat) : Nat → Nat × Nat
  | 0 => q
  | n + 1 => jh_n t (jh_o t q n)
def jh_r (wl : Nat → Nat → Bool) (t : Nat) (q0 : Nat × Nat) : Nat → Nat → Nat × Nat → Int32
  | 0, _, _ => -1
  | m + 1, n, q => if wl q.1 (jh_u q.2 t) = true then -1 else if jh_n t q = q0 then nI (n + 1) else jh_r wl t q0 m (n + 1) (jh_n t q)
def jh_p (t : Nat) (q : Nat × Nat) : Nat := jb_fst (fun n => jh_o t q (n + 1) == q) 0 60
theorem jh_p_lt : ∀ t, t < 5 → ∀ f, f < 12 → ∀ d, d < 5 → jh_p t (f, d) < 60 := by decide +kernel
theorem jh_u_lt (d t : Nat) : jh_u d t < 5 := Nat.mod_lt _ (by decide)
theorem jh_o_lt {t f d : Nat} (hf : f < 12) (hd : d < 5) : ∀ n, (jh_o t (f, d) n).1 < 12 ∧ (jh_o t (f, d) n).2 < 5 := by
  intro n
  induction n with
  | zero => exact ⟨hf, hd⟩
  | succ n ih => exact ⟨jb_s_lt _ ih.1 _ (jh_u_lt _ _), jb_bk_lt _ ih.1 _ (jh_u_lt _ _)⟩
def j7_kp (kd img : Nat → Int32) (b : Nat) : Nat → Nat → Int32
  | 0 => img
  | k + 1 => jU (j7_kp kd img b k) (15 * b + k) (kd k)
/-- what keep does -/
def j7_ke (s : jj_S) (b : Nat) : jj_S := mo_iskS (mo_imgS s (jU (jU (jU (j7_kp (mo_kind s) (mo_img s) b 12) (15 * b + 12) (mo_fi s)) (15 * b + 13) (mo_sd s)) (15 * b + 14) (mo_st s))) (jU (mo_isk s) b 1)
/-- what back does -/
def j7_ba (s : jj_S) (b : Nat) : jj_S := mo_stS (mo_sdS (mo_fiS (mo_kindS s (jF (fun f => mo_img s (15 * b + f)) (mo_kind s) 12)) (mo_img s (15 * b + 12))) (mo_img s (15 * b + 13))) (mo_img s (15 * b + 14))
/-- what a step does -/
def j7_st (s : jj_S) (F u : Nat) : jj_S := mo_stS (mo_sdS (mo_fiS s (nI (jb_s F u))) (nI (jb_bk F u))) (mo_st s + 1)
set_option maxRecDepth 100000 in
set_option maxHeartbeats 4000000 in
theorem ev7_erase {G : jj_G} {s : jj_S}  : jj_Ev G m7_erase 0 [.ref 28] (jj_m s) 0 0 (some (.int (mo_by s))) (jj_m (mo_byS s 0)) := by
  refine jj_Ev_of (lo := [some (.ref 28), none]) (by decide +kernel) (Nat.le_of_ble_eq_true rfl) rfl (by trivial) ?_
  refine jj_aload_n dX7_erase_0 rfl ?_
  refine jj_getf dX7_erase_1 fl7_69 rfl rfl ?_
  refine jj_istore_n dX7_erase_4 rfl (by decide) rfl ?_
  refine jj_aload_n dX7_erase_5 rfl ?_
  refine jj_iconst (v := 0) dX7_erase_6 (by decide) ?_
  refine jj_putf dX7_erase_7 (fw7_69 _) rfl (Nat.le_of_ble_eq_true rfl) rfl rfl rfl ?_
  refine jj_iload_n dX7_erase_10 rfl ?_
  exact jj_leaf dX7_erase_11 rfl rfl
set_option maxRecDepth 100000 in
set_option maxHeartbeats 4000000 in
theorem ev7_walker {G : jj_G} {s : jj_S} (x : Int32) : jj_Ev G m7_walker 0 [.ref 28, .int x] (jj_m s) 0 0 (some (.int (if x = 0 then mo_fi s else if x = 1 then mo_sd s else if x = 2 then mo_st s else -3))) (jj_m s) := by
  refine jj_Ev_of (lo := [some (.ref 28), some (.int x)]) (by decide +kernel) (Nat.le_of_ble_eq_true rfl) rfl (by trivial) ?_
  refine jj_iload_n dX7_walker_0 rfl ?_
  refine jj_if_ne (tgt := 11) dX7_walker_1 (by decide) (fun c1 => ?_) (fun c1 => ?_)
  · refine jj_iload_n dX7_walker_11 rfl ?_
    refine jj_iconst (v := 1) dX7_walker_12 (by decide) ?_
    refine jj_icmp_ne (tgt := 23) dX7_walker_13 (by decide) (fun c13 => ?_) (fun c13 => ?_)
    · refine jj_iload_n dX7_walker_23 rfl ?_
      refine jj_iconst (v := 2) dX7_walker_24 (by decide) ?_
      refine jj_icmp_ne (tgt := 35) dX7_walker_25 (by decide) (fun c25 => ?_) (fun c25 => ?_)
      · refine jj_bipush (v := (-3)) dX7_walker_35 (by decide) ?_
        exact jj_leaf dX7_walker_37 (by rw [if_neg c1, if_neg c13, if_neg c25]; rfl) rfl
      · refine jj_aload_n dX7_walker_28 rfl ?_
        refine jj_getf dX7_walker_29 fl7_166 rfl rfl ?_
        refine jj_goto (tgt := 37) dX7_walker_32 (by decide) ?_
        exact jj_leaf dX7_walker_37 (by rw [if_neg c1, if_neg c13, if_pos c25]; rfl) rfl
    · refine jj_aload_n dX7_walker_16 rfl ?_
      refine jj_getf dX7_walker_17 fl7_163 rfl rfl ?_
      refine jj_goto (tgt := 37) dX7_walker_20 (by decide) ?_
      exact jj_leaf dX7_walker_37 (by rw [if_neg c1, if_pos c13]; rfl) rfl
  · refine jj_aload_n dX7_walker_4 rfl ?_
    refine jj_getf dX7_walker_5 fl7_160 rfl rfl ?_
    refine jj_goto (tgt := 37) dX7_walker_8 (by decide) ?_
    exact jj_leaf dX7_walker_37 (by rw [if_pos c1]; rfl) rfl
set_option maxRecDepth 100000 in
set_option maxHeartbeats 4000000 in
theorem ev7_write {G : jj_G} {s : jj_S} {L n : Nat} (v : Int64) (hb : mo_by s = nI L) (hL : L ≤ 200) (hn : 1 ≤ n ∧ n ≤ 8) : jj_Ev G m7_write 1 [.ref 28, .long v, .int (nI n)] (jj_m s) 0 0 (some (.int (if L + n ≤ 200 then nI (L + n) else -5))) (jj_m (if L + n ≤ 200 then mo_byS (mo_textS s (j3_ap v (mo_text s) L n)) (nI (L + n)) else s)) := by
  refine jj_Ev_of (lo := [some (.ref 28), some (.long v), none, some (.int (nI n)), none]) (by decide +kernel) (Nat.le_of_ble_eq_true rfl) rfl (by trivial) ?_
  have h1 : (1 : Int32) ≤ nI n ∧ nI n ≤ 8 := ⟨nI_le (a := 1) (b := n) hn.1 (by omega), nI_le (a := n) (b := 8) hn.2 (by decide)⟩
  by_cases hL2 : L + n ≤ 200
  · rw [if_pos hL2, if_pos hL2]
    have L0 : ∀ k, k ≤ n → jj_Go G m7_write 1 31 [some (.ref 28), some (.long v), none, some (.int (nI n)), some (.int (nI k))] [] (jj_m (mo_textS s (j3_ap v (mo_text s) L k))) 0 0 (some (.int (nI (L + n)))) (jj_m (mo_byS (mo_textS s (j3_ap v (mo_text s) L n)) (nI (L + n)))) := by
      refine jj_up n (fun k hk ih => ?_) ?_
      · refine jj_iload dX7_write_31 rfl ?_
        refine jj_iload_n dX7_write_33 rfl ?_
        refine jj_icmp_ge (tgt := 67) dX7_write_34 (by decide) (fun zz => absurd zz (nI_ge (a := k) (b := n) hk (by omega))) (fun _ => ?_)
        refine jj_aload_n dX7_write_37 rfl ?_
        refine jj_getf dX7_write_38 fl7_23 rfl rfl ?_
        refine jj_aload_n dX7_write_41 rfl ?_
        refine jj_getf dX7_write_42 fl7_69 rfl rfl ?_
        refine jj_iload dX7_write_45 rfl ?_
        refine jj_iadd (v := nI (L + k)) dX7_write_47 (by rw [show mo_by (mo_textS s (j3_ap v (mo_text s) L k)) = nI L from hb]; exact nI_add L k) ?_
        refine jj_lload_n dX7_write_48 rfl ?_
        refine jj_bipush (v := nI 8) dX7_write_49 (by decide) ?_
        refine jj_iload dX7_write_51 rfl ?_
        refine jj_imul dX7_write_53 (j4_mul 8 k) ?_
        refine jj_lshr dX7_write_54 rfl ?_
        refine jj_ldc2 dX7_write_55 kc7_73 ?_
        refine jj_land dX7_write_58 rfl ?_
        refine jj_l2i dX7_write_59 rfl ?_
        refine jv_iast (k := L + k) dX7_write_60 rfl (by omega) (by decide) rfl ?_
        refine jj_iinc dX7_write_61 rfl (jb_i k) (by decide) rfl ?_
        refine jj_goto (tgt := 31) dX7_write_64 (by decide) ?_
        exact jj_eq rfl rfl rfl rfl ih
      · refine jj_iload dX7_write_31 rfl ?_
        refine jj_iload_n dX7_write_33 rfl ?_
        refine jj_icmp_ge (tgt := 67) dX7_write_34 (by decide) (fun _ => ?_) (fun zz => absurd (nI_le (Nat.le_refl n) (by omega)) zz)
        refine jj_aload_n dX7_write_67 rfl ?_
        refine jj_dup dX7_write_68 rfl ?_
        refine jj_getf dX7_write_69 fl7_69 rfl rfl ?_
        refine jj_iload_n dX7_write_72 rfl ?_
        refine jj_iadd (v := nI (L + n)) dX7_write_73 (by rw [show mo_by (mo_textS s (j3_ap v (mo_text s) L n)) = nI L from hb]; exact nI_add L n) ?_
        refine jj_putf dX7_write_74 (fw7_69 _) rfl (Nat.le_of_ble_eq_true rfl) rfl rfl rfl ?_
        refine jj_aload_n dX7_write_77 rfl ?_
        refine jj_getf dX7_write_78 fl7_69 rfl rfl ?_
        exact jj_leaf dX7_write_81 rfl rfl
    refine jj_iload_n dX7_write_0 rfl ?_
    refine jj_iconst (v := 1) dX7_write_1 (by decide) ?_
    refine jj_bipush (v := 8) dX7_write_2 (by decide) ?_
    refine jj_callS (M2 := m7_in) dX7_write_4 ml7_65 tm7_in (ev7_in (nI n) 1 8) rfl rfl (by omega) (Nat.le_of_ble_eq_true rfl) ?_
    refine jj_if_ne (tgt := 13) dX7_write_7 (by decide) (fun _ => ?_) (fun zz => absurd zz (by rw [jb_bt h1]; decide))
    refine jj_aload_n dX7_write_13 rfl ?_
    refine jj_getf dX7_write_14 fl7_69 rfl rfl ?_
    refine jj_iload_n dX7_write_17 rfl ?_
    refine jj_iadd (v := nI (L + n)) dX7_write_18 (by rw [hb]; exact nI_add L n) ?_
    refine jj_sipush (v := 200) dX7_write_19 (by decide) ?_
    refine jj_icmp_le (tgt := 28) dX7_write_22 (by decide) (fun _ => ?_) (fun zz => absurd (nI_le (a := L + n) (b := 200) hL2 (by decide)) zz)
    refine jj_iconst (v := 0) dX7_write_28 (by decide) ?_
    refine jj_istore dX7_write_29 (by decide) rfl ?_
    exact jj_eq rfl rfl rfl rfl (L0 0 (Nat.zero_le n))
  · rw [if_neg hL2, if_neg hL2]
    refine jj_iload_n dX7_write_0 rfl ?_
    refine jj_iconst (v := 1) dX7_write_1 (by decide) ?_
    refine jj_bipush (v := 8) dX7_write_2 (by decide) ?_
    refine jj_callS (M2 := m7_in) dX7_write_4 ml7_65 tm7_in (ev7_in (nI n) 1 8) rfl rfl (by omega) (Nat.le_of_ble_eq_true rfl) ?_
    refine jj_if_ne (tgt := 13) dX7_write_7 (by decide) (fun _ => ?_) (fun zz => absurd zz (by rw [jb_bt h1]; decide))
    refine jj_aload_n dX7_write_13 rfl ?_
    refine jj_getf dX7_write_14 fl7_69 rfl rfl ?_
    refine jj_iload_n dX7_write_17 rfl ?_
    refine jj_iadd (v := nI (L + n)) dX7_write_18 (by rw [hb]; exact nI_add L n) ?_
    refine jj_sipush (v := 200) dX7_write_19 (by decide) ?_
    refine jj_icmp_le (tgt := 28) dX7_write_22 (by decide) (fun zz => absurd zz (nI_ge (a := 200) (b := L + n) (by omega) (by omega))) (fun _ => ?_)
    refine jj_bipush (v := (-5)) dX7_write_25 (by decide) ?_
    exact jj_leaf dX7_write_27 rfl rfl
set_option maxRecDepth 100000 in
set_option maxHeartbeats 4000000 in
theorem ev7_write_b {G : jj_G} {s : jj_S} {x : Int32} (v : Int64) (hx : ¬ (1 ≤ x ∧ x ≤ 8)) : jj_Ev G m7_write 1 [.ref 28, .long v, .int x] (jj_m s) 0 0 (some (.int (-3))) (jj_m s) := by
  refine jj_Ev_of (lo := [some (.ref 28), some (.long v), none, some (.int x), none]) (by decide +kernel) (Nat.le_of_ble_eq_true rfl) rfl (by trivial) ?_
  refine jj_iload_n dX7_write_0 rfl ?_
  refine jj_iconst (v := 1) dX7_write_1 (by decide) ?_
  refine jj_bipush (v := 8) dX7_write_2 (by decide) ?_
  refine jj_callS (M2 := m7_in) dX7_write_4 ml7_65 tm7_in (ev7_in x 1 8) rfl rfl (by omega) (Nat.le_of_ble_eq_true rfl) ?_
  refine jj_if_ne (tgt := 13) dX7_write_7 (by decide) (fun zz => absurd (jb_bf hx) zz) (fun _ => ?_)
  refine jj_bipush (v := (-3)) dX7_write_10 (by decide) ?_
  exact jj_leaf dX7_write_12 rfl rfl
set_option maxRecDepth 100000 in
set_option maxHeartbeats 4000000 in
theorem ev7_keep_b {G : jj_G} {s : jj_S} {x : Int32} (hx : ¬ v01 x) : jj_Ev G m7_keep 1 [.ref 28, .int x] (jj_m s) 0 0 (some (.int (-2))) (jj_m s) := by
  refine jj_Ev_of (lo := [some (.ref 28), some (.int x), none]) (by decide +kernel) (Nat.le_of_ble_eq_true rfl) rfl (by trivial) ?_
  refine jj_iload_n dX7_keep_0 rfl ?_
  refine jj_iconst (v := 0) dX7_keep_1 (by decide) ?_
  refine jj_iconst (v := 1) dX7_keep_2 (by decide) ?_
  refine jj_callS (M2 := m7_in) dX7_keep_3 ml7_65 tm7_in (ev7_in x 0 1) rfl rfl (by omega) (Nat.le_of_ble_eq_true rfl) ?_
  refine jj_if_ne (tgt := 12) dX7_keep_6 (by decide) (fun zz => absurd (jb_bf hx) zz) (fun _ => ?_)
  refine jj_bipush (v := (-2)) dX7_keep_9 (by decide) ?_
  exact jj_leaf dX7_keep_11 rfl rfl
set_option maxRecDepth 100000 in
set_option maxHeartbeats 4000000 in
theorem ev7_keep {G : jj_G} {s : jj_S} {b : Nat} (hbk : b < 2) : jj_Ev G m7_keep 1 [.ref 28, .int (nI b)] (jj_m s) 0 0 (some (.int (mo_st s))) (jj_m (j7_ke s b)) := by
  refine jj_Ev_of (lo := [some (.ref 28), some (.int (nI b)), none]) (by decide +kernel) (Nat.le_of_ble_eq_true rfl) rfl (by trivial) ?_
  have L : ∀ k, k ≤ 12 → jj_Go G m7_keep 1 14 [some (.ref 28), some (.int (nI b)), some (.int (nI k))] [] (jj_m (mo_imgS s (j7_kp (mo_kind s) (mo_img s) b k))) 0 0 (some (.int (mo_st s))) (jj_m (j7_ke s b)) := by
    refine jj_up 12 (fun k hk ih => ?_) ?_
    · refine jj_iload_n dX7_keep_14 rfl ?_
      refine jj_bipush (v := 12) dX7_keep_15 (by decide) ?_
      refine jj_icmp_ge (tgt := 43) dX7_keep_17 (by decide) (fun zz => absurd zz (jb_ge hk (by decide))) (fun _ => ?_)
      refine jj_aload_n dX7_keep_20 rfl ?_
      refine jj_getf dX7_keep_21 fl7_29 rfl rfl ?_
      refine jj_bipush (v := nI 15) dX7_keep_24 (by decide) ?_
      refine jj_iload_n dX7_keep_26 rfl ?_
      refine jj_imul dX7_keep_27 (j4_mul 15 b) ?_
      refine jj_iload_n dX7_keep_28 rfl ?_
      refine jj_iadd dX7_keep_29 (nI_add (15 * b) k) ?_
      refine jj_aload_n dX7_keep_30 rfl ?_
      refine jj_getf dX7_keep_31 fl7_20 rfl rfl ?_
      refine jj_iload_n dX7_keep_34 rfl ?_
      refine jv_iald dX7_keep_35 rfl (hk) (by decide) ?_
      refine jv_iast dX7_keep_36 rfl (by omega) (by decide) rfl ?_
      refine jj_iinc dX7_keep_37 rfl (jb_i k) (by decide) rfl ?_
      refine jj_goto (tgt := 14) dX7_keep_40 (by decide) ?_
      exact jj_eq rfl rfl rfl rfl ih
    · refine jj_iload_n dX7_keep_14 rfl ?_
      refine jj_bipush (v := 12) dX7_keep_15 (by decide) ?_
      refine jj_icmp_ge (tgt := 43) dX7_keep_17 (by decide) (fun _ => ?_) (fun zz => absurd (jb_ge' (n := 12) (by decide)) zz)
      refine jj_aload_n dX7_keep_43 rfl ?_
      refine jj_getf dX7_keep_44 fl7_29 rfl rfl ?_
      refine jj_bipush (v := nI 15) dX7_keep_47 (by decide) ?_
      refine jj_iload_n dX7_keep_49 rfl ?_
      refine jj_imul dX7_keep_50 (j4_mul 15 b) ?_
      refine jj_bipush (v := nI 12) dX7_keep_51 (by decide) ?_
      refine jj_iadd dX7_keep_53 (nI_add (15 * b) 12) ?_
      refine jj_aload_n dX7_keep_54 rfl ?_
      refine jj_getf dX7_keep_55 fl7_160 rfl rfl ?_
      refine jv_iast dX7_keep_58 rfl (by omega) (by decide) rfl ?_
      refine jj_aload_n dX7_keep_59 rfl ?_
      refine jj_getf dX7_keep_60 fl7_29 rfl rfl ?_
      refine jj_bipush (v := nI 15) dX7_keep_63 (by decide) ?_
      refine jj_iload_n dX7_keep_65 rfl ?_
      refine jj_imul dX7_keep_66 (j4_mul 15 b) ?_
      refine jj_bipush (v := nI 13) dX7_keep_67 (by decide) ?_
      refine jj_iadd dX7_keep_69 (nI_add (15 * b) 13) ?_
      refine jj_aload_n dX7_keep_70 rfl ?_
      refine jj_getf dX7_keep_71 fl7_163 rfl rfl ?_
      refine jv_iast dX7_keep_74 rfl (by omega) (by decide) rfl ?_
      refine jj_aload_n dX7_keep_75 rfl ?_
      refine jj_getf dX7_keep_76 fl7_29 rfl rfl ?_
      refine jj_bipush (v := nI 15) dX7_keep_79 (by decide) ?_
      refine jj_iload_n dX7_keep_81 rfl ?_
      refine jj_imul dX7_keep_82 (j4_mul 15 b) ?_
      refine jj_bipush (v := nI 14) dX7_keep_83 (by decide) ?_
      refine jj_iadd dX7_keep_85 (nI_add (15 * b) 14) ?_
      refine jj_aload_n dX7_keep_86 rfl ?_
      refine jj_getf dX7_keep_87 fl7_166 rfl rfl ?_
      refine jv_iast dX7_keep_90 rfl (by omega) (by decide) rfl ?_
      refine jj_aload_n dX7_keep_91 rfl ?_
      refine jj_getf dX7_keep_92 fl7_32 rfl rfl ?_
      refine jj_iload_n dX7_keep_95 rfl ?_
      refine jj_iconst (v := 1) dX7_keep_96 (by decide) ?_
      refine jv_zast dX7_keep_97 rfl (hbk) (by decide) rfl ?_
      refine jj_aload_n dX7_keep_98 rfl ?_
      refine jj_getf dX7_keep_99 fl7_166 rfl rfl ?_
      exact jj_leaf dX7_keep_102 rfl rfl
  refine jj_iload_n dX7_keep_0 rfl ?_
  refine jj_iconst (v := 0) dX7_keep_1 (by decide) ?_
  refine jj_iconst (v := 1) dX7_keep_2 (by decide) ?_
  refine jj_callS (M2 := m7_in) dX7_keep_3 ml7_65 tm7_in (ev7_in (nI b) 0 1) rfl rfl (by omega) (Nat.le_of_ble_eq_true rfl) ?_
  refine jj_if_ne (tgt := 12) dX7_keep_6 (by decide) (fun _ => ?_) (fun zz => absurd zz (by rw [jb_bt (v01_of b hbk)]; decide))
  refine jj_iconst (v := 0) dX7_keep_12 (by decide) ?_
  refine jj_istore_n dX7_keep_13 rfl (by decide) rfl ?_
  exact jj_eq rfl rfl rfl rfl (L 0 (by decide))
set_option maxRecDepth 100000 in
set_option maxHeartbeats 4000000 in
theorem ev7_back_b {G : jj_G} {s : jj_S} {x : Int32} (hx : ¬ v01 x) : jj_Ev G m7_back 1 [.ref 28, .int x] (jj_m s) 0 0 (some (.int (-2))) (jj_m s) := by
  refine jj_Ev_of (lo := [some (.ref 28), some (.int x), none]) (by decide +kernel) (Nat.le_of_ble_eq_true rfl) rfl (by trivial) ?_
  refine jj_iload_n dX7_back_0 rfl ?_
  refine jj_iconst (v := 0) dX7_back_1 (by decide) ?_
  refine jj_iconst (v := 1) dX7_back_2 (by decide) ?_
  refine jj_callS (M2 := m7_in) dX7_back_3 ml7_65 tm7_in (ev7_in x 0 1) rfl rfl (by omega) (Nat.le_of_ble_eq_true rfl) ?_
  refine jj_if_ne (tgt := 12) dX7_back_6 (by decide) (fun zz => absurd (jb_bf hx) zz) (fun _ => ?_)
  refine jj_bipush (v := (-2)) dX7_back_9 (by decide) ?_
  exact jj_leaf dX7_back_11 rfl rfl
set_option maxRecDepth 100000 in
set_option maxHeartbeats 4000000 in
theorem ev7_back {G : jj_G} {s : jj_S} {b : Nat} (hbk : b < 2) : jj_Ev G m7_back 1 [.ref 28, .int (nI b)] (jj_m s) 0 0 (some (.int (if mo_isk s b = 0 then -4 else mo_img s (15 * b + 14)))) (jj_m (if mo_isk s b = 0 then s else j7_ba s b)) := by
  refine jj_Ev_of (lo := [some (.ref 28), some (.int (nI b)), none]) (by decide +kernel) (Nat.le_of_ble_eq_true rfl) rfl (by trivial) ?_
  by_cases hz : mo_isk s b = 0
  · rw [if_pos hz, if_pos hz]
    refine jj_iload_n dX7_back_0 rfl ?_
    refine jj_iconst (v := 0) dX7_back_1 (by decide) ?_
    refine jj_iconst (v := 1) dX7_back_2 (by decide) ?_
    refine jj_callS (M2 := m7_in) dX7_back_3 ml7_65 tm7_in (ev7_in (nI b) 0 1) rfl rfl (by omega) (Nat.le_of_ble_eq_true rfl) ?_
    refine jj_if_ne (tgt := 12) dX7_back_6 (by decide) (fun _ => ?_) (fun zz => absurd zz (by rw [jb_bt (v01_of b hbk)]; decide))
    refine jj_aload_n dX7_back_12 rfl ?_
    refine jj_getf dX7_back_13 fl7_32 rfl rfl ?_
    refine jj_iload_n dX7_back_16 rfl ?_
    refine jv_zald dX7_back_17 rfl (hbk) (by decide) ?_
    refine jj_if_ne (tgt := 24) dX7_back_18 (by decide) (fun zz => absurd hz zz) (fun _ => ?_)
    refine jj_bipush (v := (-4)) dX7_back_21 (by decide) ?_
    exact jj_leaf dX7_back_23 rfl rfl
  · rw [if_neg hz, if_neg hz]
    have L : ∀ k, k ≤ 12 → jj_Go G m7_back 1 26 [some (.ref 28), some (.int (nI b)), some (.int (nI k))] [] (jj_m (mo_kindS s (jF (fun f => mo_img s (15 * b + f)) (mo_kind s) k))) 0 0 (some (.int (mo_img s (15 * b + 14)))) (jj_m (j7_ba s b)) := by
      refine jj_up 12 (fun k hk ih => ?_) ?_
      · refine jj_iload_n dX7_back_26 rfl ?_
        refine jj_bipush (v := 12) dX7_back_27 (by decide) ?_
        refine jj_icmp_ge (tgt := 55) dX7_back_29 (by decide) (fun zz => absurd zz (jb_ge hk (by decide))) (fun _ => ?_)
        refine jj_aload_n dX7_back_32 rfl ?_
        refine jj_getf dX7_back_33 fl7_20 rfl rfl ?_
        refine jj_iload_n dX7_back_36 rfl ?_
        refine jj_aload_n dX7_back_37 rfl ?_
        refine jj_getf dX7_back_38 fl7_29 rfl rfl ?_
        refine jj_bipush (v := nI 15) dX7_back_41 (by decide) ?_
        refine jj_iload_n dX7_back_43 rfl ?_
        refine jj_imul dX7_back_44 (j4_mul 15 b) ?_
        refine jj_iload_n dX7_back_45 rfl ?_
        refine jj_iadd dX7_back_46 (nI_add (15 * b) k) ?_
        refine jv_iald dX7_back_47 rfl (by omega) (by decide) ?_
        refine jv_iast dX7_back_48 rfl (hk) (by decide) rfl ?_
        refine jj_iinc dX7_back_49 rfl (jb_i k) (by decide) rfl ?_
        refine jj_goto (tgt := 26) dX7_back_52 (by decide) ?_
        exact jj_eq rfl rfl rfl (by rw [← jF_s' (f := fun f => mo_img s (15 * b + f)) rfl]; rfl) ih
      · refine jj_iload_n dX7_back_26 rfl ?_
        refine jj_bipush (v := 12) dX7_back_27 (by decide) ?_
        refine jj_icmp_ge (tgt := 55) dX7_back_29 (by decide) (fun _ => ?_) (fun zz => absurd (jb_ge' (n := 12) (by decide)) zz)
        refine jj_aload_n dX7_back_55 rfl ?_
        refine jj_aload_n dX7_back_56 rfl ?_
        refine jj_getf dX7_back_57 fl7_29 rfl rfl ?_
        refine jj_bipush (v := nI 15) dX7_back_60 (by decide) ?_
        refine jj_iload_n dX7_back_62 rfl ?_
        refine jj_imul dX7_back_63 (j4_mul 15 b) ?_
        refine jj_bipush (v := nI 12) dX7_back_64 (by decide) ?_
        refine jj_iadd dX7_back_66 (nI_add (15 * b) 12) ?_
        refine jv_iald dX7_back_67 rfl (by omega) (by decide) ?_
        refine jj_putf dX7_back_68 (fw7_160 _) rfl (Nat.le_of_ble_eq_true rfl) rfl rfl rfl ?_
        refine jj_aload_n dX7_back_71 rfl ?_
        refine jj_aload_n dX7_back_72 rfl ?_
        refine jj_getf dX7_back_73 fl7_29 rfl rfl ?_
        refine jj_bipush (v := nI 15) dX7_back_76 (by decide) ?_
        refine jj_iload_n dX7_back_78 rfl ?_
        refine jj_imul dX7_back_79 (j4_mul 15 b) ?_
        refine jj_bipush (v := nI 13) dX7_back_80 (by decide) ?_
        refine jj_iadd dX7_back_82 (nI_add (15 * b) 13) ?_
        refine jv_iald dX7_back_83 rfl (by omega) (by decide) ?_
        refine jj_putf dX7_back_84 (fw7_163 _) rfl (Nat.le_of_ble_eq_true rfl) rfl rfl rfl ?_
        refine jj_aload_n dX7_back_87 rfl ?_
        refine jj_aload_n dX7_back_88 rfl ?_
        refine jj_getf dX7_back_89 fl7_29 rfl rfl ?_
        refine jj_bipush (v := nI 15) dX7_back_92 (by decide) ?_
        refine jj_iload_n dX7_back_94 rfl ?_
        refine jj_imul dX7_back_95 (j4_mul 15 b) ?_
        refine jj_bipush (v := nI 14) dX7_back_96 (by decide) ?_
        refine jj_iadd dX7_back_98 (nI_add (15 * b) 14) ?_
        refine jv_iald dX7_back_99 rfl (by omega) (by decide) ?_
        refine jj_putf dX7_back_100 (fw7_166 _) rfl (Nat.le_of_ble_eq_true rfl) rfl rfl rfl ?_
        refine jj_aload_n dX7_back_103 rfl ?_
        refine jj_getf dX7_back_104 fl7_166 rfl rfl ?_
        exact jj_leaf dX7_back_107 rfl rfl
    refine jj_iload_n dX7_back_0 rfl ?_
    refine jj_iconst (v := 0) dX7_back_1 (by decide) ?_
    refine jj_iconst (v := 1) dX7_back_2 (by decide) ?_
    refine jj_callS (M2 := m7_in) dX7_back_3 ml7_65 tm7_in (ev7_in (nI b) 0 1) rfl rfl (by omega) (Nat.le_of_ble_eq_true rfl) ?_
    refine jj_if_ne (tgt := 12) dX7_back_6 (by decide) (fun _ => ?_) (fun zz => absurd zz (by rw [jb_bt (v01_of b hbk)]; decide))
    refine jj_aload_n dX7_back_12 rfl ?_
    refine jj_getf dX7_back_13 fl7_32 rfl rfl ?_
    refine jj_iload_n dX7_back_16 rfl ?_
    refine jv_zald dX7_back_17 rfl (hbk) (by decide) ?_
    refine jj_if_ne (tgt := 24) dX7_back_18 (by decide) (fun _ => ?_) (fun zz => absurd zz hz)
    refine jj_iconst (v := 0) dX7_back_24 (by decide) ?_
    refine jj_istore_n dX7_back_25 rfl (by decide) rfl ?_
    exact jj_eq rfl rfl rfl (by rw [jF_0]; rfl) (L 0 (by decide))
set_option maxRecDepth 100000 in
set_option maxHeartbeats 4000000 in
theorem ev7_step_b {G : jj_G} {s : jj_S} {x : Int32} (hx : ¬ vS x) : jj_Ev G m7_step 1 [.ref 28, .int x] (jj_m s) 0 0 (some (.int (-3))) (jj_m s) := by
  refine jj_Ev_of (lo := [some (.ref 28), some (.int x), none, none]) (by decide +kernel) (Nat.le_of_ble_eq_true rfl) rfl (by trivial) ?_
  refine jj_iload_n dX7_step_0 rfl ?_
  refine jj_iconst (v := 0) dX7_step_1 (by decide) ?_
  refine jj_iconst (v := 4) dX7_step_2 (by decide) ?_
  refine jj_callS (M2 := m7_in) dX7_step_3 ml7_65 tm7_in (ev7_in x 0 4) rfl rfl (by omega) (Nat.le_of_ble_eq_true rfl) ?_
  refine jj_if_ne (tgt := 12) dX7_step_6 (by decide) (fun zz => absurd (jb_bf fun q => hx (v04.mp q)) zz) (fun _ => ?_)
  refine jj_bipush (v := (-3)) dX7_step_9 (by decide) ?_
  exact jj_leaf dX7_step_11 rfl rfl
set_option maxRecDepth 100000 in
set_option maxHeartbeats 4000000 in
theorem ev7_step {G : jj_G} {s : jj_S} {wl : Nat → Nat → Bool} {F D t : Nat} (hb : mb_ok s) (hw : mw_ok s wl) (hF : mo_fi s = nI F) (hF2 : F < 12) (hD : mo_sd s = nI D) (hD2 : D < 5) (ht : t < 5) : jj_Ev G m7_step 1 [.ref 28, .int (nI t)] (jj_m s) 0 0 (some (.int (if wl F (jh_u D t) = true then -4 else if mo_st s = 9999 then -5 else nI (jb_s F (jh_u D t))))) (jj_m (if wl F (jh_u D t) = true then s else if mo_st s = 9999 then s else j7_st s F (jh_u D t))) := by
  refine jj_Ev_of (lo := [some (.ref 28), some (.int (nI t)), none, none]) (by decide +kernel) (Nat.le_of_ble_eq_true rfl) rfl (by trivial) ?_
  have hu : jh_u D t < 5 := jh_u_lt D t
  by_cases hwl : wl F (jh_u D t) = true
  · rw [if_pos hwl, if_pos hwl]
    refine jj_iload_n dX7_step_0 rfl ?_
    refine jj_iconst (v := 0) dX7_step_1 (by decide) ?_
    refine jj_iconst (v := 4) dX7_step_2 (by decide) ?_
    refine jj_callS (M2 := m7_in) dX7_step_3 ml7_65 tm7_in (ev7_in (nI t) 0 4) rfl rfl (by omega) (Nat.le_of_ble_eq_true rfl) ?_
    refine jj_if_ne (tgt := 12) dX7_step_6 (by decide) (fun _ => ?_) (fun zz => absurd zz (by rw [jb_bt (v04.mpr (vS_of ht))]; decide))
    refine jj_iconst (v := nI 5) dX7_step_12 (by decide) ?_
    refine jj_aload_n dX7_step_13 rfl ?_
    refine jj_getf dX7_step_14 fl7_160 rfl rfl ?_
    refine jj_imul (v := nI (5 * F)) dX7_step_17 (by rw [hF]; exact j4_mul 5 F) ?_
    refine jj_aload_n dX7_step_18 rfl ?_
    refine jj_getf dX7_step_19 fl7_163 rfl rfl ?_
    refine jj_iload_n dX7_step_22 rfl ?_
    refine jj_iadd (v := nI (D + t)) dX7_step_23 (by rw [hD]; exact nI_add D t) ?_
    refine jj_iconst (v := nI 5) dX7_step_24 (by decide) ?_
    refine jj_irem dX7_step_25 (by decide) (pk_rem (a := D + t) (d := 5) (by omega) (by decide) (by decide)) ?_
    refine jj_iadd (v := nI (5 * F + (jh_u D t))) dX7_step_26 (nI_add (5 * F) _) ?_
    refine jj_istore_n dX7_step_27 rfl (by decide) rfl ?_
    refine jj_aload_n dX7_step_28 rfl ?_
    refine jj_getf dX7_step_29 fl7_13 rfl rfl ?_
    refine jj_iload_n dX7_step_32 rfl ?_
    refine jv_zald dX7_step_33 rfl (by omega) (by decide) ?_
    rw [hw F hF2 (jh_u D t) hu]
    refine jj_if_eq (tgt := 40) dX7_step_34 (by decide) (fun zz => absurd zz (by rw [jb_bt hwl]; decide)) (fun _ => ?_)
    refine jj_bipush (v := (-4)) dX7_step_37 (by decide) ?_
    exact jj_leaf dX7_step_39 rfl rfl
  · rw [if_neg hwl, if_neg hwl]
    by_cases hst : mo_st s = 9999
    · rw [if_pos hst, if_pos hst]
      refine jj_iload_n dX7_step_0 rfl ?_
      refine jj_iconst (v := 0) dX7_step_1 (by decide) ?_
      refine jj_iconst (v := 4) dX7_step_2 (by decide) ?_
      refine jj_callS (M2 := m7_in) dX7_step_3 ml7_65 tm7_in (ev7_in (nI t) 0 4) rfl rfl (by omega) (Nat.le_of_ble_eq_true rfl) ?_
      refine jj_if_ne (tgt := 12) dX7_step_6 (by decide) (fun _ => ?_) (fun zz => absurd zz (by rw [jb_bt (v04.mpr (vS_of ht))]; decide))
      refine jj_iconst (v := nI 5) dX7_step_12 (by decide) ?_
      refine jj_aload_n dX7_step_13 rfl ?_
      refine jj_getf dX7_step_14 fl7_160 rfl rfl ?_
      refine jj_imul (v := nI (5 * F)) dX7_step_17 (by rw [hF]; exact j4_mul 5 F) ?_
      refine jj_aload_n dX7_step_18 rfl ?_
      refine jj_getf dX7_step_19 fl7_163 rfl rfl ?_
      refine jj_iload_n dX7_step_22 rfl ?_
      refine jj_iadd (v := nI (D + t)) dX7_step_23 (by rw [hD]; exact nI_add D t) ?_
      refine jj_iconst (v := nI 5) dX7_step_24 (by decide) ?_
      refine jj_irem dX7_step_25 (by decide) (pk_rem (a := D + t) (d := 5) (by omega) (by decide) (by decide)) ?_
      refine jj_iadd (v := nI (5 * F + (jh_u D t))) dX7_step_26 (nI_add (5 * F) _) ?_
      refine jj_istore_n dX7_step_27 rfl (by decide) rfl ?_
      refine jj_aload_n dX7_step_28 rfl ?_
      refine jj_getf dX7_step_29 fl7_13 rfl rfl ?_
      refine jj_iload_n dX7_step_32 rfl ?_
      refine jv_zald dX7_step_33 rfl (by omega) (by decide) ?_
      rw [hw F hF2 (jh_u D t) hu]
      refine jj_if_eq (tgt := 40) dX7_step_34 (by decide) (fun _ => ?_) (fun zz => absurd (jb_bf hwl) zz)
      refine jj_aload_n dX7_step_40 rfl ?_
      refine jj_getf dX7_step_41 fl7_166 rfl rfl ?_
      refine jj_sipush (v := 9999) dX7_step_44 (by decide) ?_
      refine jj_icmp_ne (tgt := 53) dX7_step_47 (by decide) (fun zz => absurd hst zz) (fun _ => ?_)
      refine jj_bipush (v := (-5)) dX7_step_50 (by decide) ?_
      exact jj_leaf dX7_step_52 rfl rfl
    · rw [if_neg hst, if_neg hst]
      refine jj_iload_n dX7_step_0 rfl ?_
      refine jj_iconst (v := 0) dX7_step_1 (by decide) ?_
      refine jj_iconst (v := 4) dX7_step_2 (by decide) ?_
      refine jj_callS (M2 := m7_in) dX7_step_3 ml7_65 tm7_in (ev7_in (nI t) 0 4) rfl rfl (by omega) (Nat.le_of_ble_eq_true rfl) ?_
      refine jj_if_ne (tgt := 12) dX7_step_6 (by decide) (fun _ => ?_) (fun zz => absurd zz (by rw [jb_bt (v04.mpr (vS_of ht))]; decide))
      refine jj_iconst (v := nI 5) dX7_step_12 (by decide) ?_
      refine jj_aload_n dX7_step_13 rfl ?_
      refine jj_getf dX7_step_14 fl7_160 rfl rfl ?_
      refine jj_imul (v := nI (5 * F)) dX7_step_17 (by rw [hF]; exact j4_mul 5 F) ?_
      refine jj_aload_n dX7_step_18 rfl ?_
      refine jj_getf dX7_step_19 fl7_163 rfl rfl ?_
      refine jj_iload_n dX7_step_22 rfl ?_
      refine jj_iadd (v := nI (D + t)) dX7_step_23 (by rw [hD]; exact nI_add D t) ?_
      refine jj_iconst (v := nI 5) dX7_step_24 (by decide) ?_
      refine jj_irem dX7_step_25 (by decide) (pk_rem (a := D + t) (d := 5) (by omega) (by decide) (by decide)) ?_
      refine jj_iadd (v := nI (5 * F + (jh_u D t))) dX7_step_26 (nI_add (5 * F) _) ?_
      refine jj_istore_n dX7_step_27 rfl (by decide) rfl ?_
      refine jj_aload_n dX7_step_28 rfl ?_
      refine jj_getf dX7_step_29 fl7_13 rfl rfl ?_
      refine jj_iload_n dX7_step_32 rfl ?_
      refine jv_zald dX7_step_33 rfl (by omega) (by decide) ?_
      rw [hw F hF2 (jh_u D t) hu]
      refine jj_if_eq (tgt := 40) dX7_step_34 (by decide) (fun _ => ?_) (fun zz => absurd (jb_bf hwl) zz)
      refine jj_aload_n dX7_step_40 rfl ?_
      refine jj_getf dX7_step_41 fl7_166 rfl rfl ?_
      refine jj_sipush (v := 9999) dX7_step_44 (by decide) ?_
      refine jj_icmp_ne (tgt := 53) dX7_step_47 (by decide) (fun _ => ?_) (fun zz => absurd zz hst)
      refine jj_aload_n dX7_step_53 rfl ?_
      refine jj_getf dX7_step_54 fl7_160 rfl rfl ?_
      refine jj_istore_n dX7_step_57 rfl (by decide) rfl ?_
      refine jj_aload_n dX7_step_58 rfl ?_
      refine jj_aload_n dX7_step_59 rfl ?_
      refine jj_getf dX7_step_60 fl7_7 rfl rfl ?_
      refine jj_iload_n dX7_step_63 rfl ?_
      refine jv_iald dX7_step_64 rfl (by omega) (by decide) ?_
      rw [hb F hF2 (jh_u D t) hu]
      refine jj_putf dX7_step_65 (fw7_160 _) rfl (Nat.le_of_ble_eq_true rfl) rfl rfl rfl ?_
      refine jj_aload_n dX7_step_68 rfl ?_
      refine jj_aload_n dX7_step_69 rfl ?_
      refine jj_aload_n dX7_step_70 rfl ?_
      refine jj_getf dX7_step_71 fl7_160 rfl rfl ?_
      refine jj_iload_n dX7_step_74 rfl ?_
      refine jj_eq (st' := [.int (nI F), .int (nI (jb_s F (jh_u D t))), .ref 28, .ref 28]) rfl rfl (by rw [← hF]; rfl) rfl ?_
      refine jj_callV (M2 := m7_sideOf) dX7_step_75 ml7_117 tm7_sideOf (ev7_sideOf (s := mo_fiS s (nI (jb_s F (jh_u D t)))) (f := jb_s F (jh_u D t)) (g := F) hb (jb_s_lt F hF2 _ hu) hF2) rfl rfl rfl rfl rfl (by omega) (Nat.le_of_ble_eq_true rfl) ?_
      rw [jb_bk_sd hF2 hu]
      refine jj_putf dX7_step_78 (fw7_163 _) rfl (Nat.le_of_ble_eq_true rfl) rfl rfl rfl ?_
      refine jj_aload_n dX7_step_81 rfl ?_
      refine jj_dup dX7_step_82 rfl ?_
      refine jj_getf dX7_step_83 fl7_166 rfl rfl ?_
      refine jj_iconst (v := 1) dX7_step_86 (by decide) ?_
      refine jj_iadd dX7_step_87 rfl ?_
      refine jj_putf dX7_step_88 (fw7_166 _) rfl (Nat.le_of_ble_eq_true rfl) rfl rfl rfl ?_
      refine jj_aload_n dX7_step_91 rfl ?_
      refine jj_getf dX7_step_92 fl7_160 rfl rfl ?_
      exact jj_leaf dX7_step_95 rfl rfl
set_option maxRecDepth 100000 in
set_option maxHeartbeats 4000000 in
theorem ev7_home_b {G : jj_G} {s : jj_S} {x : Int32} (hx : ¬ vS x) : jj_Ev G m7_home 1 [.ref 28, .int x] (jj_m s) 0 0 (some (.int (-3))) (jj_m s) := by
  refine jj_Ev_of (lo := [some (.ref 28), some (.int x), none, none, none, none, none]) (by decide +kernel) (Nat.le_of_ble_eq_true rfl) rfl (by trivial) ?_
  refine jj_iload_n dX7_home_0 rfl ?_
  refine jj_iconst (v := 0) dX7_home_1 (by decide) ?_
  refine jj_iconst (v := 4) dX7_home_2 (by decide) ?_
  refine jj_callS (M2 := m7_in) dX7_home_3 ml7_65 tm7_in (ev7_in x 0 4) rfl rfl (by omega) (Nat.le_of_ble_eq_true rfl) ?_
  refine jj_if_ne (tgt := 12) dX7_home_6 (by decide) (fun zz => absurd (jb_bf fun q => hx (v04.mp q)) zz) (fun _ => ?_)
  refine jj_bipush (v := (-3)) dX7_home_9 (by decide) ?_
  exact jj_leaf dX7_home_11 rfl rfl
set_option maxRecDepth 100000 in
set_option maxHeartbeats 4000000 in
theorem ev7_home {G : jj_G} {s : jj_S} {wl : Nat → Nat → Bool} {F D t : Nat} (hb : mb_ok s) (hw : mw_ok s wl) (hF : mo_fi s = nI F) (hF2 : F < 12) (hD : mo_sd s = nI D) (hD2 : D < 5) (ht : t < 5) : jj_Ev G m7_home 1 [.ref 28, .int (nI t)] (jj_m s) 0 0 (some (.int (jh_r wl t (F, D) 60 0 (F, D)))) (jj_m s) := by
  refine jj_Ev_of (lo := [some (.ref 28), some (.int (nI t)), none, none, none, none, none]) (by decide +kernel) (Nat.le_of_ble_eq_true rfl) rfl (by trivial) ?_
  have hper := jh_p_lt t ht F hF2 D hD2
  have L : ∀ m n, n + m = jh_p t (F, D) → jj_Go G m7_home 1 28 [some (.ref 28), some (.int (nI t)), some (.int (nI (jh_o t (F, D) n).1)), some (.int (nI (jh_o t (F, D) n).2)), some (.int (nI n)), some (.int 0), none] [] (jj_m s) 0 0 (some (.int (jh_r wl t (F, D) (60 - n) n (jh_o t (F, D) n)))) (jj_m s) := by
    intro m
    induction m with
    | zero =>
      intro n hn
      have hend := jb_fst_at (p := fun n => jh_o t (F, D) (n + 1) == (F, D)) 60 0 (by show jh_p t (F, D) < 0 + 60; omega)
      have hend : jh_n t (jh_o t (F, D) n) = (F, D) := by
        have h2 : jh_o t (F, D) (jh_p t (F, D) + 1) = (F, D) := beq_iff_eq.mp hend
        rw [← hn] at h2
        exact h2
      have hq := jh_o_lt (t := t) hF2 hD2 n
      have e60 : 60 - n = (60 - (n + 1)) + 1 := by omega
      rw [e60, jh_r]
      generalize hqe : jh_o t (F, D) n = q at hq hend ⊢
      rw [if_pos hend]
      have hu : jh_u q.2 t < 5 := jh_u_lt _ _
      have e1 : jb_s q.1 (jh_u q.2 t) = F := congrArg Prod.fst hend
      have e2 : jb_bk q.1 (jh_u q.2 t) = D := congrArg Prod.snd hend
      by_cases hwl : wl q.1 (jh_u q.2 t) = true
      · rw [if_pos hwl]
        refine jj_iload dX7_home_28 rfl ?_
        refine jj_if_ne (tgt := 106) dX7_home_30 (by decide) (fun zz => absurd rfl zz) (fun _ => ?_)
        refine jj_iconst (v := nI 5) dX7_home_33 (by decide) ?_
        refine jj_iload_n dX7_home_34 rfl ?_
        refine jj_imul dX7_home_35 (j4_mul 5 q.1) ?_
        refine jj_iload_n dX7_home_36 rfl ?_
        refine jj_iload_n dX7_home_37 rfl ?_
        refine jj_iadd dX7_home_38 (nI_add q.2 t) ?_
        refine jj_iconst (v := nI 5) dX7_home_39 (by decide) ?_
        refine jj_irem dX7_home_40 (by decide) (pk_rem (a := q.2 + t) (d := 5) (by omega) (by decide) (by decide)) ?_
        refine jj_iadd (v := nI (5 * q.1 + jh_u q.2 t)) dX7_home_41 (nI_add (5 * q.1) _) ?_
        refine jj_istore dX7_home_42 (by decide) rfl ?_
        refine jj_aload_n dX7_home_44 rfl ?_
        refine jj_getf dX7_home_45 fl7_13 rfl rfl ?_
        refine jj_iload dX7_home_48 rfl ?_
        refine jv_zald dX7_home_50 rfl (by omega) (by decide) ?_
        rw [hw q.1 hq.1 _ hu]
        refine jj_if_eq (tgt := 56) dX7_home_51 (by decide) (fun zz => absurd zz (by rw [jb_bt hwl]; decide)) (fun _ => ?_)
        refine jj_iconst (v := (-1)) dX7_home_54 (by decide) ?_
        exact jj_leaf dX7_home_55 rfl rfl
      · rw [if_neg hwl]
        refine jj_iload dX7_home_28 rfl ?_
        refine jj_if_ne (tgt := 106) dX7_home_30 (by decide) (fun zz => absurd rfl zz) (fun _ => ?_)
        refine jj_iconst (v := nI 5) dX7_home_33 (by decide) ?_
        refine jj_iload_n dX7_home_34 rfl ?_
        refine jj_imul dX7_home_35 (j4_mul 5 q.1) ?_
        refine jj_iload_n dX7_home_36 rfl ?_
        refine jj_iload_n dX7_home_37 rfl ?_
        refine jj_iadd dX7_home_38 (nI_add q.2 t) ?_
        refine jj_iconst (v := nI 5) dX7_home_39 (by decide) ?_
        refine jj_irem dX7_home_40 (by decide) (pk_rem (a := q.2 + t) (d := 5) (by omega) (by decide) (by decide)) ?_
        refine jj_iadd (v := nI (5 * q.1 + jh_u q.2 t)) dX7_home_41 (nI_add (5 * q.1) _) ?_
        refine jj_istore dX7_home_42 (by decide) rfl ?_
        refine jj_aload_n dX7_home_44 rfl ?_
        refine jj_getf dX7_home_45 fl7_13 rfl rfl ?_
        refine jj_iload dX7_home_48 rfl ?_
        refine jv_zald dX7_home_50 rfl (by omega) (by decide) ?_
        rw [hw q.1 hq.1 _ hu]
        refine jj_if_eq (tgt := 56) dX7_home_51 (by decide) (fun _ => ?_) (fun zz => absurd (jb_bf hwl) zz)
        refine jj_aload_n dX7_home_56 rfl ?_
        refine jj_aload_n dX7_home_57 rfl ?_
        refine jj_getf dX7_home_58 fl7_7 rfl rfl ?_
        refine jj_iload dX7_home_61 rfl ?_
        refine jv_iald dX7_home_63 rfl (by omega) (by decide) ?_
        rw [hb q.1 hq.1 _ hu]
        refine jj_iload_n dX7_home_64 rfl ?_
        refine jj_callV (M2 := m7_sideOf) dX7_home_65 ml7_117 tm7_sideOf (ev7_sideOf (s := s) (f := jb_s q.1 (jh_u q.2 t)) (g := q.1) hb (jb_s_lt _ hq.1 _ hu) hq.1) rfl rfl rfl rfl rfl (by omega) (Nat.le_of_ble_eq_true rfl) ?_
        rw [jb_bk_sd hq.1 hu]
        refine jj_istore_n dX7_home_68 rfl (by decide) rfl ?_
        refine jj_aload_n dX7_home_69 rfl ?_
        refine jj_getf dX7_home_70 fl7_7 rfl rfl ?_
        refine jj_iload dX7_home_73 rfl ?_
        refine jv_iald dX7_home_75 rfl (by omega) (by decide) ?_
        rw [hb q.1 hq.1 _ hu]
        refine jj_istore_n dX7_home_76 rfl (by decide) rfl ?_
        refine jj_iinc dX7_home_77 rfl (jb_i _) (by decide) rfl ?_
        refine jj_iload_n dX7_home_80 rfl ?_
        refine jj_aload_n dX7_home_81 rfl ?_
        refine jj_getf dX7_home_82 fl7_160 rfl rfl ?_
        rw [hF]
        refine jj_icmp_ne (tgt := 100) dX7_home_85 (by decide) (fun zz => absurd (by rw [e1]) zz) (fun _ => ?_)
        refine jj_iload_n dX7_home_88 rfl ?_
        refine jj_aload_n dX7_home_89 rfl ?_
        refine jj_getf dX7_home_90 fl7_163 rfl rfl ?_
        rw [hD]
        refine jj_icmp_ne (tgt := 100) dX7_home_93 (by decide) (fun zz => absurd (by rw [e2]) zz) (fun _ => ?_)
        refine jj_iconst (v := 1) dX7_home_96 (by decide) ?_
        refine jj_goto (tgt := 101) dX7_home_97 (by decide) ?_
        refine jj_istore dX7_home_101 (by decide) rfl ?_
        refine jj_goto (tgt := 28) dX7_home_103 (by decide) ?_
        refine jj_iload dX7_home_28 rfl ?_
        refine jj_if_ne (tgt := 106) dX7_home_30 (by decide) (fun _ => ?_) (fun zz => absurd zz (by decide))
        refine jj_iload dX7_home_106 rfl ?_
        exact jj_leaf dX7_home_108 rfl rfl
    | succ m ihm =>
      intro n hn
      have ihn := ihm (n + 1) (by omega)
      have hq := jh_o_lt (t := t) hF2 hD2 n
      have e60 : 60 - n = (60 - (n + 1)) + 1 := by omega
      rw [e60, jh_r]
      rw [show jh_o t (F, D) (n + 1) = jh_n t (jh_o t (F, D) n) from rfl] at ihn
      generalize hqe : jh_o t (F, D) n = q at hq ihn ⊢
      · have hu : jh_u q.2 t < 5 := jh_u_lt _ _
        by_cases hwl : wl q.1 (jh_u q.2 t) = true
        · rw [if_pos hwl]
          refine jj_iload dX7_home_28 rfl ?_
          refine jj_if_ne (tgt := 106) dX7_home_30 (by decide) (fun zz => absurd rfl zz) (fun _ => ?_)
          refine jj_iconst (v := nI 5) dX7_home_33 (by decide) ?_
          refine jj_iload_n dX7_home_34 rfl ?_
          refine jj_imul dX7_home_35 (j4_mul 5 q.1) ?_
          refine jj_iload_n dX7_home_36 rfl ?_
          refine jj_iload_n dX7_home_37 rfl ?_
          refine jj_iadd dX7_home_38 (nI_add q.2 t) ?_
          refine jj_iconst (v := nI 5) dX7_home_39 (by decide) ?_
          refine jj_irem dX7_home_40 (by decide) (pk_rem (a := q.2 + t) (d := 5) (by omega) (by decide) (by decide)) ?_
          refine jj_iadd (v := nI (5 * q.1 + jh_u q.2 t)) dX7_home_41 (nI_add (5 * q.1) _) ?_
          refine jj_istore dX7_home_42 (by decide) rfl ?_
          refine jj_aload_n dX7_home_44 rfl ?_
          refine jj_getf dX7_home_45 fl7_13 rfl rfl ?_
          refine jj_iload dX7_home_48 rfl ?_
          refine jv_zald dX7_home_50 rfl (by omega) (by decide) ?_
          rw [hw q.1 hq.1 _ hu]
          refine jj_if_eq (tgt := 56) dX7_home_51 (by decide) (fun zz => absurd zz (by rw [jb_bt hwl]; decide)) (fun _ => ?_)
          refine jj_iconst (v := (-1)) dX7_home_54 (by decide) ?_
          exact jj_leaf dX7_home_55 rfl rfl
        · rw [if_neg hwl]
          by_cases he : jh_n t q = (F, D)
          · rw [if_pos he]
            have e1 : jb_s q.1 (jh_u q.2 t) = F := congrArg Prod.fst he
            have e2 : jb_bk q.1 (jh_u q.2 t) = D := congrArg Prod.snd he
            refine jj_iload dX7_home_28 rfl ?_
            refine jj_if_ne (tgt := 106) dX7_home_30 (by decide) (fun zz => absurd rfl zz) (fun _ => ?_)
            refine jj_iconst (v := nI 5) dX7_home_33 (by decide) ?_
            refine jj_iload_n dX7_home_34 rfl ?_
            refine jj_imul dX7_home_35 (j4_mul 5 q.1) ?_
            refine jj_iload_n dX7_home_36 rfl ?_
            refine jj_iload_n dX7_home_37 rfl ?_
            refine jj_iadd dX7_home_38 (nI_add q.2 t) ?_
            refine jj_iconst (v := nI 5) dX7_home_39 (by decide) ?_
            refine jj_irem dX7_home_40 (by decide) (pk_rem (a := q.2 + t) (d := 5) (by omega) (by decide) (by decide)) ?_
            refine jj_iadd (v := nI (5 * q.1 + jh_u q.2 t)) dX7_home_41 (nI_add (5 * q.1) _) ?_
            refine jj_istore dX7_home_42 (by decide) rfl ?_
            refine jj_aload_n dX7_home_44 rfl ?_
            refine jj_getf dX7_home_45 fl7_13 rfl rfl ?_
            refine jj_iload dX7_home_48 rfl ?_
            refine jv_zald dX7_home_50 rfl (by omega) (by decide) ?_
            rw [hw q.1 hq.1 _ hu]
            refine jj_if_eq (tgt := 56) dX7_home_51 (by decide) (fun _ => ?_) (fun zz => absurd (jb_bf hwl) zz)
            refine jj_aload_n dX7_home_56 rfl ?_
            refine jj_aload_n dX7_home_57 rfl ?_
            refine jj_getf dX7_home_58 fl7_7 rfl rfl ?_
            refine jj_iload dX7_home_61 rfl ?_
            refine jv_iald dX7_home_63 rfl (by omega) (by decide) ?_
            rw [hb q.1 hq.1 _ hu]
            refine jj_iload_n dX7_home_64 rfl ?_
            refine jj_callV (M2 := m7_sideOf) dX7_home_65 ml7_117 tm7_sideOf (ev7_sideOf (s := s) (f := jb_s q.1 (jh_u q.2 t)) (g := q.1) hb (jb_s_lt _ hq.1 _ hu) hq.1) rfl rfl rfl rfl rfl (by omega) (Nat.le_of_ble_eq_true rfl) ?_
            rw [jb_bk_sd hq.1 hu]
            refine jj_istore_n dX7_home_68 rfl (by decide) rfl ?_
            refine jj_aload_n dX7_home_69 rfl ?_
            refine jj_getf dX7_home_70 fl7_7 rfl rfl ?_
            refine jj_iload dX7_home_73 rfl ?_
            refine jv_iald dX7_home_75 rfl (by omega) (by decide) ?_
            rw [hb q.1 hq.1 _ hu]
            refine jj_istore_n dX7_home_76 rfl (by decide) rfl ?_
            refine jj_iinc dX7_home_77 rfl (jb_i _) (by decide) rfl ?_
            refine jj_iload_n dX7_home_80 rfl ?_
            refine jj_aload_n dX7_home_81 rfl ?_
            refine jj_getf dX7_home_82 fl7_160 rfl rfl ?_
            rw [hF]
            refine jj_icmp_ne (tgt := 100) dX7_home_85 (by decide) (fun zz => absurd (by rw [e1]) zz) (fun _ => ?_)
            refine jj_iload_n dX7_home_88 rfl ?_
            refine jj_aload_n dX7_home_89 rfl ?_
            refine jj_getf dX7_home_90 fl7_163 rfl rfl ?_
            rw [hD]
            refine jj_icmp_ne (tgt := 100) dX7_home_93 (by decide) (fun zz => absurd (by rw [e2]) zz) (fun _ => ?_)
            refine jj_iconst (v := 1) dX7_home_96 (by decide) ?_
            refine jj_goto (tgt := 101) dX7_home_97 (by decide) ?_
            refine jj_istore dX7_home_101 (by decide) rfl ?_
            refine jj_goto (tgt := 28) dX7_home_103 (by decide) ?_
            refine jj_iload dX7_home_28 rfl ?_
            refine jj_if_ne (tgt := 106) dX7_home_30 (by decide) (fun _ => ?_) (fun zz => absurd zz (by decide))
            refine jj_iload dX7_home_106 rfl ?_
            exact jj_leaf dX7_home_108 rfl rfl
          · rw [if_neg he]
            by_cases e1 : jb_s q.1 (jh_u q.2 t) = F
            · have e2 : ¬ jb_bk q.1 (jh_u q.2 t) = D := fun z => he (Prod.ext e1 z)
              refine jj_iload dX7_home_28 rfl ?_
              refine jj_if_ne (tgt := 106) dX7_home_30 (by decide) (fun zz => absurd rfl zz) (fun _ => ?_)
              refine jj_iconst (v := nI 5) dX7_home_33 (by decide) ?_
              refine jj_iload_n dX7_home_34 rfl ?_
              refine jj_imul dX7_home_35 (j4_mul 5 q.1) ?_
              refine jj_iload_n dX7_home_36 rfl ?_
              refine jj_iload_n dX7_home_37 rfl ?_
              refine jj_iadd dX7_home_38 (nI_add q.2 t) ?_
              refine jj_iconst (v := nI 5) dX7_home_39 (by decide) ?_
              refine jj_irem dX7_home_40 (by decide) (pk_rem (a := q.2 + t) (d := 5) (by omega) (by decide) (by decide)) ?_
              refine jj_iadd (v := nI (5 * q.1 + jh_u q.2 t)) dX7_home_41 (nI_add (5 * q.1) _) ?_
              refine jj_istore dX7_home_42 (by decide) rfl ?_
              refine jj_aload_n dX7_home_44 rfl ?_
              refine jj_getf dX7_home_45 fl7_13 rfl rfl ?_
              refine jj_iload dX7_home_48 rfl ?_
              refine jv_zald dX7_home_50 rfl (by omega) (by decide) ?_
              rw [hw q.1 hq.1 _ hu]
              refine jj_if_eq (tgt := 56) dX7_home_51 (by decide) (fun _ => ?_) (fun zz => absurd (jb_bf hwl) zz)
              refine jj_aload_n dX7_home_56 rfl ?_
              refine jj_aload_n dX7_home_57 rfl ?_
              refine jj_getf dX7_home_58 fl7_7 rfl rfl ?_
              refine jj_iload dX7_home_61 rfl ?_
              refine jv_iald dX7_home_63 rfl (by omega) (by decide) ?_
              rw [hb q.1 hq.1 _ hu]
              refine jj_iload_n dX7_home_64 rfl ?_
              refine jj_callV (M2 := m7_sideOf) dX7_home_65 ml7_117 tm7_sideOf (ev7_sideOf (s := s) (f := jb_s q.1 (jh_u q.2 t)) (g := q.1) hb (jb_s_lt _ hq.1 _ hu) hq.1) rfl rfl rfl rfl rfl (by omega) (Nat.le_of_ble_eq_true rfl) ?_
              rw [jb_bk_sd hq.1 hu]
              refine jj_istore_n dX7_home_68 rfl (by decide) rfl ?_
              refine jj_aload_n dX7_home_69 rfl ?_
              refine jj_getf dX7_home_70 fl7_7 rfl rfl ?_
              refine jj_iload dX7_home_73 rfl ?_
              refine jv_iald dX7_home_75 rfl (by omega) (by decide) ?_
              rw [hb q.1 hq.1 _ hu]
              refine jj_istore_n dX7_home_76 rfl (by decide) rfl ?_
              refine jj_iinc dX7_home_77 rfl (jb_i _) (by decide) rfl ?_
              refine jj_iload_n dX7_home_80 rfl ?_
              refine jj_aload_n dX7_home_81 rfl ?_
              refine jj_getf dX7_home_82 fl7_160 rfl rfl ?_
              rw [hF]
              refine jj_icmp_ne (tgt := 100) dX7_home_85 (by decide) (fun zz => absurd (by rw [e1]) zz) (fun _ => ?_)
              refine jj_iload_n dX7_home_88 rfl ?_
              refine jj_aload_n dX7_home_89 rfl ?_
              refine jj_getf dX7_home_90 fl7_163 rfl rfl ?_
              rw [hD]
              refine jj_icmp_ne (tgt := 100) dX7_home_93 (by decide) (fun _ => ?_) (fun zz => absurd zz (fun z => e2 ((jb_inj (by have := jb_bk_lt q.1 hq.1 _ hu; omega) (by omega)).mp z)))
              refine jj_iconst (v := 0) dX7_home_100 (by decide) ?_
              refine jj_istore dX7_home_101 (by decide) rfl ?_
              refine jj_goto (tgt := 28) dX7_home_103 (by decide) ?_
              refine jj_less (lo' := [some (.ref 28), some (.int (nI t)), some (.int (nI (jh_n t q).1)), some (.int (nI (jh_n t q).2)), some (.int (nI (n + 1))), some (.int 0), none]) (fun j v hj => ?_) ihn
              match j, hj with
              | 0, hj => exact hj
              | 1, hj => exact hj
              | 2, hj => exact hj
              | 3, hj => exact hj
              | 4, hj => exact hj
              | 5, hj => exact hj
              | 6, hj => exact absurd hj (by simp)
              | j + 7, hj => exact absurd hj (by simp)
            · skip
              refine jj_iload dX7_home_28 rfl ?_
              refine jj_if_ne (tgt := 106) dX7_home_30 (by decide) (fun zz => absurd rfl zz) (fun _ => ?_)
              refine jj_iconst (v := nI 5) dX7_home_33 (by decide) ?_
              refine jj_iload_n dX7_home_34 rfl ?_
              refine jj_imul dX7_home_35 (j4_mul 5 q.1) ?_
              refine jj_iload_n dX7_home_36 rfl ?_
              refine jj_iload_n dX7_home_37 rfl ?_
              refine jj_iadd dX7_home_38 (nI_add q.2 t) ?_
              refine jj_iconst (v := nI 5) dX7_home_39 (by decide) ?_
              refine jj_irem dX7_home_40 (by decide) (pk_rem (a := q.2 + t) (d := 5) (by omega) (by decide) (by decide)) ?_
              refine jj_iadd (v := nI (5 * q.1 + jh_u q.2 t)) dX7_home_41 (nI_add (5 * q.1) _) ?_
              refine jj_istore dX7_home_42 (by decide) rfl ?_
              refine jj_aload_n dX7_home_44 rfl ?_
              refine jj_getf dX7_home_45 fl7_13 rfl rfl ?_
              refine jj_iload dX7_home_48 rfl ?_
              refine jv_zald dX7_home_50 rfl (by omega) (by decide) ?_
              rw [hw q.1 hq.1 _ hu]
              refine jj_if_eq (tgt := 56) dX7_home_51 (by decide) (fun _ => ?_) (fun zz => absurd (jb_bf hwl) zz)
              refine jj_aload_n dX7_home_56 rfl ?_
              refine jj_aload_n dX7_home_57 rfl ?_
              refine jj_getf dX7_home_58 fl7_7 rfl rfl ?_
              refine jj_iload dX7_home_61 rfl ?_
              refine jv_iald dX7_home_63 rfl (by omega) (by decide) ?_
              rw [hb q.1 hq.1 _ hu]
              refine jj_iload_n dX7_home_64 rfl ?_
              refine jj_callV (M2 := m7_sideOf) dX7_home_65 ml7_117 tm7_sideOf (ev7_sideOf (s := s) (f := jb_s q.1 (jh_u q.2 t)) (g := q.1) hb (jb_s_lt _ hq.1 _ hu) hq.1) rfl rfl rfl rfl rfl (by omega) (Nat.le_of_ble_eq_true rfl) ?_
              rw [jb_bk_sd hq.1 hu]
              refine jj_istore_n dX7_home_68 rfl (by decide) rfl ?_
              refine jj_aload_n dX7_home_69 rfl ?_
              refine jj_getf dX7_home_70 fl7_7 rfl rfl ?_
              refine jj_iload dX7_home_73 rfl ?_
              refine jv_iald dX7_home_75 rfl (by omega) (by decide) ?_
              rw [hb q.1 hq.1 _ hu]
              refine jj_istore_n dX7_home_76 rfl (by decide) rfl ?_
              refine jj_iinc dX7_home_77 rfl (jb_i _) (by decide) rfl ?_
              refine jj_iload_n dX7_home_80 rfl ?_
              refine jj_aload_n dX7_home_81 rfl ?_
              refine jj_getf dX7_home_82 fl7_160 rfl rfl ?_
              rw [hF]
              refine jj_icmp_ne (tgt := 100) dX7_home_85 (by decide) (fun _ => ?_) (fun zz => absurd zz (fun z => e1 ((jb_inj (by have := jb_s_lt q.1 hq.1 _ hu; omega) (by omega)).mp z)))
              refine jj_iconst (v := 0) dX7_home_100 (by decide) ?_
              refine jj_istore dX7_home_101 (by decide) rfl ?_
              refine jj_goto (tgt := 28) dX7_home_103 (by decide) ?_
              refine jj_less (lo' := [some (.ref 28), some (.int (nI t)), some (.int (nI (jh_n t q).1)), some (.int (nI (jh_n t q).2)), some (.int (nI (n + 1))), some (.int 0), none]) (fun j v hj => ?_) ihn
              match j, hj with
              | 0, hj => exact hj
              | 1, hj => exact hj
              | 2, hj => exact hj
              | 3, hj => exact hj
              | 4, hj => exact hj
              | 5, hj => exact hj
              | 6, hj => exact absurd hj (by simp)
              | j + 7, hj => exact absurd hj (by simp)
  refine jj_iload_n dX7_home_0 rfl ?_
  refine jj_iconst (v := 0) dX7_home_1 (by decide) ?_
  refine jj_iconst (v := 4) dX7_home_2 (by decide) ?_
  refine jj_callS (M2 := m7_in) dX7_home_3 ml7_65 tm7_in (ev7_in (nI t) 0 4) rfl rfl (by omega) (Nat.le_of_ble_eq_true rfl) ?_
  refine jj_if_ne (tgt := 12) dX7_home_6 (by decide) (fun _ => ?_) (fun zz => absurd zz (by rw [jb_bt (v04.mpr (vS_of ht))]; decide))
  refine jj_aload_n dX7_home_12 rfl ?_
  refine jj_getf dX7_home_13 fl7_160 rfl rfl ?_
  rw [hF]
  refine jj_istore_n dX7_home_16 rfl (by decide) rfl ?_
  refine jj_aload_n dX7_home_17 rfl ?_
  refine jj_getf dX7_home_18 fl7_163 rfl rfl ?_
  rw [hD]
  refine jj_istore_n dX7_home_21 rfl (by decide) rfl ?_
  refine jj_iconst (v := 0) dX7_home_22 (by decide) ?_
  refine jj_istore dX7_home_23 (by decide) rfl ?_
  refine jj_iconst (v := 0) dX7_home_25 (by decide) ?_
  refine jj_istore dX7_home_26 (by decide) rfl ?_
  exact jj_eq rfl rfl rfl rfl (L (jh_p t (F, D)) 0 (Nat.zero_add _))
