/-! THE MODEL: what goes where, rotations -/
theorem la_kind (s : jj_S) (a t : Nat) : mo_kind (j7_la s a t) = mo_kind s := by
  unfold j7_la jy_S
  generalize jy_r (jy_0 s a t) 3 = P
  rfl
theorem la_img (s : jj_S) (a t : Nat) : mo_img (j7_la s a t) = mo_img s := by
  unfold j7_la jy_S
  generalize jy_r (jy_0 s a t) 3 = P
  rfl
theorem la_row (s : jj_S) (a t : Nat) : mo_row (j7_la s a t) = mo_row s := by
  unfold j7_la jy_S
  generalize jy_r (jy_0 s a t) 3 = P
  rfl
theorem la_ball (s : jj_S) (a t : Nat) : mo_ball (j7_la s a t) = mo_ball s := by
  unfold j7_la jy_S
  generalize jy_r (jy_0 s a t) 3 = P
  rfl
theorem la_ok {s : jj_S} (a t : Nat) (h : mb_ok s) : mb_ok (j7_la s a t) := by
  unfold mb_ok
  rw [la_ball]
  exact h
def jr_r (g : Nat → Nat) (kd rw : Nat → Int32) : Nat → Nat → Int32
  | 0 => rw
  | k + 1 => jU (jr_r g kd rw k) (g k) (kd k)
def jr_c (r kd : Nat → Int32) : Nat → Nat
  | 0 => 0
  | k + 1 => jr_c r kd k + (if r k = kd k then 0 else 1)
theorem jr_c_le (r kd : Nat → Int32) : ∀ k, jr_c r kd k ≤ k := by
  intro k
  induction k with
  | zero => exact Nat.le_refl 0
  | succ k ih => unfold jr_c; split <;> omega
def j7_rr (s : jj_S) (a t : Nat) : Nat → Int32 := jr_r (j7_g (5 * a + t)) (mo_kind s) (mo_row s) 12
/-- what a rotation leaves -/
def j7_ro (s : jj_S) (a t : Nat) : jj_S := mo_kindS (mo_rowS (j7_la s a t) (j7_rr s a t)) (jF (j7_rr s a t) (mo_kind s) 12)
set_option maxRecDepth 100000 in
set_option maxHeartbeats 600000 in
theorem ev7_goes {G : jj_G} {s : jj_S} {a t c : Nat} (hb : mb_ok s) (ha : a < 12) (ht : t < 5) (hc : c < 12) : jj_Ev G m7_goes 2 [.ref 28, .int (nI a), .int (nI t), .int (nI c)] (jj_m s) 0 0 (some (.int (nI (j7_g (5 * a + t) c)))) (jj_m (j7_la s a t)) := by
  refine jj_Ev_of (lo := [some (.ref 28), some (.int (nI a)), some (.int (nI t)), some (.int (nI c))]) (by decide +kernel) (Nat.le_of_ble_eq_true rfl) rfl (by trivial) ?_
  refine jj_iload_n dX7_goes_0 rfl ?_
  refine jj_callS (M2 := m7_isField) dX7_goes_1 ml7_169 tm7_isField (ev7_isField_v ha) rfl rfl (by omega) (Nat.le_of_ble_eq_true rfl) ?_
  refine jj_if_eq (tgt := 21) dX7_goes_4 (by decide) (fun zz => absurd zz (by decide)) (fun _ => ?_)
  refine jj_iload_n dX7_goes_7 rfl ?_
  refine jj_callS (M2 := m7_isSide) dX7_goes_8 ml7_172 tm7_isSide (ev7_isSide_v ht) rfl rfl (by omega) (Nat.le_of_ble_eq_true rfl) ?_
  refine jj_if_eq (tgt := 21) dX7_goes_11 (by decide) (fun zz => absurd zz (by decide)) (fun _ => ?_)
  refine jj_iload_n dX7_goes_14 rfl ?_
  refine jj_callS (M2 := m7_isField) dX7_goes_15 ml7_169 tm7_isField (ev7_isField_v hc) rfl rfl (by omega) (Nat.le_of_ble_eq_true rfl) ?_
  refine jj_if_ne (tgt := 24) dX7_goes_18 (by decide) (fun _ => ?_) (fun zz => absurd zz (by decide))
  refine jj_aload_n dX7_goes_24 rfl ?_
  refine jj_iload_n dX7_goes_25 rfl ?_
  refine jj_iload_n dX7_goes_26 rfl ?_
  refine jj_callV (M2 := m7_layTurning) dX7_goes_27 ml7_181 tm7_layTurning (ev7_layTurning hb ha ht) rfl rfl rfl rfl rfl (by omega) (Nat.le_of_ble_eq_true rfl) ?_
  refine jj_aload_n dX7_goes_30 rfl ?_
  refine jj_getf dX7_goes_31 fl7_35 rfl rfl ?_
  refine jj_iload_n dX7_goes_34 rfl ?_
  refine jv_iald dX7_goes_35 rfl (hc) (by decide) ?_
  rw [j7_la_to s ha ht hc]
  exact jj_leaf dX7_goes_36 rfl rfl
set_option maxRecDepth 100000 in
set_option maxHeartbeats 600000 in
theorem ev7_goes_b {G : jj_G} {s : jj_S} {x y z : Int32} (h : ¬ (vF x ∧ vS y ∧ vF z)) : jj_Ev G m7_goes 2 [.ref 28, .int x, .int y, .int z] (jj_m s) 0 0 (some (.int (-2))) (jj_m s) := by
  refine jj_Ev_of (lo := [some (.ref 28), some (.int x), some (.int y), some (.int z)]) (by decide +kernel) (Nat.le_of_ble_eq_true rfl) rfl (by trivial) ?_
  by_cases hx : vF x
  · by_cases hy : vS y
    · have hz : ¬ vF z := fun hz => h ⟨hx, hy, hz⟩
      refine jj_iload_n dX7_goes_0 rfl ?_
      refine jj_callS (M2 := m7_isField) dX7_goes_1 ml7_169 tm7_isField (ev7_isField x) rfl rfl (by omega) (Nat.le_of_ble_eq_true rfl) ?_
      refine jj_if_eq (tgt := 21) dX7_goes_4 (by decide) (fun zz => absurd zz (by rw [jb_bt hx]; decide)) (fun _ => ?_)
      refine jj_iload_n dX7_goes_7 rfl ?_
      refine jj_callS (M2 := m7_isSide) dX7_goes_8 ml7_172 tm7_isSide (ev7_isSide y) rfl rfl (by omega) (Nat.le_of_ble_eq_true rfl) ?_
      refine jj_if_eq (tgt := 21) dX7_goes_11 (by decide) (fun zz => absurd zz (by rw [jb_bt hy]; decide)) (fun _ => ?_)
      refine jj_iload_n dX7_goes_14 rfl ?_
      refine jj_callS (M2 := m7_isField) dX7_goes_15 ml7_169 tm7_isField (ev7_isField z) rfl rfl (by omega) (Nat.le_of_ble_eq_true rfl) ?_
      refine jj_if_ne (tgt := 24) dX7_goes_18 (by decide) (fun zz => absurd (jb_bf hz) zz) (fun _ => ?_)
      refine jj_bipush (v := (-2)) dX7_goes_21 (by decide) ?_
      exact jj_leaf dX7_goes_23 rfl rfl
    · skip
      refine jj_iload_n dX7_goes_0 rfl ?_
      refine jj_callS (M2 := m7_isField) dX7_goes_1 ml7_169 tm7_isField (ev7_isField x) rfl rfl (by omega) (Nat.le_of_ble_eq_true rfl) ?_
      refine jj_if_eq (tgt := 21) dX7_goes_4 (by decide) (fun zz => absurd zz (by rw [jb_bt hx]; decide)) (fun _ => ?_)
      refine jj_iload_n dX7_goes_7 rfl ?_
      refine jj_callS (M2 := m7_isSide) dX7_goes_8 ml7_172 tm7_isSide (ev7_isSide y) rfl rfl (by omega) (Nat.le_of_ble_eq_true rfl) ?_
      refine jj_if_eq (tgt := 21) dX7_goes_11 (by decide) (fun _ => ?_) (fun zz => absurd (jb_bf hy) zz)
      refine jj_bipush (v := (-2)) dX7_goes_21 (by decide) ?_
      exact jj_leaf dX7_goes_23 rfl rfl
  · skip
    refine jj_iload_n dX7_goes_0 rfl ?_
    refine jj_callS (M2 := m7_isField) dX7_goes_1 ml7_169 tm7_isField (ev7_isField x) rfl rfl (by omega) (Nat.le_of_ble_eq_true rfl) ?_
    refine jj_if_eq (tgt := 21) dX7_goes_4 (by decide) (fun _ => ?_) (fun zz => absurd (jb_bf hx) zz)
    refine jj_bipush (v := (-2)) dX7_goes_21 (by decide) ?_
    exact jj_leaf dX7_goes_23 rfl rfl
set_option maxRecDepth 100000 in
set_option maxHeartbeats 600000 in
theorem ev7_rotate_b {G : jj_G} {s : jj_S} {x y : Int32} (h : ¬ (vF x ∧ vS y)) : jj_Ev G m7_rotate 2 [.ref 28, .int x, .int y] (jj_m s) 0 0 (some (.int (-2))) (jj_m s) := by
  refine jj_Ev_of (lo := [some (.ref 28), some (.int x), some (.int y), none, none]) (by decide +kernel) (Nat.le_of_ble_eq_true rfl) rfl (by trivial) ?_
  by_cases hx : vF x
  · have hy : ¬ vS y := fun hy => h ⟨hx, hy⟩
    refine jj_iload_n dX7_rotate_0 rfl ?_
    refine jj_callS (M2 := m7_isField) dX7_rotate_1 ml7_169 tm7_isField (ev7_isField x) rfl rfl (by omega) (Nat.le_of_ble_eq_true rfl) ?_
    refine jj_if_eq (tgt := 14) dX7_rotate_4 (by decide) (fun zz => absurd zz (by rw [jb_bt hx]; decide)) (fun _ => ?_)
    refine jj_iload_n dX7_rotate_7 rfl ?_
    refine jj_callS (M2 := m7_isSide) dX7_rotate_8 ml7_172 tm7_isSide (ev7_isSide y) rfl rfl (by omega) (Nat.le_of_ble_eq_true rfl) ?_
    refine jj_if_ne (tgt := 17) dX7_rotate_11 (by decide) (fun zz => absurd (jb_bf hy) zz) (fun _ => ?_)
    refine jj_bipush (v := (-2)) dX7_rotate_14 (by decide) ?_
    exact jj_leaf dX7_rotate_16 rfl rfl
  · skip
    refine jj_iload_n dX7_rotate_0 rfl ?_
    refine jj_callS (M2 := m7_isField) dX7_rotate_1 ml7_169 tm7_isField (ev7_isField x) rfl rfl (by omega) (Nat.le_of_ble_eq_true rfl) ?_
    refine jj_if_eq (tgt := 14) dX7_rotate_4 (by decide) (fun _ => ?_) (fun zz => absurd (jb_bf hx) zz)
    refine jj_bipush (v := (-2)) dX7_rotate_14 (by decide) ?_
    exact jj_leaf dX7_rotate_16 rfl rfl
set_option maxRecDepth 100000 in
set_option maxHeartbeats 600000 in
theorem ev7_rotate {G : jj_G} {s : jj_S} {a t : Nat} (hb : mb_ok s) (ha : a < 12) (ht : t < 5) : jj_Ev G m7_rotate 2 [.ref 28, .int (nI a), .int (nI t)] (jj_m s) 0 0 (some (.int (nI (jr_c (j7_rr s a t) (mo_kind s) 12)))) (jj_m (j7_ro s a t)) := by
  refine jj_Ev_of (lo := [some (.ref 28), some (.int (nI a)), some (.int (nI t)), none, none]) (by decide +kernel) (Nat.le_of_ble_eq_true rfl) rfl (by trivial) ?_
  have hto : ∀ f, f < 12 → mo_to (j7_la s a t) f = nI (j7_g (5 * a + t) f) := fun f hf => j7_la_to s ha ht hf
  have hkd := la_kind s a t
  have hrw := la_row s a t
  have hgl : ∀ f, f < 12 → j7_g (5 * a + t) f < 12 := fun f hf => j7_g_lt (by omega) hf
  have hla := ev7_layTurning (G := G) hb ha ht
  unfold j7_ro
  generalize j7_la s a t = s2 at hto hkd hrw hla ⊢
  have hre : (jr_r (j7_g (5 * a + t)) (mo_kind s) (mo_row s) 12) = j7_rr s a t := rfl
  generalize j7_rr s a t = r at hre ⊢
  have hz : jj_m (mo_kindS (mo_rowS s2 r) (mo_kind s)) = jj_m (mo_rowS s2 r) := by rw [← hkd]; rfl
  have hz0 : jj_m s2 = jj_m (mo_rowS s2 (mo_row s)) := by rw [← hrw]; rfl
  have L2 : ∀ k, k ≤ 12 → jj_Go G m7_rotate 2 59 [some (.ref 28), some (.int (nI a)), some (.int (nI t)), some (.int (nI (jr_c r (mo_kind s) k))), some (.int (nI k))] [] (jj_m (mo_kindS (mo_rowS s2 r) (jF r (mo_kind s) k))) 0 0 (some (.int (nI (jr_c r (mo_kind s) 12)))) (jj_m (mo_kindS (mo_rowS s2 r) (jF r (mo_kind s) 12))) := by
    refine jj_up 12 (fun k hk ih => ?_) ?_
    · have hki : jF r (mo_kind s) k k = mo_kind s k := if_neg (Nat.lt_irrefl k)
      rw [jr_c] at ih
      refine jj_iload dX7_rotate_59 rfl ?_
      refine jj_bipush (v := 12) dX7_rotate_61 (by decide) ?_
      refine jj_icmp_ge (tgt := 111) dX7_rotate_63 (by decide) (fun zz => absurd zz (jb_ge hk (by decide))) (fun _ => ?_)
      refine jj_iload_n dX7_rotate_66 rfl ?_
      refine jj_aload_n dX7_rotate_67 rfl ?_
      refine jj_getf dX7_rotate_68 fl7_41 rfl rfl ?_
      refine jj_iload dX7_rotate_71 rfl ?_
      refine jv_iald dX7_rotate_73 rfl (hk) (by decide) ?_
      refine jj_aload_n dX7_rotate_74 rfl ?_
      refine jj_getf dX7_rotate_75 fl7_20 rfl rfl ?_
      refine jj_iload dX7_rotate_78 rfl ?_
      refine jv_iald dX7_rotate_80 rfl (hk) (by decide) ?_
      refine jj_eq (st' := [.int (mo_kind s k), .int (r k), .int (nI (jr_c r (mo_kind s) k))]) rfl rfl (by rw [← hki]; rfl) rfl ?_
      refine jj_icmp_ne (tgt := 88) dX7_rotate_81 (by decide) (fun c81 => ?_) (fun c81 => ?_)
      · refine jj_iconst (v := 1) dX7_rotate_88 (by decide) ?_
        first
        | (rw [if_neg c81] at ih; refine jj_iadd (v := nI (jr_c r (mo_kind s) k + 1)) dX7_rotate_89 (nI_add _ 1) ?_; refine jj_istore_n dX7_rotate_90 rfl (by decide) rfl ?_; refine jj_aload_n dX7_rotate_91 rfl ?_; refine jj_getf dX7_rotate_92 fl7_20 rfl rfl ?_; refine jj_iload dX7_rotate_95 rfl ?_; refine jj_aload_n dX7_rotate_97 rfl ?_; refine jj_getf dX7_rotate_98 fl7_41 rfl rfl ?_; refine jj_iload dX7_rotate_101 rfl ?_; refine jv_iald dX7_rotate_103 rfl (hk) (by decide) ?_; refine jv_iast dX7_rotate_104 rfl (hk) (by decide) rfl ?_; refine jj_iinc dX7_rotate_105 rfl (jb_i k) (by decide) rfl ?_; refine jj_goto (tgt := 59) dX7_rotate_108 (by decide) ?_; exact jj_eq rfl rfl rfl (by rw [← jF_s' (f := r) rfl]; rfl) ih)
        | (rw [if_pos (Decidable.not_not.mp c81)] at ih; refine jj_iadd (v := nI (jr_c r (mo_kind s) k + 0)) dX7_rotate_89 (nI_add _ 0) ?_; refine jj_istore_n dX7_rotate_90 rfl (by decide) rfl ?_; refine jj_aload_n dX7_rotate_91 rfl ?_; refine jj_getf dX7_rotate_92 fl7_20 rfl rfl ?_; refine jj_iload dX7_rotate_95 rfl ?_; refine jj_aload_n dX7_rotate_97 rfl ?_; refine jj_getf dX7_rotate_98 fl7_41 rfl rfl ?_; refine jj_iload dX7_rotate_101 rfl ?_; refine jv_iald dX7_rotate_103 rfl (hk) (by decide) ?_; refine jv_iast dX7_rotate_104 rfl (hk) (by decide) rfl ?_; refine jj_iinc dX7_rotate_105 rfl (jb_i k) (by decide) rfl ?_; refine jj_goto (tgt := 59) dX7_rotate_108 (by decide) ?_; exact jj_eq rfl rfl rfl (by rw [← jF_s' (f := r) rfl]; rfl) ih)
        | (rw [if_pos c81] at ih; refine jj_iadd (v := nI (jr_c r (mo_kind s) k + 0)) dX7_rotate_89 (nI_add _ 0) ?_; refine jj_istore_n dX7_rotate_90 rfl (by decide) rfl ?_; refine jj_aload_n dX7_rotate_91 rfl ?_; refine jj_getf dX7_rotate_92 fl7_20 rfl rfl ?_; refine jj_iload dX7_rotate_95 rfl ?_; refine jj_aload_n dX7_rotate_97 rfl ?_; refine jj_getf dX7_rotate_98 fl7_41 rfl rfl ?_; refine jj_iload dX7_rotate_101 rfl ?_; refine jv_iald dX7_rotate_103 rfl (hk) (by decide) ?_; refine jv_iast dX7_rotate_104 rfl (hk) (by decide) rfl ?_; refine jj_iinc dX7_rotate_105 rfl (jb_i k) (by decide) rfl ?_; refine jj_goto (tgt := 59) dX7_rotate_108 (by decide) ?_; exact jj_eq rfl rfl rfl (by rw [← jF_s' (f := r) rfl]; rfl) ih)
      · refine jj_iconst (v := 0) dX7_rotate_84 (by decide) ?_
        refine jj_goto (tgt := 89) dX7_rotate_85 (by decide) ?_
        first
        | (rw [if_neg c81] at ih; refine jj_iadd (v := nI (jr_c r (mo_kind s) k + 1)) dX7_rotate_89 (nI_add _ 1) ?_; refine jj_istore_n dX7_rotate_90 rfl (by decide) rfl ?_; refine jj_aload_n dX7_rotate_91 rfl ?_; refine jj_getf dX7_rotate_92 fl7_20 rfl rfl ?_; refine jj_iload dX7_rotate_95 rfl ?_; refine jj_aload_n dX7_rotate_97 rfl ?_; refine jj_getf dX7_rotate_98 fl7_41 rfl rfl ?_; refine jj_iload dX7_rotate_101 rfl ?_; refine jv_iald dX7_rotate_103 rfl (hk) (by decide) ?_; refine jv_iast dX7_rotate_104 rfl (hk) (by decide) rfl ?_; refine jj_iinc dX7_rotate_105 rfl (jb_i k) (by decide) rfl ?_; refine jj_goto (tgt := 59) dX7_rotate_108 (by decide) ?_; exact jj_eq rfl rfl rfl (by rw [← jF_s' (f := r) rfl]; rfl) ih)
        | (rw [if_pos (Decidable.not_not.mp c81)] at ih; refine jj_iadd (v := nI (jr_c r (mo_kind s) k + 0)) dX7_rotate_89 (nI_add _ 0) ?_; refine jj_istore_n dX7_rotate_90 rfl (by decide) rfl ?_; refine jj_aload_n dX7_rotate_91 rfl ?_; refine jj_getf dX7_rotate_92 fl7_20 rfl rfl ?_; refine jj_iload dX7_rotate_95 rfl ?_; refine jj_aload_n dX7_rotate_97 rfl ?_; refine jj_getf dX7_rotate_98 fl7_41 rfl rfl ?_; refine jj_iload dX7_rotate_101 rfl ?_; refine jv_iald dX7_rotate_103 rfl (hk) (by decide) ?_; refine jv_iast dX7_rotate_104 rfl (hk) (by decide) rfl ?_; refine jj_iinc dX7_rotate_105 rfl (jb_i k) (by decide) rfl ?_; refine jj_goto (tgt := 59) dX7_rotate_108 (by decide) ?_; exact jj_eq rfl rfl rfl (by rw [← jF_s' (f := r) rfl]; rfl) ih)
        | (rw [if_pos c81] at ih; refine jj_iadd (v := nI (jr_c r (mo_kind s) k + 0)) dX7_rotate_89 (nI_add _ 0) ?_; refine jj_istore_n dX7_rotate_90 rfl (by decide) rfl ?_; refine jj_aload_n dX7_rotate_91 rfl ?_; refine jj_getf dX7_rotate_92 fl7_20 rfl rfl ?_; refine jj_iload dX7_rotate_95 rfl ?_; refine jj_aload_n dX7_rotate_97 rfl ?_; refine jj_getf dX7_rotate_98 fl7_41 rfl rfl ?_; refine jj_iload dX7_rotate_101 rfl ?_; refine jv_iald dX7_rotate_103 rfl (hk) (by decide) ?_; refine jv_iast dX7_rotate_104 rfl (hk) (by decide) rfl ?_; refine jj_iinc dX7_rotate_105 rfl (jb_i k) (by decide) rfl ?_; refine jj_goto (tgt := 59) dX7_rotate_108 (by decide) ?_; exact jj_eq rfl rfl rfl (by rw [← jF_s' (f := r) rfl]; rfl) ih)
    · refine jj_iload dX7_rotate_59 rfl ?_
      refine jj_bipush (v := 12) dX7_rotate_61 (by decide) ?_
      refine jj_icmp_ge (tgt := 111) dX7_rotate_63 (by decide) (fun _ => ?_) (fun zz => absurd (jb_ge' (n := 12) (by decide)) zz)
      refine jj_iload_n dX7_rotate_111 rfl ?_
      exact jj_leaf dX7_rotate_112 rfl rfl
  have L : ∀ k, k ≤ 12 → jj_Go G m7_rotate 2 25 [some (.ref 28), some (.int (nI a)), some (.int (nI t)), some (.int (nI k)), none] [] (jj_m (mo_rowS s2 (jr_r (j7_g (5 * a + t)) (mo_kind s) (mo_row s) k))) 0 0 (some (.int (nI (jr_c r (mo_kind s) 12)))) (jj_m (mo_kindS (mo_rowS s2 r) (jF r (mo_kind s) 12))) := by
    refine jj_up 12 (fun k hk ih => ?_) ?_
    · rw [jr_r] at ih
      refine jj_iload_n dX7_rotate_25 rfl ?_
      refine jj_bipush (v := 12) dX7_rotate_26 (by decide) ?_
      refine jj_icmp_ge (tgt := 54) dX7_rotate_28 (by decide) (fun zz => absurd zz (jb_ge hk (by decide))) (fun _ => ?_)
      refine jj_aload_n dX7_rotate_31 rfl ?_
      refine jj_getf dX7_rotate_32 fl7_41 rfl rfl ?_
      refine jj_aload_n dX7_rotate_35 rfl ?_
      refine jj_getf dX7_rotate_36 fl7_35 rfl rfl ?_
      refine jj_iload_n dX7_rotate_39 rfl ?_
      refine jv_iald dX7_rotate_40 rfl (hk) (by decide) ?_
      rw [show mo_to (mo_rowS s2 (jr_r (j7_g (5 * a + t)) (mo_kind s) (mo_row s) k)) k = _ from hto k hk]
      refine jj_aload_n dX7_rotate_41 rfl ?_
      refine jj_getf dX7_rotate_42 fl7_20 rfl rfl ?_
      refine jj_iload_n dX7_rotate_45 rfl ?_
      refine jv_iald dX7_rotate_46 rfl (hk) (by decide) ?_
      rw [show mo_kind (mo_rowS s2 (jr_r (j7_g (5 * a + t)) (mo_kind s) (mo_row s) k)) = mo_kind s from hkd]
      refine jv_iast dX7_rotate_47 rfl (hgl k hk) (by decide) rfl ?_
      refine jj_iinc dX7_rotate_48 rfl (jb_i k) (by decide) rfl ?_
      refine jj_goto (tgt := 25) dX7_rotate_51 (by decide) ?_
      exact ih
    · refine jj_iload_n dX7_rotate_25 rfl ?_
      refine jj_bipush (v := 12) dX7_rotate_26 (by decide) ?_
      refine jj_icmp_ge (tgt := 54) dX7_rotate_28 (by decide) (fun _ => ?_) (fun zz => absurd (jb_ge' (n := 12) (by decide)) zz)
      refine jj_iconst (v := 0) dX7_rotate_54 (by decide) ?_
      refine jj_istore_n dX7_rotate_55 rfl (by decide) rfl ?_
      refine jj_iconst (v := 0) dX7_rotate_56 (by decide) ?_
      refine jj_istore dX7_rotate_57 (by decide) rfl ?_
      exact jj_eq rfl rfl rfl (by rw [hre, jF_0, hz]) (L2 0 (by decide))
  refine jj_iload_n dX7_rotate_0 rfl ?_
  refine jj_callS (M2 := m7_isField) dX7_rotate_1 ml7_169 tm7_isField (ev7_isField_v ha) rfl rfl (by omega) (Nat.le_of_ble_eq_true rfl) ?_
  refine jj_if_eq (tgt := 14) dX7_rotate_4 (by decide) (fun zz => absurd zz (by decide)) (fun _ => ?_)
  refine jj_iload_n dX7_rotate_7 rfl ?_
  refine jj_callS (M2 := m7_isSide) dX7_rotate_8 ml7_172 tm7_isSide (ev7_isSide_v ht) rfl rfl (by omega) (Nat.le_of_ble_eq_true rfl) ?_
  refine jj_if_ne (tgt := 17) dX7_rotate_11 (by decide) (fun _ => ?_) (fun zz => absurd zz (by decide))
  refine jj_aload_n dX7_rotate_17 rfl ?_
  refine jj_iload_n dX7_rotate_18 rfl ?_
  refine jj_iload_n dX7_rotate_19 rfl ?_
  refine jj_callV (M2 := m7_layTurning) dX7_rotate_20 ml7_181 tm7_layTurning (hla) rfl rfl rfl rfl rfl (by omega) (Nat.le_of_ble_eq_true rfl) ?_
  refine jj_iconst (v := 0) dX7_rotate_23 (by decide) ?_
  refine jj_istore_n dX7_rotate_24 rfl (by decide) rfl ?_
  exact jj_eq rfl rfl rfl hz0 (L 0 (by decide))
