/-! THE MODEL: turnings as a table; what a turning leaves; unlike ones -/
def jg_tab : List (List Nat) := [[0, 1, 2, 3, 4, 5, 6, 7, 8, 9, 10, 11], [0, 2, 3, 4, 5, 1, 7, 8, 9, 10, 6, 11], [0, 3, 4, 5, 1, 2, 8, 9, 10, 6, 7, 11], [0, 4, 5, 1, 2, 3, 9, 10, 6, 7, 8, 11], [0, 5, 1, 2, 3, 4, 10, 6, 7, 8, 9, 11], [1, 0, 5, 10, 6, 2, 4, 9, 11, 7, 3, 8], [1, 5, 10, 6, 2, 0, 9, 11, 7, 3, 4, 8], [1, 10, 6, 2, 0, 5, 11, 7, 3, 4, 9, 8], [1, 6, 2, 0, 5, 10, 7, 3, 4, 9, 11, 8], [1, 2, 0, 5, 10, 6, 3, 4, 9, 11, 7, 8], [2, 0, 1, 6, 7, 3, 5, 10, 11, 8, 4, 9], [2, 1, 6, 7, 3, 0, 10, 11, 8, 4, 5, 9], [2, 6, 7, 3, 0, 1, 11, 8, 4, 5, 10, 9], [2, 7, 3, 0, 1, 6, 8, 4, 5, 10, 11, 9], [2, 3, 0, 1, 6, 7, 4, 5, 10, 11, 8, 9], [3, 0, 2, 7, 8, 4, 1, 6, 11, 9, 5, 10], [3, 2, 7, 8, 4, 0, 6, 11, 9, 5, 1, 10], [3, 7, 8, 4, 0, 2, 11, 9, 5, 1, 6, 10], [3, 8, 4, 0, 2, 7, 9, 5, 1, 6, 11, 10], [3, 4, 0, 2, 7, 8, 5, 1, 6, 11, 9, 10], [4, 0, 3, 8, 9, 5, 2, 7, 11, 10, 1, 6], [4, 3, 8, 9, 5, 0, 7, 11, 10, 1, 2, 6], [4, 8, 9, 5, 0, 3, 11, 10, 1, 2, 7, 6], [4, 9, 5, 0, 3, 8, 10, 1, 2, 7, 11, 6], [4, 5, 0, 3, 8, 9, 1, 2, 7, 11, 10, 6], [5, 0, 4, 9, 10, 1, 3, 8, 11, 6, 2, 7], [5, 4, 9, 10, 1, 0, 8, 11, 6, 2, 3, 7], [5, 9, 10, 1, 0, 4, 11, 6, 2, 3, 8, 7], [5, 10, 1, 0, 4, 9, 6, 2, 3, 8, 11, 7], [5, 1, 0, 4, 9, 10, 2, 3, 8, 11, 6, 7], [6, 1, 10, 11, 7, 2, 5, 9, 8, 3, 0, 4], [6, 10, 11, 7, 2, 1, 9, 8, 3, 0, 5, 4], [6, 11, 7, 2, 1, 10, 8, 3, 0, 5, 9, 4], [6, 7, 2, 1, 10, 11, 3, 0, 5, 9, 8, 4], [6, 2, 1, 10, 11, 7, 0, 5, 9, 8, 3, 4], [7, 2, 6, 11, 8, 3, 1, 10, 9, 4, 0, 5], [7, 6, 11, 8, 3, 2, 10, 9, 4, 0, 1, 5], [7, 11, 8, 3, 2, 6, 9, 4, 0, 1, 10, 5], [7, 8, 3, 2, 6, 11, 4, 0, 1, 10, 9, 5], [7, 3, 2, 6, 11, 8, 0, 1, 10, 9, 4, 5], [8, 3, 7, 11, 9, 4, 2, 6, 10, 5, 0, 1], [8, 7, 11, 9, 4, 3, 6, 10, 5, 0, 2, 1], [8, 11, 9, 4, 3, 7, 10, 5, 0, 2, 6, 1], [8, 9, 4, 3, 7, 11, 5, 0, 2, 6, 10, 1], [8, 4, 3, 7, 11, 9, 0, 2, 6, 10, 5, 1], [9, 4, 8, 11, 10, 5, 3, 7, 6, 1, 0, 2], [9, 8, 11, 10, 5, 4, 7, 6, 1, 0, 3, 2], [9, 11, 10, 5, 4, 8, 6, 1, 0, 3, 7, 2], [9, 10, 5, 4, 8, 11, 1, 0, 3, 7, 6, 2], [9, 5, 4, 8, 11, 10, 0, 3, 7, 6, 1, 2], [10, 5, 9, 11, 6, 1, 4, 8, 7, 2, 0, 3], [10, 9, 11, 6, 1, 5, 8, 7, 2, 0, 4, 3], [10, 11, 6, 1, 5, 9, 7, 2, 0, 4, 8, 3], [10, 6, 1, 5, 9, 11, 2, 0, 4, 8, 7, 3], [10, 1, 5, 9, 11, 6, 0, 4, 8, 7, 2, 3], [11, 10, 9, 8, 7, 6, 5, 4, 3, 2, 1, 0], [11, 9, 8, 7, 6, 10, 4, 3, 2, 1, 5, 0], [11, 8, 7, 6, 10, 9, 3, 2, 1, 5, 4, 0], [11, 7, 6, 10, 9, 8, 2, 1, 5, 4, 3, 0], [11, 6, 10, 9, 8, 7, 1, 5, 4, 3, 2, 0]]
def jg (n f : Nat) : Nat := (jg_tab.getD n []).getD f 12
theorem jg_e1 : ∀ n, n < 60 → (jz_r (n / 5) (n % 5)).1 = jg_tab.getD n [] := by decide +kernel
theorem jg_e {n : Nat} (hn : n < 60) : j7_g n = jg n := by
  funext f
  unfold j7_g jg
  rw [jg_e1 n hn]
def j4_mt (g : Nat → Nat) : Nat → Nat
  | 0 => 0
  | k + 1 => if (j4_mt g k).testBit k = true then j4_mt g k else j4_mt g k ||| (j4_rg g k 12).1
theorem j4_mt_e (g : Nat → Nat) (c : Int64) : ∀ k, (j4_fx g c k).2 = j4_mt g k := by
  intro k
  induction k with
  | zero => rfl
  | succ k ih =>
    rw [j4_fx, j4_mt, ← ih]
    split <;> rfl
def j7_rs (g : Nat → Nat) (q : Nat × Nat) : Nat × Nat := if q.1.testBit q.2 = true then q else (q.1 ||| 2 ^ q.2, g q.2)
theorem jg_rg : ∀ n, n < 60 → ∀ k, k < 12 → (j4_mt (jg n) k).testBit k = false → (jy_it (j7_rs (jg n)) (j4_mt (jg n) k, k) 12).1 = j4_mt (jg n) k ||| (j4_rg (jg n) k 12).1 ∧ (jy_it (j7_rs (jg n)) (j4_mt (jg n) k, k) 12).1.testBit (jy_it (j7_rs (jg n)) (j4_mt (jg n) k, k) 12).2 = true := by decide +kernel
theorem jv18 {x : Int32} : (1 ≤ x ∧ x ≤ 8) → ∃ k, k < 9 ∧ 1 ≤ k ∧ x = nI k := by
  intro h
  have h1 := Int32.le_iff_toInt_le.mp h.1
  have h2 := Int32.le_iff_toInt_le.mp h.2
  have e1 : (1 : Int32).toInt = 1 := rfl
  have e8 : (8 : Int32).toInt = 8 := rfl
  rw [e1] at h1
  rw [e8] at h2
  refine ⟨x.toInt.toNat, by omega, by omega, ?_⟩
  apply Int32.toInt_inj.mp
  rw [nI_toInt (by omega)]
  omega
set_option maxRecDepth 100000 in
set_option maxHeartbeats 1000000 in
theorem ev7_fixedOf {G : jj_G} {s : jj_S} {a t : Nat} (c : Int32) (hb : mb_ok s) (ha : a < 12) (ht : t < 5) : jj_Ev G m7_fixedOf 2 [.ref 28, .int (nI a), .int (nI t), .int c] (jj_m s) 0 0 (some (.long (j4_fx (j7_g (5 * a + t)) c.toInt64 12).1)) (jj_m (j7_la s a t)) := by
  refine jj_Ev_of (lo := [some (.ref 28), some (.int (nI a)), some (.int (nI t)), some (.int c), none, none, none, none, none]) (by decide +kernel) (Nat.le_of_ble_eq_true rfl) rfl (by trivial) ?_
  have hg1 : ∀ f, f < 12 → j7_g (5 * a + t) f < 12 := fun f hf => j7_g_lt (by omega) hf
  have hto : ∀ f, f < 12 → mo_to (j7_la s a t) f = nI (j7_g (5 * a + t) f) := fun f hf => j7_la_to s ha ht hf
  have hla := ev7_layTurning (G := G) hb ha ht
  have hrg := jg_rg (5 * a + t) (by omega)
  rw [jg_e (n := 5 * a + t) (by omega)] at hg1 hto ⊢
  generalize jg (5 * a + t) = g at hg1 hto hrg ⊢
  generalize j7_la s a t = s2 at hto hla ⊢
  have hml := j4_fx_lt (g := g) c.toInt64 hg1
  have L1 : ∀ k, k < 12 → ∀ (V : Int64) m q M, q.1 < 4096 → q.2 < 12 → (jy_it (j7_rs g) q m).1 = M → (jy_it (j7_rs g) q m).1.testBit (jy_it (j7_rs g) q m).2 = true → jj_Go G m7_fixedOf 2 74 [some (.ref 28), some (.int (nI a)), some (.int (nI t)), some (.int c), some (.long V), none, some (.int (nI M)), some (.int (nI k)), none] [] (jj_m s2) 0 0 (some (.long (j4_fx g c.toInt64 12).1)) (jj_m s2) → jj_Go G m7_fixedOf 2 43 [some (.ref 28), some (.int (nI a)), some (.int (nI t)), some (.int c), some (.long V), none, some (.int (nI q.1)), some (.int (nI k)), some (.int (nI q.2))] [] (jj_m s2) 0 0 (some (.long (j4_fx g c.toInt64 12).1)) (jj_m s2) := by
    intro k hk V m
    induction m with
    | zero =>
      intro q M h1 h2 e1 e2 K
      replace e1 : q.1 = M := e1
      replace e2 : q.1.testBit q.2 = true := e2
      refine jj_iload dX7_fixedOf_43 rfl ?_
      refine jj_iload dX7_fixedOf_45 rfl ?_
      refine jj_callS (M2 := m7_has) dX7_fixedOf_47 ml7_175 tm7_has (ev7_has (a := q.1) (by omega) h2) rfl rfl (by omega) (Nat.le_of_ble_eq_true rfl) ?_
      refine jj_if_ne (tgt := 74) dX7_fixedOf_50 (by decide) (fun _ => ?_) (fun zz => absurd zz (by rw [jb_bt e2]; decide))
      exact jj_keep [true, true, true, true, true, true, true, true, false] (by rw [← e1] at K; exact K)
    | succ m ihm =>
      intro q M h1 h2 e1 e2 K
      rw [jy_it1] at e1 e2
      by_cases z : q.1.testBit q.2 = true
      · have ez : j7_rs g q = q := if_pos z
        rw [ez] at e1 e2
        exact ihm q M h1 h2 e1 e2 K
      · have ez : j7_rs g q = (q.1 ||| 2 ^ q.2, g q.2) := if_neg z
        rw [ez] at e1 e2
        have ih := ihm (q.1 ||| 2 ^ q.2, g q.2) M (Nat.or_lt_two_pow (n := 12) h1 (Nat.pow_lt_pow_right (by decide) h2)) (hg1 _ h2) e1 e2 K
        have et := hto _ h2
        refine jj_iload dX7_fixedOf_43 rfl ?_
        refine jj_iload dX7_fixedOf_45 rfl ?_
        refine jj_callS (M2 := m7_has) dX7_fixedOf_47 ml7_175 tm7_has (ev7_has (a := q.1) (by omega) h2) rfl rfl (by omega) (Nat.le_of_ble_eq_true rfl) ?_
        refine jj_if_ne (tgt := 74) dX7_fixedOf_50 (by decide) (fun zz => absurd (jb_bf z) zz) (fun _ => ?_)
        refine jj_iload dX7_fixedOf_53 rfl ?_
        refine jj_iconst (v := 1) dX7_fixedOf_55 (by decide) ?_
        refine jj_iload dX7_fixedOf_56 rfl ?_
        refine jj_ishl dX7_fixedOf_58 (jb_2k _ (by omega)) ?_
        refine jj_ior dX7_fixedOf_59 (fa_or _ _) ?_
        refine jj_istore dX7_fixedOf_60 (by decide) rfl ?_
        refine jj_aload_n dX7_fixedOf_62 rfl ?_
        refine jj_getf dX7_fixedOf_63 fl7_35 rfl rfl ?_
        refine jj_iload dX7_fixedOf_66 rfl ?_
        refine jv_iald dX7_fixedOf_68 rfl (h2) (by decide) ?_
        rw [et]
        refine jj_istore dX7_fixedOf_69 (by decide) rfl ?_
        refine jj_goto (tgt := 43) dX7_fixedOf_71 (by decide) ?_
        exact ih
  have L : ∀ k, k ≤ 12 → jj_Go G m7_fixedOf 2 15 [some (.ref 28), some (.int (nI a)), some (.int (nI t)), some (.int c), some (.long (j4_fx g c.toInt64 k).1), none, some (.int (nI (j4_fx g c.toInt64 k).2)), some (.int (nI k)), none] [] (jj_m s2) 0 0 (some (.long (j4_fx g c.toInt64 12).1)) (jj_m s2) := by
    refine jj_up 12 (fun k hk ih => ?_) ?_
    · have hm0 := hml k (by omega)
      have hme := j4_mt_e g c.toInt64 k
      have hrk := hrg k hk
      rw [← hme] at hrk
      rw [j4_fx] at ih
      refine jj_iload dX7_fixedOf_15 rfl ?_
      refine jj_bipush (v := 12) dX7_fixedOf_17 (by decide) ?_
      refine jj_icmp_ge (tgt := 80) dX7_fixedOf_19 (by decide) (fun zz => absurd zz (jb_ge hk (by decide))) (fun _ => ?_)
      refine jj_iload dX7_fixedOf_22 rfl ?_
      refine jj_iload dX7_fixedOf_24 rfl ?_
      refine jj_callS (M2 := m7_has) dX7_fixedOf_26 ml7_175 tm7_has (ev7_has (a := (j4_fx g c.toInt64 k).2) (by omega) hk) rfl rfl (by omega) (Nat.le_of_ble_eq_true rfl) ?_
      refine jj_if_ne (tgt := 74) dX7_fixedOf_29 (by decide) (fun c29 => ?_) (fun c29 => ?_)
      · rw [if_pos (jb_b1 c29)] at ih
        refine jj_iinc dX7_fixedOf_74 rfl (jb_i k) (by decide) rfl ?_
        refine jj_goto (tgt := 15) dX7_fixedOf_77 (by decide) ?_
        exact ih
      · refine jj_lload dX7_fixedOf_32 rfl ?_
        refine jj_iload_n dX7_fixedOf_34 rfl ?_
        refine jj_i2l dX7_fixedOf_35 rfl ?_
        refine jj_lmul dX7_fixedOf_36 rfl ?_
        refine jj_lstore dX7_fixedOf_37 (by decide) rfl ?_
        refine jj_iload dX7_fixedOf_39 rfl ?_
        refine jj_istore dX7_fixedOf_41 (by decide) rfl ?_
        have z := jb_b0 c29
        rw [if_neg z] at ih
        obtain ⟨q1, q2⟩ := hrk (by simpa using z)
        refine L1 k hk _ 12 ((j4_fx g c.toInt64 k).2, k) _ hm0 hk q1 q2 ?_
        refine jj_iinc dX7_fixedOf_74 rfl (jb_i k) (by decide) rfl ?_
        refine jj_goto (tgt := 15) dX7_fixedOf_77 (by decide) ?_
        exact ih
    · refine jj_iload dX7_fixedOf_15 rfl ?_
      refine jj_bipush (v := 12) dX7_fixedOf_17 (by decide) ?_
      refine jj_icmp_ge (tgt := 80) dX7_fixedOf_19 (by decide) (fun _ => ?_) (fun zz => absurd (jb_ge' (n := 12) (by decide)) zz)
      refine jj_lload dX7_fixedOf_80 rfl ?_
      exact jj_leaf dX7_fixedOf_82 rfl rfl
  refine jj_aload_n dX7_fixedOf_0 rfl ?_
  refine jj_iload_n dX7_fixedOf_1 rfl ?_
  refine jj_iload_n dX7_fixedOf_2 rfl ?_
  refine jj_callV (M2 := m7_layTurning) dX7_fixedOf_3 ml7_181 tm7_layTurning (hla) rfl rfl rfl rfl rfl (by omega) (Nat.le_of_ble_eq_true rfl) ?_
  refine jj_lconst (v := 1) dX7_fixedOf_6 (by decide) ?_
  refine jj_lstore dX7_fixedOf_7 (by decide) rfl ?_
  refine jj_iconst (v := 0) dX7_fixedOf_9 (by decide) ?_
  refine jj_istore dX7_fixedOf_10 (by decide) rfl ?_
  refine jj_iconst (v := 0) dX7_fixedOf_12 (by decide) ?_
  refine jj_istore dX7_fixedOf_13 (by decide) rfl ?_
  exact L 0 (by decide)
set_option maxRecDepth 100000 in
set_option maxHeartbeats 1000000 in
theorem ev7_fixed_b {G : jj_G} {s : jj_S} {x y z : Int32} (h : ¬ (vF x ∧ vS y)) : jj_Ev G m7_fixed 3 [.ref 28, .int x, .int y, .int z] (jj_m s) 0 0 (some (.long (-2))) (jj_m s) := by
  refine jj_Ev_of (lo := [some (.ref 28), some (.int x), some (.int y), some (.int z)]) (by decide +kernel) (Nat.le_of_ble_eq_true rfl) rfl (by trivial) ?_
  by_cases hx : vF x
  · have hy : ¬ vS y := fun hy => h ⟨hx, hy⟩
    refine jj_iload_n dX7_fixed_0 rfl ?_
    refine jj_callS (M2 := m7_isField) dX7_fixed_1 ml7_169 tm7_isField (ev7_isField x) rfl rfl (by omega) (Nat.le_of_ble_eq_true rfl) ?_
    refine jj_if_eq (tgt := 14) dX7_fixed_4 (by decide) (fun zz => absurd zz (by rw [jb_bt hx]; decide)) (fun _ => ?_)
    refine jj_iload_n dX7_fixed_7 rfl ?_
    refine jj_callS (M2 := m7_isSide) dX7_fixed_8 ml7_172 tm7_isSide (ev7_isSide y) rfl rfl (by omega) (Nat.le_of_ble_eq_true rfl) ?_
    refine jj_if_ne (tgt := 18) dX7_fixed_11 (by decide) (fun zz => absurd (jb_bf hy) zz) (fun _ => ?_)
    refine jj_ldc2 dX7_fixed_14 kc7_87 ?_
    exact jj_leaf dX7_fixed_17 rfl rfl
  · skip
    refine jj_iload_n dX7_fixed_0 rfl ?_
    refine jj_callS (M2 := m7_isField) dX7_fixed_1 ml7_169 tm7_isField (ev7_isField x) rfl rfl (by omega) (Nat.le_of_ble_eq_true rfl) ?_
    refine jj_if_eq (tgt := 14) dX7_fixed_4 (by decide) (fun _ => ?_) (fun zz => absurd (jb_bf hx) zz)
    refine jj_ldc2 dX7_fixed_14 kc7_87 ?_
    exact jj_leaf dX7_fixed_17 rfl rfl
set_option maxRecDepth 100000 in
set_option maxHeartbeats 1000000 in
theorem ev7_fixed_c {G : jj_G} {s : jj_S} {a t : Nat} {z : Int32} (ha : a < 12) (ht : t < 5) (hz : ¬ (1 ≤ z ∧ z ≤ 8)) : jj_Ev G m7_fixed 3 [.ref 28, .int (nI a), .int (nI t), .int z] (jj_m s) 0 0 (some (.long (-3))) (jj_m s) := by
  refine jj_Ev_of (lo := [some (.ref 28), some (.int (nI a)), some (.int (nI t)), some (.int z)]) (by decide +kernel) (Nat.le_of_ble_eq_true rfl) rfl (by trivial) ?_
  refine jj_iload_n dX7_fixed_0 rfl ?_
  refine jj_callS (M2 := m7_isField) dX7_fixed_1 ml7_169 tm7_isField (ev7_isField_v ha) rfl rfl (by omega) (Nat.le_of_ble_eq_true rfl) ?_
  refine jj_if_eq (tgt := 14) dX7_fixed_4 (by decide) (fun zz => absurd zz (by decide)) (fun _ => ?_)
  refine jj_iload_n dX7_fixed_7 rfl ?_
  refine jj_callS (M2 := m7_isSide) dX7_fixed_8 ml7_172 tm7_isSide (ev7_isSide_v ht) rfl rfl (by omega) (Nat.le_of_ble_eq_true rfl) ?_
  refine jj_if_ne (tgt := 18) dX7_fixed_11 (by decide) (fun _ => ?_) (fun zz => absurd zz (by decide))
  refine jj_iload_n dX7_fixed_18 rfl ?_
  refine jj_iconst (v := 1) dX7_fixed_19 (by decide) ?_
  refine jj_bipush (v := 8) dX7_fixed_20 (by decide) ?_
  refine jj_callS (M2 := m7_in) dX7_fixed_22 ml7_65 tm7_in (ev7_in z 1 8) rfl rfl (by omega) (Nat.le_of_ble_eq_true rfl) ?_
  refine jj_if_eq (tgt := 38) dX7_fixed_25 (by decide) (fun _ => ?_) (fun zz => absurd (jb_bf hz) zz)
  refine jj_ldc2 dX7_fixed_38 kc7_101 ?_
  exact jj_leaf dX7_fixed_41 rfl rfl
set_option maxRecDepth 100000 in
set_option maxHeartbeats 1000000 in
theorem ev7_fixed {G : jj_G} {s : jj_S} {a t : Nat} {z : Int32} (hb : mb_ok s) (ha : a < 12) (ht : t < 5) (hz : 1 ≤ z ∧ z ≤ 8) : jj_Ev G m7_fixed 3 [.ref 28, .int (nI a), .int (nI t), .int z] (jj_m s) 0 0 (some (.long (j4_fx (j7_g (5 * a + t)) z.toInt64 12).1)) (jj_m (j7_la s a t)) := by
  refine jj_Ev_of (lo := [some (.ref 28), some (.int (nI a)), some (.int (nI t)), some (.int z)]) (by decide +kernel) (Nat.le_of_ble_eq_true rfl) rfl (by trivial) ?_
  refine jj_iload_n dX7_fixed_0 rfl ?_
  refine jj_callS (M2 := m7_isField) dX7_fixed_1 ml7_169 tm7_isField (ev7_isField_v ha) rfl rfl (by omega) (Nat.le_of_ble_eq_true rfl) ?_
  refine jj_if_eq (tgt := 14) dX7_fixed_4 (by decide) (fun zz => absurd zz (by decide)) (fun _ => ?_)
  refine jj_iload_n dX7_fixed_7 rfl ?_
  refine jj_callS (M2 := m7_isSide) dX7_fixed_8 ml7_172 tm7_isSide (ev7_isSide_v ht) rfl rfl (by omega) (Nat.le_of_ble_eq_true rfl) ?_
  refine jj_if_ne (tgt := 18) dX7_fixed_11 (by decide) (fun _ => ?_) (fun zz => absurd zz (by decide))
  refine jj_iload_n dX7_fixed_18 rfl ?_
  refine jj_iconst (v := 1) dX7_fixed_19 (by decide) ?_
  refine jj_bipush (v := 8) dX7_fixed_20 (by decide) ?_
  refine jj_callS (M2 := m7_in) dX7_fixed_22 ml7_65 tm7_in (ev7_in z 1 8) rfl rfl (by omega) (Nat.le_of_ble_eq_true rfl) ?_
  refine jj_if_eq (tgt := 38) dX7_fixed_25 (by decide) (fun zz => absurd zz (by rw [jb_bt hz]; decide)) (fun _ => ?_)
  refine jj_aload_n dX7_fixed_28 rfl ?_
  refine jj_iload_n dX7_fixed_29 rfl ?_
  refine jj_iload_n dX7_fixed_30 rfl ?_
  refine jj_iload_n dX7_fixed_31 rfl ?_
  refine jj_callV (M2 := m7_fixedOf) dX7_fixed_32 ml7_194 tm7_fixedOf (ev7_fixedOf z hb ha ht) rfl rfl rfl rfl rfl (by omega) (Nat.le_of_ble_eq_true rfl) ?_
  refine jj_goto (tgt := 41) dX7_fixed_35 (by decide) ?_
  exact jj_leaf dX7_fixed_41 rfl rfl
set_option maxRecDepth 100000 in
set_option maxHeartbeats 1000000 in
theorem ev7_unlike_b {G : jj_G} {s : jj_S} {c : Int32} (hz : ¬ (1 ≤ c ∧ c ≤ 8)) : jj_Ev G m7_unlike 3 [.ref 28, .int c] (jj_m s) 0 0 (some (.long (-3))) (jj_m s) := by
  refine jj_Ev_of (lo := [some (.ref 28), some (.int c), none, none, none]) (by decide +kernel) (Nat.le_of_ble_eq_true rfl) rfl (by trivial) ?_
  refine jj_iload_n dX7_unlike_0 rfl ?_
  refine jj_iconst (v := 1) dX7_unlike_1 (by decide) ?_
  refine jj_bipush (v := 8) dX7_unlike_2 (by decide) ?_
  refine jj_callS (M2 := m7_in) dX7_unlike_4 ml7_65 tm7_in (ev7_in c 1 8) rfl rfl (by omega) (Nat.le_of_ble_eq_true rfl) ?_
  refine jj_if_ne (tgt := 14) dX7_unlike_7 (by decide) (fun zz => absurd (jb_bf hz) zz) (fun _ => ?_)
  refine jj_ldc2 dX7_unlike_10 kc7_101 ?_
  exact jj_leaf dX7_unlike_13 rfl rfl
set_option maxRecDepth 100000 in
set_option maxHeartbeats 1000000 in
theorem ev7_unlike {G : jj_G} {s : jj_S} {c : Int32} (hb : mb_ok s) (hz : 1 ≤ c ∧ c ≤ 8) : jj_Ev G m7_unlike 3 [.ref 28, .int c] (jj_m s) 0 0 (some (.long (j4_un j7_g c.toInt64 60 / 60))) (jj_m (j7_lk s 60)) := by
  refine jj_Ev_of (lo := [some (.ref 28), some (.int c), none, none, none]) (by decide +kernel) (Nat.le_of_ble_eq_true rfl) rfl (by trivial) ?_
  have L : ∀ k, k ≤ 60 → jj_Go G m7_unlike 3 19 [some (.ref 28), some (.int c), some (.long (j4_un j7_g c.toInt64 k)), none, some (.int (nI k))] [] (jj_m (j7_lk s k)) 0 0 (some (.long (j4_un j7_g c.toInt64 60 / 60))) (jj_m (j7_lk s 60)) := by
    refine jj_up 60 (fun n hn ih => ?_) ?_
    · have hn1 : n / 5 < 12 := by omega
      have hn2 : n % 5 < 5 := by omega
      have hla := ev7_fixedOf (G := G) c (lk_ok hb n) hn1 hn2
      rw [← lk_s, j7_n60] at hla
      rw [j4_un] at ih
      refine jj_iload dX7_unlike_19 rfl ?_
      refine jj_bipush (v := 60) dX7_unlike_21 (by decide) ?_
      refine jj_icmp_ge (tgt := 48) dX7_unlike_23 (by decide) (fun zz => absurd zz (jb_ge hn (by decide))) (fun _ => ?_)
      refine jj_lload_n dX7_unlike_26 rfl ?_
      refine jj_aload_n dX7_unlike_27 rfl ?_
      refine jj_iload dX7_unlike_28 rfl ?_
      refine jj_iconst (v := nI 5) dX7_unlike_30 (by decide) ?_
      refine jj_idiv dX7_unlike_31 (by decide) (pk_div (a := n) (d := 5) (by omega) (by decide) (by decide)) ?_
      refine jj_iload dX7_unlike_32 rfl ?_
      refine jj_iconst (v := nI 5) dX7_unlike_34 (by decide) ?_
      refine jj_irem dX7_unlike_35 (by decide) (pk_rem (a := n) (d := 5) (by omega) (by decide) (by decide)) ?_
      refine jj_iload_n dX7_unlike_36 rfl ?_
      refine jj_callV (M2 := m7_fixedOf) dX7_unlike_37 ml7_194 tm7_fixedOf (hla) rfl rfl rfl rfl rfl (by omega) (Nat.le_of_ble_eq_true rfl) ?_
      refine jj_ladd dX7_unlike_40 rfl ?_
      refine jj_lstore_n dX7_unlike_41 rfl (by decide) rfl ?_
      refine jj_iinc dX7_unlike_42 rfl (jb_i n) (by decide) rfl ?_
      refine jj_goto (tgt := 19) dX7_unlike_45 (by decide) ?_
      exact ih
    · skip
      refine jj_iload dX7_unlike_19 rfl ?_
      refine jj_bipush (v := 60) dX7_unlike_21 (by decide) ?_
      refine jj_icmp_ge (tgt := 48) dX7_unlike_23 (by decide) (fun _ => ?_) (fun zz => absurd (jb_ge' (n := 60) (by decide)) zz)
      refine jj_lload_n dX7_unlike_48 rfl ?_
      refine jj_ldc2 dX7_unlike_49 kc7_198 ?_
      refine jj_ldiv dX7_unlike_52 (by decide) rfl ?_
      exact jj_leaf dX7_unlike_53 rfl rfl
  refine jj_iload_n dX7_unlike_0 rfl ?_
  refine jj_iconst (v := 1) dX7_unlike_1 (by decide) ?_
  refine jj_bipush (v := 8) dX7_unlike_2 (by decide) ?_
  refine jj_callS (M2 := m7_in) dX7_unlike_4 ml7_65 tm7_in (ev7_in c 1 8) rfl rfl (by omega) (Nat.le_of_ble_eq_true rfl) ?_
  refine jj_if_ne (tgt := 14) dX7_unlike_7 (by decide) (fun _ => ?_) (fun zz => absurd zz (by rw [jb_bt hz]; decide))
  refine jj_lconst (v := 0) dX7_unlike_14 (by decide) ?_
  refine jj_lstore_n dX7_unlike_15 rfl (by decide) rfl ?_
  refine jj_iconst (v := 0) dX7_unlike_16 (by decide) ?_
  refine jj_istore dX7_unlike_17 (by decide) rfl ?_
  exact L 0 (by decide)
