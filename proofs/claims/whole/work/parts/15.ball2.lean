/-! THE BALL: sides, neighbours, distances -/
/-- the first place from k on, of n, at which p holds (k + n: none) -/
def jb_fst (p : Nat → Bool) : Nat → Nat → Nat
  | k, 0 => k
  | k, n + 1 => if p k = true then k else jb_fst p (k + 1) n
theorem jb_fst_no {p : Nat → Bool} {k n : Nat} (h : p k = false) (hk : k < n) : jb_fst p k (n - k) = jb_fst p (k + 1) (n - (k + 1)) := by
  obtain ⟨j, rfl⟩ : ∃ j, n = k + j + 1 := ⟨n - k - 1, by omega⟩
  rw [show k + j + 1 - k = j + 1 by omega, show k + j + 1 - (k + 1) = j by omega, jb_fst, if_neg (by rw [h]; decide)]
theorem jb_fst_yes {p : Nat → Bool} {k n : Nat} (h : p k = true) (hk : k < n) : jb_fst p k (n - k) = k := by
  obtain ⟨j, rfl⟩ : ∃ j, n = k + j + 1 := ⟨n - k - 1, by omega⟩
  rw [show k + j + 1 - k = j + 1 by omega, jb_fst, if_pos h]
theorem jb_fst_end (p : Nat → Bool) (n : Nat) : jb_fst p n (n - n) = n := by rw [Nat.sub_self]; rfl
/-- a place or none -/
def jb_pl (n k : Nat) : Int32 := if k < n then nI k else -1
def jb_sdN (f o : Nat) : Nat := jb_fst (fun s => jb_s f s == o) 0 5
def jb_sd (f o : Nat) : Int32 := jb_pl 5 (jb_sdN f o)
def jb_alk (f : Nat) : Nat → Nat
  | 0 => 0
  | k + 1 => jb_alk f k ||| 2 ^ jb_s f k
def jb_al (f : Nat) : Nat := jb_alk f 5
def jb_wt (a : Nat) : Nat → Nat
  | 0 => a
  | k + 1 => if a.testBit k = true then jb_wt a k ||| jb_al k else jb_wt a k
def jb_rc (f : Nat) : Nat → Nat
  | 0 => 2 ^ f
  | k + 1 => jb_wt (jb_rc f k) 12
def jb_far (f o : Nat) : Nat := jb_fst (fun k => (jb_rc f k).testBit o) 0 12
def jb_op (f : Nat) : Nat := jb_fst (fun o => jb_far f o == 3) 0 12
theorem jb_al_lt : ∀ f, f < 12 → jb_al f < 4096 := by decide +kernel
theorem jb_far_lt : ∀ f, f < 12 → ∀ o, o < 12 → jb_far f o < 4 := by decide +kernel
theorem jb_op_lt : ∀ f, f < 12 → jb_op f < 12 := by decide +kernel
theorem jb_wt_lt {a : Nat} (ha : a < 4096) : ∀ k, k ≤ 12 → jb_wt a k < 4096 := by
  intro k
  induction k with
  | zero => intro _; exact ha
  | succ k ih =>
    intro hk
    have h1 := ih (by omega)
    unfold jb_wt
    split
    · exact Nat.or_lt_two_pow (n := 12) h1 (jb_al_lt k (by omega))
    · exact h1
theorem jb_rc_lt {f : Nat} (hf : f < 12) : ∀ k, jb_rc f k < 4096 := by
  intro k
  induction k with
  | zero => exact Nat.pow_lt_pow_right (by decide) hf
  | succ k ih => exact jb_wt_lt ih 12 (Nat.le_refl 12)
set_option maxRecDepth 100000 in
set_option maxHeartbeats 4000000 in
theorem ev0_sideTo {G : jj_G} {h : List jj_C} {f o : Nat} (hf : f < 12) (ho : o < 12) : jj_Ev G m0_sideTo 2 [.int (nI f), .int (nI o)] (h) 0 0 (some (.int (jb_sd f o))) (h) := by
  refine jj_Ev_of (lo := [some (.int (nI f)), some (.int (nI o)), none]) (by decide +kernel) (Nat.le_of_ble_eq_true rfl) rfl (by trivial) ?_
  have L : ∀ k, k ≤ 5 → jj_Go G m0_sideTo 2 2 [some (.int (nI f)), some (.int (nI o)), some (.int (nI k))] [] (h) 0 0 (some (.int (jb_pl 5 (jb_fst (fun s => jb_s f s == o) k (5 - k))))) (h) := by
    refine jj_up 5 (fun k hk ih => ?_) ?_
    · refine jj_iload_n dX0_sideTo_2 rfl ?_
      refine jj_iconst (v := 5) dX0_sideTo_3 (by decide) ?_
      refine jj_icmp_ge (tgt := 31) dX0_sideTo_4 (by decide) (fun zz => absurd zz (jb_ge hk (by decide))) (fun _ => ?_)
      refine jj_iload_n dX0_sideTo_7 rfl ?_
      refine jj_callS (M2 := m0_isField) dX0_sideTo_8 ml0_9 tm0_isField (ev0_isField_v ho) rfl rfl (by omega) (Nat.le_of_ble_eq_true rfl) ?_
      refine jj_if_eq (tgt := 25) dX0_sideTo_11 (by decide) (fun zz => absurd zz (by decide)) (fun _ => ?_)
      refine jj_iload_n dX0_sideTo_14 rfl ?_
      refine jj_iload_n dX0_sideTo_15 rfl ?_
      refine jj_callS (M2 := m0_across) dX0_sideTo_16 ml0_28 tm0_across (ev0_across hf hk) rfl rfl (by omega) (Nat.le_of_ble_eq_true rfl) ?_
      refine jj_iload_n dX0_sideTo_19 rfl ?_
      refine jj_icmp_ne (tgt := 25) dX0_sideTo_20 (by decide) (fun c20 => ?_) (fun c20 => ?_)
      · refine jj_iinc dX0_sideTo_25 rfl (jb_i k) (by decide) rfl ?_
        refine jj_goto (tgt := 2) dX0_sideTo_28 (by decide) ?_
        rw [jb_fst_no (by simpa using fun q => c20 (by rw [q])) hk]
        exact ih
      · refine jj_iload_n dX0_sideTo_23 rfl ?_
        exact jj_leaf dX0_sideTo_24 (by rw [jb_fst_yes (by simpa using (jb_inj (by have := jb_s_lt f hf k hk; omega) (by omega)).mp c20) hk, jb_pl, if_pos hk]; rfl) rfl
    · refine jj_iload_n dX0_sideTo_2 rfl ?_
      refine jj_iconst (v := 5) dX0_sideTo_3 (by decide) ?_
      refine jj_icmp_ge (tgt := 31) dX0_sideTo_4 (by decide) (fun _ => ?_) (fun zz => absurd (jb_ge' (n := 5) (by decide)) zz)
      refine jj_iconst (v := (-1)) dX0_sideTo_31 (by decide) ?_
      exact jj_leaf dX0_sideTo_32 (by rw [jb_fst_end, jb_pl, if_neg (by decide)]; rfl) rfl
  refine jj_iconst (v := 0) dX0_sideTo_0 (by decide) ?_
  refine jj_istore_n dX0_sideTo_1 rfl (by decide) rfl ?_
  exact L 0 (by decide)
set_option maxRecDepth 100000 in
set_option maxHeartbeats 4000000 in
theorem ev0_sideTo_n {G : jj_G} {h : List jj_C} {f : Nat} (_hf : f < 12) : jj_Ev G m0_sideTo 2 [.int (nI f), .int (-1)] (h) 0 0 (some (.int (-1))) (h) := by
  refine jj_Ev_of (lo := [some (.int (nI f)), some (.int (-1)), none]) (by decide +kernel) (Nat.le_of_ble_eq_true rfl) rfl (by trivial) ?_
  have L : ∀ k, k ≤ 5 → jj_Go G m0_sideTo 2 2 [some (.int (nI f)), some (.int (-1)), some (.int (nI k))] [] (h) 0 0 (some (.int (-1))) (h) := by
    refine jj_up 5 (fun k hk ih => ?_) ?_
    · refine jj_iload_n dX0_sideTo_2 rfl ?_
      refine jj_iconst (v := 5) dX0_sideTo_3 (by decide) ?_
      refine jj_icmp_ge (tgt := 31) dX0_sideTo_4 (by decide) (fun zz => absurd zz (jb_ge hk (by decide))) (fun _ => ?_)
      refine jj_iload_n dX0_sideTo_7 rfl ?_
      refine jj_callS (M2 := m0_isField) dX0_sideTo_8 ml0_9 tm0_isField (ev0_isField (-1)) rfl rfl (by omega) (Nat.le_of_ble_eq_true rfl) ?_
      refine jj_if_eq (tgt := 25) dX0_sideTo_11 (by decide) (fun _ => ?_) (fun zz => absurd (jb_bf (by decide)) zz)
      refine jj_iinc dX0_sideTo_25 rfl (jb_i k) (by decide) rfl ?_
      refine jj_goto (tgt := 2) dX0_sideTo_28 (by decide) ?_
      exact ih
    · refine jj_iload_n dX0_sideTo_2 rfl ?_
      refine jj_iconst (v := 5) dX0_sideTo_3 (by decide) ?_
      refine jj_icmp_ge (tgt := 31) dX0_sideTo_4 (by decide) (fun _ => ?_) (fun zz => absurd (jb_ge' (n := 5) (by decide)) zz)
      refine jj_iconst (v := (-1)) dX0_sideTo_31 (by decide) ?_
      exact jj_leaf dX0_sideTo_32 rfl rfl
  refine jj_iconst (v := 0) dX0_sideTo_0 (by decide) ?_
  refine jj_istore_n dX0_sideTo_1 rfl (by decide) rfl ?_
  exact L 0 (by decide)
set_option maxRecDepth 100000 in
set_option maxHeartbeats 4000000 in
theorem ev0_allBeside {G : jj_G} {h : List jj_C} {f : Nat} (hf : f < 12) : jj_Ev G m0_allBeside 2 [.int (nI f)] (h) 0 0 (some (.int (nI (jb_al f)))) (h) := by
  refine jj_Ev_of (lo := [some (.int (nI f)), none, none]) (by decide +kernel) (Nat.le_of_ble_eq_true rfl) rfl (by trivial) ?_
  have L : ∀ k, k ≤ 5 → jj_Go G m0_allBeside 2 4 [some (.int (nI f)), some (.int (nI (jb_alk f k))), some (.int (nI k))] [] (h) 0 0 (some (.int (nI (jb_al f)))) (h) := by
    refine jj_up 5 (fun k hk ih => ?_) ?_
    · refine jj_iload_n dX0_allBeside_4 rfl ?_
      refine jj_iconst (v := 5) dX0_allBeside_5 (by decide) ?_
      refine jj_icmp_ge (tgt := 32) dX0_allBeside_6 (by decide) (fun zz => absurd zz (jb_ge hk (by decide))) (fun _ => ?_)
      refine jj_iload_n dX0_allBeside_9 rfl ?_
      refine jj_callS (M2 := m0_isField) dX0_allBeside_10 ml0_9 tm0_isField (ev0_isField_v hf) rfl rfl (by omega) (Nat.le_of_ble_eq_true rfl) ?_
      refine jj_if_eq (tgt := 32) dX0_allBeside_13 (by decide) (fun zz => absurd zz (by decide)) (fun _ => ?_)
      refine jj_iload_n dX0_allBeside_16 rfl ?_
      refine jj_iconst (v := 1) dX0_allBeside_17 (by decide) ?_
      refine jj_iload_n dX0_allBeside_18 rfl ?_
      refine jj_iload_n dX0_allBeside_19 rfl ?_
      refine jj_callS (M2 := m0_across) dX0_allBeside_20 ml0_28 tm0_across (ev0_across hf hk) rfl rfl (by omega) (Nat.le_of_ble_eq_true rfl) ?_
      refine jj_ishl dX0_allBeside_23 (jb_2k _ (by have := jb_s_lt f hf k hk; omega)) ?_
      refine jj_ior dX0_allBeside_24 (fa_or _ _) ?_
      refine jj_istore_n dX0_allBeside_25 rfl (by decide) rfl ?_
      refine jj_iinc dX0_allBeside_26 rfl (jb_i k) (by decide) rfl ?_
      refine jj_goto (tgt := 4) dX0_allBeside_29 (by decide) ?_
      exact ih
    · refine jj_iload_n dX0_allBeside_4 rfl ?_
      refine jj_iconst (v := 5) dX0_allBeside_5 (by decide) ?_
      refine jj_icmp_ge (tgt := 32) dX0_allBeside_6 (by decide) (fun _ => ?_) (fun zz => absurd (jb_ge' (n := 5) (by decide)) zz)
      refine jj_iload_n dX0_allBeside_32 rfl ?_
      exact jj_leaf dX0_allBeside_33 rfl rfl
  refine jj_iconst (v := 0) dX0_allBeside_0 (by decide) ?_
  refine jj_istore_n dX0_allBeside_1 rfl (by decide) rfl ?_
  refine jj_iconst (v := 0) dX0_allBeside_2 (by decide) ?_
  refine jj_istore_n dX0_allBeside_3 rfl (by decide) rfl ?_
  exact L 0 (by decide)
set_option maxRecDepth 100000 in
set_option maxHeartbeats 4000000 in
theorem ev0_withThoseBeside {G : jj_G} {h : List jj_C} {a : Nat} (ha : a < 4096) : jj_Ev G m0_withThoseBeside 3 [.int (nI a)] (h) 0 0 (some (.int (nI (jb_wt a 12)))) (h) := by
  refine jj_Ev_of (lo := [some (.int (nI a)), none, none]) (by decide +kernel) (Nat.le_of_ble_eq_true rfl) rfl (by trivial) ?_
  have L : ∀ k, k ≤ 12 → jj_Go G m0_withThoseBeside 3 4 [some (.int (nI a)), some (.int (nI (jb_wt a k))), some (.int (nI k))] [] (h) 0 0 (some (.int (nI (jb_wt a 12)))) (h) := by
    refine jj_up 12 (fun k hk ih => ?_) ?_
    · refine jj_iload_n dX0_withThoseBeside_4 rfl ?_
      refine jj_bipush (v := 12) dX0_withThoseBeside_5 (by decide) ?_
      refine jj_icmp_ge (tgt := 31) dX0_withThoseBeside_7 (by decide) (fun zz => absurd zz (jb_ge hk (by decide))) (fun _ => ?_)
      refine jj_iload_n dX0_withThoseBeside_10 rfl ?_
      refine jj_iload_n dX0_withThoseBeside_11 rfl ?_
      refine jj_callS (M2 := m0_holds) dX0_withThoseBeside_12 ml0_31 tm0_holds (ev0_holds (a := a) (by omega) hk) rfl rfl (by omega) (Nat.le_of_ble_eq_true rfl) ?_
      refine jj_if_eq (tgt := 25) dX0_withThoseBeside_15 (by decide) (fun c15 => ?_) (fun c15 => ?_)
      · refine jj_iinc dX0_withThoseBeside_25 rfl (jb_i k) (by decide) rfl ?_
        refine jj_goto (tgt := 4) dX0_withThoseBeside_28 (by decide) ?_
        unfold jb_wt at ih
        first | (rw [if_neg (jb_b0 c15)] at ih; exact ih) | (rw [if_pos (jb_b1 c15)] at ih; exact ih)
      · refine jj_iload_n dX0_withThoseBeside_18 rfl ?_
        refine jj_iload_n dX0_withThoseBeside_19 rfl ?_
        refine jj_callS (M2 := m0_allBeside) dX0_withThoseBeside_20 ml0_39 tm0_allBeside (ev0_allBeside hk) rfl rfl (by omega) (Nat.le_of_ble_eq_true rfl) ?_
        refine jj_ior dX0_withThoseBeside_23 (fa_or _ _) ?_
        refine jj_istore_n dX0_withThoseBeside_24 rfl (by decide) rfl ?_
        refine jj_iinc dX0_withThoseBeside_25 rfl (jb_i k) (by decide) rfl ?_
        refine jj_goto (tgt := 4) dX0_withThoseBeside_28 (by decide) ?_
        unfold jb_wt at ih
        first | (rw [if_neg (jb_b0 c15)] at ih; exact ih) | (rw [if_pos (jb_b1 c15)] at ih; exact ih)
    · refine jj_iload_n dX0_withThoseBeside_4 rfl ?_
      refine jj_bipush (v := 12) dX0_withThoseBeside_5 (by decide) ?_
      refine jj_icmp_ge (tgt := 31) dX0_withThoseBeside_7 (by decide) (fun _ => ?_) (fun zz => absurd (jb_ge' (n := 12) (by decide)) zz)
      refine jj_iload_n dX0_withThoseBeside_31 rfl ?_
      exact jj_leaf dX0_withThoseBeside_32 rfl rfl
  refine jj_iload_n dX0_withThoseBeside_0 rfl ?_
  refine jj_istore_n dX0_withThoseBeside_1 rfl (by decide) rfl ?_
  refine jj_iconst (v := 0) dX0_withThoseBeside_2 (by decide) ?_
  refine jj_istore_n dX0_withThoseBeside_3 rfl (by decide) rfl ?_
  exact L 0 (by decide)
set_option maxRecDepth 100000 in
set_option maxHeartbeats 4000000 in
theorem ev0_distance {G : jj_G} {h : List jj_C} {f o : Nat} (hf : f < 12) (ho : o < 12) : jj_Ev G m0_distance 4 [.int (nI f), .int (nI o)] (h) 0 0 (some (.int (nI (jb_far f o)))) (h) := by
  refine jj_Ev_of (lo := [some (.int (nI f)), some (.int (nI o)), none, none]) (by decide +kernel) (Nat.le_of_ble_eq_true rfl) rfl (by trivial) ?_
  have hr : nI (jb_far f o) = jb_pl 12 (jb_far f o) := by rw [jb_pl, if_pos (by have := jb_far_lt f hf o ho; omega)]
  rw [hr]
  have L : ∀ k, k ≤ 12 → jj_Go G m0_distance 4 6 [some (.int (nI f)), some (.int (nI o)), some (.int (nI (jb_rc f k))), some (.int (nI k))] [] (h) 0 0 (some (.int (jb_pl 12 (jb_fst (fun k => (jb_rc f k).testBit o) k (12 - k))))) (h) := by
    refine jj_up 12 (fun k hk ih => ?_) ?_
    · refine jj_iload_n dX0_distance_6 rfl ?_
      refine jj_bipush (v := 12) dX0_distance_7 (by decide) ?_
      refine jj_icmp_ge (tgt := 33) dX0_distance_9 (by decide) (fun zz => absurd zz (jb_ge hk (by decide))) (fun _ => ?_)
      refine jj_iload_n dX0_distance_12 rfl ?_
      refine jj_iload_n dX0_distance_13 rfl ?_
      refine jj_callS (M2 := m0_holds) dX0_distance_14 ml0_31 tm0_holds (ev0_holds (a := jb_rc f k) (by have := jb_rc_lt hf k; omega) ho) rfl rfl (by omega) (Nat.le_of_ble_eq_true rfl) ?_
      refine jj_if_eq (tgt := 22) dX0_distance_17 (by decide) (fun c17 => ?_) (fun c17 => ?_)
      · refine jj_iload_n dX0_distance_22 rfl ?_
        refine jj_callS (M2 := m0_withThoseBeside) dX0_distance_23 ml0_35 tm0_withThoseBeside (ev0_withThoseBeside (a := jb_rc f k) (jb_rc_lt hf k)) rfl rfl (by omega) (Nat.le_of_ble_eq_true rfl) ?_
        refine jj_istore_n dX0_distance_26 rfl (by decide) rfl ?_
        refine jj_iinc dX0_distance_27 rfl (jb_i k) (by decide) rfl ?_
        refine jj_goto (tgt := 6) dX0_distance_30 (by decide) ?_
        rw [jb_fst_no (by simpa using jb_b0 c17) hk]
        exact ih
      · refine jj_iload_n dX0_distance_20 rfl ?_
        exact jj_leaf dX0_distance_21 (by rw [jb_fst_yes (p := fun k => (jb_rc f k).testBit o) (jb_b1 c17) hk, jb_pl, if_pos hk]; rfl) rfl
    · refine jj_iload_n dX0_distance_6 rfl ?_
      refine jj_bipush (v := 12) dX0_distance_7 (by decide) ?_
      refine jj_icmp_ge (tgt := 33) dX0_distance_9 (by decide) (fun _ => ?_) (fun zz => absurd (jb_ge' (n := 12) (by decide)) zz)
      refine jj_iconst (v := (-1)) dX0_distance_33 (by decide) ?_
      exact jj_leaf dX0_distance_34 (by rw [jb_fst_end, jb_pl, if_neg (by decide)]; rfl) rfl
  refine jj_iconst (v := 1) dX0_distance_0 (by decide) ?_
  refine jj_iload_n dX0_distance_1 rfl ?_
  refine jj_ishl dX0_distance_2 (jb_2k f (by omega)) ?_
  refine jj_istore_n dX0_distance_3 rfl (by decide) rfl ?_
  refine jj_iconst (v := 0) dX0_distance_4 (by decide) ?_
  refine jj_istore_n dX0_distance_5 rfl (by decide) rfl ?_
  exact L 0 (by decide)
set_option maxRecDepth 100000 in
set_option maxHeartbeats 4000000 in
theorem ev0_opposite {G : jj_G} {h : List jj_C} {f : Nat} (hf : f < 12) : jj_Ev G m0_opposite 5 [.int (nI f)] (h) 0 0 (some (.int (nI (jb_op f)))) (h) := by
  refine jj_Ev_of (lo := [some (.int (nI f)), none]) (by decide +kernel) (Nat.le_of_ble_eq_true rfl) rfl (by trivial) ?_
  have hr : nI (jb_op f) = jb_pl 12 (jb_op f) := by rw [jb_pl, if_pos (jb_op_lt f hf)]
  rw [hr]
  have L : ∀ k, k ≤ 12 → jj_Go G m0_opposite 5 2 [some (.int (nI f)), some (.int (nI k))] [] (h) 0 0 (some (.int (jb_pl 12 (jb_fst (fun o => jb_far f o == 3) k (12 - k))))) (h) := by
    refine jj_up 12 (fun k hk ih => ?_) ?_
    · refine jj_iload_n dX0_opposite_2 rfl ?_
      refine jj_bipush (v := 12) dX0_opposite_3 (by decide) ?_
      refine jj_icmp_ge (tgt := 25) dX0_opposite_5 (by decide) (fun zz => absurd zz (jb_ge hk (by decide))) (fun _ => ?_)
      refine jj_iload_n dX0_opposite_8 rfl ?_
      refine jj_iload_n dX0_opposite_9 rfl ?_
      refine jj_callS (M2 := m0_distance) dX0_opposite_10 ml0_42 tm0_distance (ev0_distance hf hk) rfl rfl (by omega) (Nat.le_of_ble_eq_true rfl) ?_
      refine jj_iconst (v := 3) dX0_opposite_13 (by decide) ?_
      refine jj_icmp_ne (tgt := 19) dX0_opposite_14 (by decide) (fun c14 => ?_) (fun c14 => ?_)
      · refine jj_iinc dX0_opposite_19 rfl (jb_i k) (by decide) rfl ?_
        refine jj_goto (tgt := 2) dX0_opposite_22 (by decide) ?_
        rw [jb_fst_no (by simpa using fun q => c14 (by rw [q]; rfl)) hk]
        exact ih
      · refine jj_iload_n dX0_opposite_17 rfl ?_
        exact jj_leaf dX0_opposite_18 (by rw [jb_fst_yes (by simpa using (jb_inj (by have := jb_far_lt f hf k hk; omega) (by decide)).mp c14) hk, jb_pl, if_pos hk]; rfl) rfl
    · refine jj_iload_n dX0_opposite_2 rfl ?_
      refine jj_bipush (v := 12) dX0_opposite_3 (by decide) ?_
      refine jj_icmp_ge (tgt := 25) dX0_opposite_5 (by decide) (fun _ => ?_) (fun zz => absurd (jb_ge' (n := 12) (by decide)) zz)
      refine jj_iconst (v := (-1)) dX0_opposite_25 (by decide) ?_
      exact jj_leaf dX0_opposite_26 (by rw [jb_fst_end, jb_pl, if_neg (by decide)]; rfl) rfl
  refine jj_iconst (v := 0) dX0_opposite_0 (by decide) ?_
  refine jj_istore_n dX0_opposite_1 rfl (by decide) rfl ?_
  exact L 0 (by decide)
