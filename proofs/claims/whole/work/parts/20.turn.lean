/-! TURNINGS over a table g -/
def j4_ok (s : jj_S) (g : Nat → Nat → Nat) : Prop := ∀ t, t < 60 → ∀ f, f < 12 → tn_go s (t * 12 + f) = nI (g t f) ∧ g t f < 12
def jb_all (p : Nat → Bool) : Nat → Bool
  | 0 => true
  | k + 1 => jb_all p k && p k
theorem jb_all_iff (p : Nat → Bool) : ∀ n, jb_all p n = true ↔ ∀ k, k < n → p k = true := by
  intro n
  induction n with
  | zero => exact ⟨fun _ k hk => absurd hk (Nat.not_lt_zero k), fun _ => rfl⟩
  | succ n ih =>
    rw [jb_all, Bool.and_eq_true, ih]
    constructor
    · intro h k hk
      rcases Nat.lt_or_ge k n with q | q
      · exact h.1 k q
      · rw [show k = n by omega]
        exact h.2
    · exact fun h => ⟨fun k hk => h k (by omega), h n (Nat.lt_succ_self n)⟩
def j4_cnt (p : Nat → Bool) : Nat → Nat
  | 0 => 0
  | k + 1 => if p k = true then j4_cnt p k + 1 else j4_cnt p k
/-- a ring: its fields so far, where one is -/
def j4_rg (g : Nat → Nat) (f : Nat) : Nat → Nat × Nat
  | 0 => (0, f)
  | k + 1 => ((j4_rg g f k).1 ||| 2 ^ (j4_rg g f k).2, g (j4_rg g f k).2)
def j4_fx (g : Nat → Nat) (c : Int64) : Nat → Int64 × Nat
  | 0 => (1, 0)
  | k + 1 => if (j4_fx g c k).2.testBit k = true then j4_fx g c k else ((j4_fx g c k).1 * c, (j4_fx g c k).2 ||| (j4_rg g k 12).1)
def j4_un (g : Nat → Nat → Nat) (c : Int64) : Nat → Int64
  | 0 => 0
  | k + 1 => j4_un g c k + (j4_fx (g k) c 12).1
theorem j4_rg_lt {g : Nat → Nat} {f : Nat} (hf : f < 12) (hg : ∀ f, f < 12 → g f < 12) : ∀ k, (j4_rg g f k).1 < 4096 ∧ (j4_rg g f k).2 < 12 := by
  intro k
  induction k with
  | zero => exact ⟨by show 0 < 4096; decide, hf⟩
  | succ k ih => exact ⟨Nat.or_lt_two_pow (n := 12) ih.1 (Nat.pow_lt_pow_right (by decide) ih.2), hg _ ih.2⟩
theorem j4_fx_lt {g : Nat → Nat} (c : Int64) (hg : ∀ f, f < 12 → g f < 12) : ∀ k, k ≤ 12 → (j4_fx g c k).2 < 4096 := by
  intro k
  induction k with
  | zero => intro _; exact (by decide : (0 : Nat) < 4096)
  | succ k ih =>
    intro hk
    have h1 := ih (by omega)
    unfold j4_fx
    split
    · exact h1
    · exact Nat.or_lt_two_pow (n := 12) h1 (j4_rg_lt (by omega) hg 12).1
theorem ev4_goal_n {G : jj_G} {s : jj_S} {g : Nat → Nat → Nat} {t f : Nat} (hg : j4_ok s g) (ht : t < 60) (hf : f < 12) : jj_Ev G m4_goal 1 [.ref 6, .int (nI t), .int (nI f)] (jj_m s) 0 0 (some (.int (nI (g t f)))) (jj_m s) := by
  have := ev4_goal (G := G) (s := s) ht hf
  rwa [(hg t ht f hf).1] at this
theorem j4_b1 {x : Int32} (h : ¬ x = 0) (h2 : x = 0 ∨ x = 1) : x = 1 := h2.resolve_left h
set_option maxRecDepth 100000 in
set_option maxHeartbeats 4000000 in
theorem ev4_brings_1 {G : jj_G} {s : jj_S} {g : Nat → Nat → Nat} {t : Nat} (hg : j4_ok s g) (ht : t < 60) : jj_Ev G m4_brings 2 [.ref 6, .int (nI t), .ref 19, .ref 19] (jj_m s) 0 0 (some (.int (jb_b (jb_all (fun f => s1_kd s (g t f) == s1_kd s f) 12 = true)))) (jj_m s) := by
  refine jj_Ev_of (lo := [some (.ref 6), some (.int (nI t)), some (.ref 19), some (.ref 19), none]) (by decide +kernel) (Nat.le_of_ble_eq_true rfl) rfl (jb_b01 _) ?_
  have L : ∀ k, k ≤ 12 → (∀ j, j < k → s1_kd s (g t j) = s1_kd s j) → jj_Go G m4_brings 2 3 [some (.ref 6), some (.int (nI t)), some (.ref 19), some (.ref 19), some (.int (nI k))] [] (jj_m s) 0 0 (some (.int (jb_b (jb_all (fun f => s1_kd s (g t f) == s1_kd s f) 12 = true)))) (jj_m s) := by
    refine jj_up 12 (fun k hk ih => ?_) ?_
    · intro hp
      refine jj_iload dX4_brings_3 rfl ?_
      refine jj_bipush (v := 12) dX4_brings_5 (by decide) ?_
      refine jj_icmp_ge (tgt := 38) dX4_brings_7 (by decide) (fun zz => absurd zz (jb_ge hk (by decide))) (fun _ => ?_)
      refine jj_aload_n dX4_brings_10 rfl ?_
      refine jj_aload_n dX4_brings_11 rfl ?_
      refine jj_iload_n dX4_brings_12 rfl ?_
      refine jj_iload dX4_brings_13 rfl ?_
      refine jj_callV (M2 := m4_goal) dX4_brings_15 ml4_38 tm4_goal (ev4_goal_n hg ht hk) rfl rfl rfl rfl rfl (by omega) (Nat.le_of_ble_eq_true rfl) ?_
      refine jj_callV (M2 := m1_kindOf) dX4_brings_18 ml4_58 tm1_kindOf (ev1_kindOf_1 (hg t ht k hk).2) rfl rfl rfl rfl rfl (by omega) (Nat.le_of_ble_eq_true rfl) ?_
      refine jj_aload_n dX4_brings_21 rfl ?_
      refine jj_iload dX4_brings_22 rfl ?_
      refine jj_callV (M2 := m1_kindOf) dX4_brings_24 ml4_58 tm1_kindOf (ev1_kindOf_1 hk) rfl rfl rfl rfl rfl (by omega) (Nat.le_of_ble_eq_true rfl) ?_
      refine jj_icmp_eq (tgt := 32) dX4_brings_27 (by decide) (fun c27 => ?_) (fun c27 => ?_)
      · refine jj_iinc dX4_brings_32 rfl (jb_i k) (by decide) rfl ?_
        refine jj_goto (tgt := 3) dX4_brings_35 (by decide) ?_
        refine ih (fun j hj => ?_)
        rcases Nat.lt_or_ge j k with q | q
        · exact hp j q
        · rw [show j = k by omega]
          exact c27
      · refine jj_iconst (v := 0) dX4_brings_30 (by decide) ?_
        exact jj_leaf dX4_brings_31 (by rw [jb_bf (fun q => c27 (by simpa using (jb_all_iff _ 12).mp q k hk))]; rfl) rfl
    · intro hp
      refine jj_iload dX4_brings_3 rfl ?_
      refine jj_bipush (v := 12) dX4_brings_5 (by decide) ?_
      refine jj_icmp_ge (tgt := 38) dX4_brings_7 (by decide) (fun _ => ?_) (fun zz => absurd (jb_ge' (n := 12) (by decide)) zz)
      refine jj_iconst (v := 1) dX4_brings_38 (by decide) ?_
      exact jj_leaf dX4_brings_39 (by rw [jb_bt ((jb_all_iff _ 12).mpr fun j hj => by simpa using hp j hj)]; rfl) rfl
  refine jj_iconst (v := 0) dX4_brings_0 (by decide) ?_
  refine jj_istore dX4_brings_1 (by decide) rfl ?_
  exact L 0 (by decide) (fun j hj => absurd hj (by omega))
set_option maxRecDepth 100000 in
set_option maxHeartbeats 4000000 in
theorem ev4_brings_2 {G : jj_G} {s : jj_S} {g : Nat → Nat → Nat} {t : Nat} (hg : j4_ok s g) (ht : t < 60) : jj_Ev G m4_brings 2 [.ref 6, .int (nI t), .ref 22, .ref 19] (jj_m s) 0 0 (some (.int (jb_b (jb_all (fun f => s1_kd s (g t f) == s2_kd s f) 12 = true)))) (jj_m s) := by
  refine jj_Ev_of (lo := [some (.ref 6), some (.int (nI t)), some (.ref 22), some (.ref 19), none]) (by decide +kernel) (Nat.le_of_ble_eq_true rfl) rfl (jb_b01 _) ?_
  have L : ∀ k, k ≤ 12 → (∀ j, j < k → s1_kd s (g t j) = s2_kd s j) → jj_Go G m4_brings 2 3 [some (.ref 6), some (.int (nI t)), some (.ref 22), some (.ref 19), some (.int (nI k))] [] (jj_m s) 0 0 (some (.int (jb_b (jb_all (fun f => s1_kd s (g t f) == s2_kd s f) 12 = true)))) (jj_m s) := by
    refine jj_up 12 (fun k hk ih => ?_) ?_
    · intro hp
      refine jj_iload dX4_brings_3 rfl ?_
      refine jj_bipush (v := 12) dX4_brings_5 (by decide) ?_
      refine jj_icmp_ge (tgt := 38) dX4_brings_7 (by decide) (fun zz => absurd zz (jb_ge hk (by decide))) (fun _ => ?_)
      refine jj_aload_n dX4_brings_10 rfl ?_
      refine jj_aload_n dX4_brings_11 rfl ?_
      refine jj_iload_n dX4_brings_12 rfl ?_
      refine jj_iload dX4_brings_13 rfl ?_
      refine jj_callV (M2 := m4_goal) dX4_brings_15 ml4_38 tm4_goal (ev4_goal_n hg ht hk) rfl rfl rfl rfl rfl (by omega) (Nat.le_of_ble_eq_true rfl) ?_
      refine jj_callV (M2 := m1_kindOf) dX4_brings_18 ml4_58 tm1_kindOf (ev1_kindOf_1 (hg t ht k hk).2) rfl rfl rfl rfl rfl (by omega) (Nat.le_of_ble_eq_true rfl) ?_
      refine jj_aload_n dX4_brings_21 rfl ?_
      refine jj_iload dX4_brings_22 rfl ?_
      refine jj_callV (M2 := m1_kindOf) dX4_brings_24 ml4_58 tm1_kindOf (ev1_kindOf_2 hk) rfl rfl rfl rfl rfl (by omega) (Nat.le_of_ble_eq_true rfl) ?_
      refine jj_icmp_eq (tgt := 32) dX4_brings_27 (by decide) (fun c27 => ?_) (fun c27 => ?_)
      · refine jj_iinc dX4_brings_32 rfl (jb_i k) (by decide) rfl ?_
        refine jj_goto (tgt := 3) dX4_brings_35 (by decide) ?_
        refine ih (fun j hj => ?_)
        rcases Nat.lt_or_ge j k with q | q
        · exact hp j q
        · rw [show j = k by omega]
          exact c27
      · refine jj_iconst (v := 0) dX4_brings_30 (by decide) ?_
        exact jj_leaf dX4_brings_31 (by rw [jb_bf (fun q => c27 (by simpa using (jb_all_iff _ 12).mp q k hk))]; rfl) rfl
    · intro hp
      refine jj_iload dX4_brings_3 rfl ?_
      refine jj_bipush (v := 12) dX4_brings_5 (by decide) ?_
      refine jj_icmp_ge (tgt := 38) dX4_brings_7 (by decide) (fun _ => ?_) (fun zz => absurd (jb_ge' (n := 12) (by decide)) zz)
      refine jj_iconst (v := 1) dX4_brings_38 (by decide) ?_
      exact jj_leaf dX4_brings_39 (by rw [jb_bt ((jb_all_iff _ 12).mpr fun j hj => by simpa using hp j hj)]; rfl) rfl
  refine jj_iconst (v := 0) dX4_brings_0 (by decide) ?_
  refine jj_istore dX4_brings_1 (by decide) rfl ?_
  exact L 0 (by decide) (fun j hj => absurd hj (by omega))
set_option maxRecDepth 100000 in
set_option maxHeartbeats 4000000 in
theorem ev4_brings_3 {G : jj_G} {s : jj_S} {g : Nat → Nat → Nat} {t : Nat} (hg : j4_ok s g) (ht : t < 60) : jj_Ev G m4_brings 2 [.ref 6, .int (nI t), .ref 25, .ref 19] (jj_m s) 0 0 (some (.int (jb_b (jb_all (fun f => s1_kd s (g t f) == s3_kd s f) 12 = true)))) (jj_m s) := by
  refine jj_Ev_of (lo := [some (.ref 6), some (.int (nI t)), some (.ref 25), some (.ref 19), none]) (by decide +kernel) (Nat.le_of_ble_eq_true rfl) rfl (jb_b01 _) ?_
  have L : ∀ k, k ≤ 12 → (∀ j, j < k → s1_kd s (g t j) = s3_kd s j) → jj_Go G m4_brings 2 3 [some (.ref 6), some (.int (nI t)), some (.ref 25), some (.ref 19), some (.int (nI k))] [] (jj_m s) 0 0 (some (.int (jb_b (jb_all (fun f => s1_kd s (g t f) == s3_kd s f) 12 = true)))) (jj_m s) := by
    refine jj_up 12 (fun k hk ih => ?_) ?_
    · intro hp
      refine jj_iload dX4_brings_3 rfl ?_
      refine jj_bipush (v := 12) dX4_brings_5 (by decide) ?_
      refine jj_icmp_ge (tgt := 38) dX4_brings_7 (by decide) (fun zz => absurd zz (jb_ge hk (by decide))) (fun _ => ?_)
      refine jj_aload_n dX4_brings_10 rfl ?_
      refine jj_aload_n dX4_brings_11 rfl ?_
      refine jj_iload_n dX4_brings_12 rfl ?_
      refine jj_iload dX4_brings_13 rfl ?_
      refine jj_callV (M2 := m4_goal) dX4_brings_15 ml4_38 tm4_goal (ev4_goal_n hg ht hk) rfl rfl rfl rfl rfl (by omega) (Nat.le_of_ble_eq_true rfl) ?_
      refine jj_callV (M2 := m1_kindOf) dX4_brings_18 ml4_58 tm1_kindOf (ev1_kindOf_1 (hg t ht k hk).2) rfl rfl rfl rfl rfl (by omega) (Nat.le_of_ble_eq_true rfl) ?_
      refine jj_aload_n dX4_brings_21 rfl ?_
      refine jj_iload dX4_brings_22 rfl ?_
      refine jj_callV (M2 := m1_kindOf) dX4_brings_24 ml4_58 tm1_kindOf (ev1_kindOf_3 hk) rfl rfl rfl rfl rfl (by omega) (Nat.le_of_ble_eq_true rfl) ?_
      refine jj_icmp_eq (tgt := 32) dX4_brings_27 (by decide) (fun c27 => ?_) (fun c27 => ?_)
      · refine jj_iinc dX4_brings_32 rfl (jb_i k) (by decide) rfl ?_
        refine jj_goto (tgt := 3) dX4_brings_35 (by decide) ?_
        refine ih (fun j hj => ?_)
        rcases Nat.lt_or_ge j k with q | q
        · exact hp j q
        · rw [show j = k by omega]
          exact c27
      · refine jj_iconst (v := 0) dX4_brings_30 (by decide) ?_
        exact jj_leaf dX4_brings_31 (by rw [jb_bf (fun q => c27 (by simpa using (jb_all_iff _ 12).mp q k hk))]; rfl) rfl
    · intro hp
      refine jj_iload dX4_brings_3 rfl ?_
      refine jj_bipush (v := 12) dX4_brings_5 (by decide) ?_
      refine jj_icmp_ge (tgt := 38) dX4_brings_7 (by decide) (fun _ => ?_) (fun zz => absurd (jb_ge' (n := 12) (by decide)) zz)
      refine jj_iconst (v := 1) dX4_brings_38 (by decide) ?_
      exact jj_leaf dX4_brings_39 (by rw [jb_bt ((jb_all_iff _ 12).mpr fun j hj => by simpa using hp j hj)]; rfl) rfl
  refine jj_iconst (v := 0) dX4_brings_0 (by decide) ?_
  refine jj_istore dX4_brings_1 (by decide) rfl ?_
  exact L 0 (by decide) (fun j hj => absurd hj (by omega))
set_option maxRecDepth 100000 in
set_option maxHeartbeats 4000000 in
theorem ev4_bringing_1 {G : jj_G} {s : jj_S} {g : Nat → Nat → Nat} (hg : j4_ok s g) : jj_Ev G m4_bringing 3 [.ref 6, .ref 19, .ref 19] (jj_m s) 0 0 (some (.int (nI (j4_cnt (fun t => jb_all (fun f => s1_kd s (g t f) == s1_kd s f) 12) 60)))) (jj_m s) := by
  refine jj_Ev_of (lo := [some (.ref 6), some (.ref 19), some (.ref 19), none, none]) (by decide +kernel) (Nat.le_of_ble_eq_true rfl) rfl (by trivial) ?_
  have L : ∀ k, k ≤ 60 → jj_Go G m4_bringing 3 5 [some (.ref 6), some (.ref 19), some (.ref 19), some (.int (nI (j4_cnt (fun t => jb_all (fun f => s1_kd s (g t f) == s1_kd s f) 12) k))), some (.int (nI k))] [] (jj_m s) 0 0 (some (.int (nI (j4_cnt (fun t => jb_all (fun f => s1_kd s (g t f) == s1_kd s f) 12) 60)))) (jj_m s) := by
    refine jj_up 60 (fun k hk ih => ?_) ?_
    · refine jj_iload dX4_bringing_5 rfl ?_
      refine jj_bipush (v := 60) dX4_bringing_7 (by decide) ?_
      refine jj_icmp_ge (tgt := 32) dX4_bringing_9 (by decide) (fun zz => absurd zz (jb_ge hk (by decide))) (fun _ => ?_)
      refine jj_aload_n dX4_bringing_12 rfl ?_
      refine jj_iload dX4_bringing_13 rfl ?_
      refine jj_aload_n dX4_bringing_15 rfl ?_
      refine jj_aload_n dX4_bringing_16 rfl ?_
      refine jj_callV (M2 := m4_brings) dX4_bringing_17 ml4_54 tm4_brings (ev4_brings_1 hg hk) rfl rfl rfl rfl rfl (by omega) (Nat.le_of_ble_eq_true rfl) ?_
      refine jj_if_eq (tgt := 26) dX4_bringing_20 (by decide) (fun c20 => ?_) (fun c20 => ?_)
      · refine jj_iinc dX4_bringing_26 rfl (jb_i k) (by decide) rfl ?_
        refine jj_goto (tgt := 5) dX4_bringing_29 (by decide) ?_
        unfold j4_cnt at ih
        first | (rw [if_neg (jb_b0 c20)] at ih; exact ih) | (rw [if_pos (jb_b1 c20)] at ih; exact ih)
      · refine jj_iinc dX4_bringing_23 rfl (jb_i _) (by decide) rfl ?_
        refine jj_iinc dX4_bringing_26 rfl (jb_i k) (by decide) rfl ?_
        refine jj_goto (tgt := 5) dX4_bringing_29 (by decide) ?_
        unfold j4_cnt at ih
        first | (rw [if_neg (jb_b0 c20)] at ih; exact ih) | (rw [if_pos (jb_b1 c20)] at ih; exact ih)
    · refine jj_iload dX4_bringing_5 rfl ?_
      refine jj_bipush (v := 60) dX4_bringing_7 (by decide) ?_
      refine jj_icmp_ge (tgt := 32) dX4_bringing_9 (by decide) (fun _ => ?_) (fun zz => absurd (jb_ge' (n := 60) (by decide)) zz)
      refine jj_iload_n dX4_bringing_32 rfl ?_
      exact jj_leaf dX4_bringing_33 rfl rfl
  refine jj_iconst (v := 0) dX4_bringing_0 (by decide) ?_
  refine jj_istore_n dX4_bringing_1 rfl (by decide) rfl ?_
  refine jj_iconst (v := 0) dX4_bringing_2 (by decide) ?_
  refine jj_istore dX4_bringing_3 (by decide) rfl ?_
  exact L 0 (by decide)
set_option maxRecDepth 100000 in
set_option maxHeartbeats 4000000 in
theorem ev4_bringing_2 {G : jj_G} {s : jj_S} {g : Nat → Nat → Nat} (hg : j4_ok s g) : jj_Ev G m4_bringing 3 [.ref 6, .ref 22, .ref 19] (jj_m s) 0 0 (some (.int (nI (j4_cnt (fun t => jb_all (fun f => s1_kd s (g t f) == s2_kd s f) 12) 60)))) (jj_m s) := by
  refine jj_Ev_of (lo := [some (.ref 6), some (.ref 22), some (.ref 19), none, none]) (by decide +kernel) (Nat.le_of_ble_eq_true rfl) rfl (by trivial) ?_
  have L : ∀ k, k ≤ 60 → jj_Go G m4_bringing 3 5 [some (.ref 6), some (.ref 22), some (.ref 19), some (.int (nI (j4_cnt (fun t => jb_all (fun f => s1_kd s (g t f) == s2_kd s f) 12) k))), some (.int (nI k))] [] (jj_m s) 0 0 (some (.int (nI (j4_cnt (fun t => jb_all (fun f => s1_kd s (g t f) == s2_kd s f) 12) 60)))) (jj_m s) := by
    refine jj_up 60 (fun k hk ih => ?_) ?_
    · refine jj_iload dX4_bringing_5 rfl ?_
      refine jj_bipush (v := 60) dX4_bringing_7 (by decide) ?_
      refine jj_icmp_ge (tgt := 32) dX4_bringing_9 (by decide) (fun zz => absurd zz (jb_ge hk (by decide))) (fun _ => ?_)
      refine jj_aload_n dX4_bringing_12 rfl ?_
      refine jj_iload dX4_bringing_13 rfl ?_
      refine jj_aload_n dX4_bringing_15 rfl ?_
      refine jj_aload_n dX4_bringing_16 rfl ?_
      refine jj_callV (M2 := m4_brings) dX4_bringing_17 ml4_54 tm4_brings (ev4_brings_2 hg hk) rfl rfl rfl rfl rfl (by omega) (Nat.le_of_ble_eq_true rfl) ?_
      refine jj_if_eq (tgt := 26) dX4_bringing_20 (by decide) (fun c20 => ?_) (fun c20 => ?_)
      · refine jj_iinc dX4_bringing_26 rfl (jb_i k) (by decide) rfl ?_
        refine jj_goto (tgt := 5) dX4_bringing_29 (by decide) ?_
        unfold j4_cnt at ih
        first | (rw [if_neg (jb_b0 c20)] at ih; exact ih) | (rw [if_pos (jb_b1 c20)] at ih; exact ih)
      · refine jj_iinc dX4_bringing_23 rfl (jb_i _) (by decide) rfl ?_
        refine jj_iinc dX4_bringing_26 rfl (jb_i k) (by decide) rfl ?_
        refine jj_goto (tgt := 5) dX4_bringing_29 (by decide) ?_
        unfold j4_cnt at ih
        first | (rw [if_neg (jb_b0 c20)] at ih; exact ih) | (rw [if_pos (jb_b1 c20)] at ih; exact ih)
    · refine jj_iload dX4_bringing_5 rfl ?_
      refine jj_bipush (v := 60) dX4_bringing_7 (by decide) ?_
      refine jj_icmp_ge (tgt := 32) dX4_bringing_9 (by decide) (fun _ => ?_) (fun zz => absurd (jb_ge' (n := 60) (by decide)) zz)
      refine jj_iload_n dX4_bringing_32 rfl ?_
      exact jj_leaf dX4_bringing_33 rfl rfl
  refine jj_iconst (v := 0) dX4_bringing_0 (by decide) ?_
  refine jj_istore_n dX4_bringing_1 rfl (by decide) rfl ?_
  refine jj_iconst (v := 0) dX4_bringing_2 (by decide) ?_
  refine jj_istore dX4_bringing_3 (by decide) rfl ?_
  exact L 0 (by decide)
set_option maxRecDepth 100000 in
set_option maxHeartbeats 4000000 in
theorem ev4_bringing_3 {G : jj_G} {s : jj_S} {g : Nat → Nat → Nat} (hg : j4_ok s g) : jj_Ev G m4_bringing 3 [.ref 6, .ref 25, .ref 19] (jj_m s) 0 0 (some (.int (nI (j4_cnt (fun t => jb_all (fun f => s1_kd s (g t f) == s3_kd s f) 12) 60)))) (jj_m s) := by
  refine jj_Ev_of (lo := [some (.ref 6), some (.ref 25), some (.ref 19), none, none]) (by decide +kernel) (Nat.le_of_ble_eq_true rfl) rfl (by trivial) ?_
  have L : ∀ k, k ≤ 60 → jj_Go G m4_bringing 3 5 [some (.ref 6), some (.ref 25), some (.ref 19), some (.int (nI (j4_cnt (fun t => jb_all (fun f => s1_kd s (g t f) == s3_kd s f) 12) k))), some (.int (nI k))] [] (jj_m s) 0 0 (some (.int (nI (j4_cnt (fun t => jb_all (fun f => s1_kd s (g t f) == s3_kd s f) 12) 60)))) (jj_m s) := by
    refine jj_up 60 (fun k hk ih => ?_) ?_
    · refine jj_iload dX4_bringing_5 rfl ?_
      refine jj_bipush (v := 60) dX4_bringing_7 (by decide) ?_
      refine jj_icmp_ge (tgt := 32) dX4_bringing_9 (by decide) (fun zz => absurd zz (jb_ge hk (by decide))) (fun _ => ?_)
      refine jj_aload_n dX4_bringing_12 rfl ?_
      refine jj_iload dX4_bringing_13 rfl ?_
      refine jj_aload_n dX4_bringing_15 rfl ?_
      refine jj_aload_n dX4_bringing_16 rfl ?_
      refine jj_callV (M2 := m4_brings) dX4_bringing_17 ml4_54 tm4_brings (ev4_brings_3 hg hk) rfl rfl rfl rfl rfl (by omega) (Nat.le_of_ble_eq_true rfl) ?_
      refine jj_if_eq (tgt := 26) dX4_bringing_20 (by decide) (fun c20 => ?_) (fun c20 => ?_)
      · refine jj_iinc dX4_bringing_26 rfl (jb_i k) (by decide) rfl ?_
        refine jj_goto (tgt := 5) dX4_bringing_29 (by decide) ?_
        unfold j4_cnt at ih
        first | (rw [if_neg (jb_b0 c20)] at ih; exact ih) | (rw [if_pos (jb_b1 c20)] at ih; exact ih)
      · refine jj_iinc dX4_bringing_23 rfl (jb_i _) (by decide) rfl ?_
        refine jj_iinc dX4_bringing_26 rfl (jb_i k) (by decide) rfl ?_
        refine jj_goto (tgt := 5) dX4_bringing_29 (by decide) ?_
        unfold j4_cnt at ih
        first | (rw [if_neg (jb_b0 c20)] at ih; exact ih) | (rw [if_pos (jb_b1 c20)] at ih; exact ih)
    · refine jj_iload dX4_bringing_5 rfl ?_
      refine jj_bipush (v := 60) dX4_bringing_7 (by decide) ?_
      refine jj_icmp_ge (tgt := 32) dX4_bringing_9 (by decide) (fun _ => ?_) (fun zz => absurd (jb_ge' (n := 60) (by decide)) zz)
      refine jj_iload_n dX4_bringing_32 rfl ?_
      exact jj_leaf dX4_bringing_33 rfl rfl
  refine jj_iconst (v := 0) dX4_bringing_0 (by decide) ?_
  refine jj_istore_n dX4_bringing_1 rfl (by decide) rfl ?_
  refine jj_iconst (v := 0) dX4_bringing_2 (by decide) ?_
  refine jj_istore dX4_bringing_3 (by decide) rfl ?_
  exact L 0 (by decide)
set_option maxRecDepth 100000 in
set_option maxHeartbeats 4000000 in
theorem ev4_ringOf {G : jj_G} {s : jj_S} {g : Nat → Nat → Nat} {t f : Nat} (hg : j4_ok s g) (ht : t < 60) (hf : f < 12) : jj_Ev G m4_ringOf 2 [.ref 6, .int (nI t), .int (nI f)] (jj_m s) 0 0 (some (.int (nI (j4_rg (g t) f 12).1))) (jj_m s) := by
  refine jj_Ev_of (lo := [some (.ref 6), some (.int (nI t)), some (.int (nI f)), none, none, none]) (by decide +kernel) (Nat.le_of_ble_eq_true rfl) rfl (by trivial) ?_
  have hb := j4_rg_lt (g := g t) hf (fun f hf => (hg t ht f hf).2)
  have L : ∀ k, k ≤ 12 → jj_Go G m4_ringOf 2 8 [some (.ref 6), some (.int (nI t)), some (.int (nI f)), some (.int (nI (j4_rg (g t) f k).1)), some (.int (nI (j4_rg (g t) f k).2)), some (.int (nI k))] [] (jj_m s) 0 0 (some (.int (nI (j4_rg (g t) f 12).1))) (jj_m s) := by
    refine jj_up 12 (fun k hk ih => ?_) ?_
    · refine jj_iload dX4_ringOf_8 rfl ?_
      refine jj_bipush (v := 12) dX4_ringOf_10 (by decide) ?_
      refine jj_icmp_ge (tgt := 45) dX4_ringOf_12 (by decide) (fun zz => absurd zz (jb_ge hk (by decide))) (fun _ => ?_)
      refine jj_iload dX4_ringOf_15 rfl ?_
      refine jj_callS (M2 := m0_isField) dX4_ringOf_17 ml4_51 tm0_isField (ev0_isField_v (hb k).2) rfl rfl (by omega) (Nat.le_of_ble_eq_true rfl) ?_
      refine jj_if_eq (tgt := 45) dX4_ringOf_20 (by decide) (fun zz => absurd zz (by decide)) (fun _ => ?_)
      refine jj_iload_n dX4_ringOf_23 rfl ?_
      refine jj_iconst (v := 1) dX4_ringOf_24 (by decide) ?_
      refine jj_iload dX4_ringOf_25 rfl ?_
      refine jj_ishl dX4_ringOf_27 (jb_2k _ (by have := (hb k).2; omega)) ?_
      refine jj_ior dX4_ringOf_28 (fa_or _ _) ?_
      refine jj_istore_n dX4_ringOf_29 rfl (by decide) rfl ?_
      refine jj_aload_n dX4_ringOf_30 rfl ?_
      refine jj_iload_n dX4_ringOf_31 rfl ?_
      refine jj_iload dX4_ringOf_32 rfl ?_
      refine jj_callV (M2 := m4_goal) dX4_ringOf_34 ml4_38 tm4_goal (ev4_goal_n hg ht (hb k).2) rfl rfl rfl rfl rfl (by omega) (Nat.le_of_ble_eq_true rfl) ?_
      refine jj_istore dX4_ringOf_37 (by decide) rfl ?_
      refine jj_iinc dX4_ringOf_39 rfl (jb_i k) (by decide) rfl ?_
      refine jj_goto (tgt := 8) dX4_ringOf_42 (by decide) ?_
      exact ih
    · refine jj_iload dX4_ringOf_8 rfl ?_
      refine jj_bipush (v := 12) dX4_ringOf_10 (by decide) ?_
      refine jj_icmp_ge (tgt := 45) dX4_ringOf_12 (by decide) (fun _ => ?_) (fun zz => absurd (jb_ge' (n := 12) (by decide)) zz)
      refine jj_iload_n dX4_ringOf_45 rfl ?_
      exact jj_leaf dX4_ringOf_46 rfl rfl
  refine jj_iconst (v := 0) dX4_ringOf_0 (by decide) ?_
  refine jj_istore_n dX4_ringOf_1 rfl (by decide) rfl ?_
  refine jj_iload_n dX4_ringOf_2 rfl ?_
  refine jj_istore dX4_ringOf_3 (by decide) rfl ?_
  refine jj_iconst (v := 0) dX4_ringOf_5 (by decide) ?_
  refine jj_istore dX4_ringOf_6 (by decide) rfl ?_
  exact L 0 (by decide)
set_option maxRecDepth 100000 in
set_option maxHeartbeats 4000000 in
theorem ev4_fixedWays {G : jj_G} {s : jj_S} {g : Nat → Nat → Nat} {t : Nat} (c : Int32) (hg : j4_ok s g) (ht : t < 60) : jj_Ev G m4_fixedWays 3 [.ref 6, .int (nI t), .int c] (jj_m s) 0 0 (some (.long (j4_fx (g t) c.toInt64 12).1)) (jj_m s) := by
  refine jj_Ev_of (lo := [some (.ref 6), some (.int (nI t)), some (.int c), none, none, none, none]) (by decide +kernel) (Nat.le_of_ble_eq_true rfl) rfl (by trivial) ?_
  have hb := j4_fx_lt (g := g t) c.toInt64 (fun f hf => (hg t ht f hf).2)
  have L : ∀ k, k ≤ 12 → jj_Go G m4_fixedWays 3 8 [some (.ref 6), some (.int (nI t)), some (.int c), some (.long (j4_fx (g t) c.toInt64 k).1), none, some (.int (nI (j4_fx (g t) c.toInt64 k).2)), some (.int (nI k))] [] (jj_m s) 0 0 (some (.long (j4_fx (g t) c.toInt64 12).1)) (jj_m s) := by
    refine jj_up 12 (fun k hk ih => ?_) ?_
    · refine jj_iload dX4_fixedWays_8 rfl ?_
      refine jj_bipush (v := 12) dX4_fixedWays_10 (by decide) ?_
      refine jj_icmp_ge (tgt := 48) dX4_fixedWays_12 (by decide) (fun zz => absurd zz (jb_ge hk (by decide))) (fun _ => ?_)
      refine jj_iload dX4_fixedWays_15 rfl ?_
      refine jj_iload dX4_fixedWays_17 rfl ?_
      refine jj_callS (M2 := m0_holds) dX4_fixedWays_19 ml4_64 tm0_holds (ev0_holds (a := (j4_fx (g t) c.toInt64 k).2) (by have := hb k (by omega); omega) hk) rfl rfl (by omega) (Nat.le_of_ble_eq_true rfl) ?_
      refine jj_if_ne (tgt := 42) dX4_fixedWays_22 (by decide) (fun c22 => ?_) (fun c22 => ?_)
      · refine jj_iinc dX4_fixedWays_42 rfl (jb_i k) (by decide) rfl ?_
        refine jj_goto (tgt := 8) dX4_fixedWays_45 (by decide) ?_
        unfold j4_fx at ih
        first | (rw [if_pos (jb_b1 c22)] at ih; exact ih) | (rw [if_neg (jb_b0 c22)] at ih; exact ih)
      · refine jj_lload_n dX4_fixedWays_25 rfl ?_
        refine jj_iload_n dX4_fixedWays_26 rfl ?_
        refine jj_i2l dX4_fixedWays_27 rfl ?_
        refine jj_lmul dX4_fixedWays_28 rfl ?_
        refine jj_lstore_n dX4_fixedWays_29 rfl (by decide) rfl ?_
        refine jj_iload dX4_fixedWays_30 rfl ?_
        refine jj_aload_n dX4_fixedWays_32 rfl ?_
        refine jj_iload_n dX4_fixedWays_33 rfl ?_
        refine jj_iload dX4_fixedWays_34 rfl ?_
        refine jj_callV (M2 := m4_ringOf) dX4_fixedWays_36 ml4_68 tm4_ringOf (ev4_ringOf hg ht hk) rfl rfl rfl rfl rfl (by omega) (Nat.le_of_ble_eq_true rfl) ?_
        refine jj_ior dX4_fixedWays_39 (fa_or _ _) ?_
        refine jj_istore dX4_fixedWays_40 (by decide) rfl ?_
        refine jj_iinc dX4_fixedWays_42 rfl (jb_i k) (by decide) rfl ?_
        refine jj_goto (tgt := 8) dX4_fixedWays_45 (by decide) ?_
        unfold j4_fx at ih
        first | (rw [if_pos (jb_b1 c22)] at ih; exact ih) | (rw [if_neg (jb_b0 c22)] at ih; exact ih)
    · refine jj_iload dX4_fixedWays_8 rfl ?_
      refine jj_bipush (v := 12) dX4_fixedWays_10 (by decide) ?_
      refine jj_icmp_ge (tgt := 48) dX4_fixedWays_12 (by decide) (fun _ => ?_) (fun zz => absurd (jb_ge' (n := 12) (by decide)) zz)
      refine jj_lload_n dX4_fixedWays_48 rfl ?_
      exact jj_leaf dX4_fixedWays_49 rfl rfl
  refine jj_lconst (v := 1) dX4_fixedWays_0 (by decide) ?_
  refine jj_lstore_n dX4_fixedWays_1 rfl (by decide) rfl ?_
  refine jj_iconst (v := 0) dX4_fixedWays_2 (by decide) ?_
  refine jj_istore dX4_fixedWays_3 (by decide) rfl ?_
  refine jj_iconst (v := 0) dX4_fixedWays_5 (by decide) ?_
  refine jj_istore dX4_fixedWays_6 (by decide) rfl ?_
  exact L 0 (by decide)
set_option maxRecDepth 100000 in
set_option maxHeartbeats 4000000 in
theorem ev4_unlikeWays {G : jj_G} {s : jj_S} {g : Nat → Nat → Nat} (c : Int32) (hg : j4_ok s g) : jj_Ev G m4_unlikeWays 4 [.ref 6, .int c] (jj_m s) 0 0 (some (.long (j4_un g c.toInt64 60 / 60))) (jj_m s) := by
  refine jj_Ev_of (lo := [some (.ref 6), some (.int c), none, none, none]) (by decide +kernel) (Nat.le_of_ble_eq_true rfl) rfl (by trivial) ?_
  have L : ∀ k, k ≤ 60 → jj_Go G m4_unlikeWays 4 5 [some (.ref 6), some (.int c), some (.long (j4_un g c.toInt64 k)), none, some (.int (nI k))] [] (jj_m s) 0 0 (some (.long (j4_un g c.toInt64 60 / 60))) (jj_m s) := by
    refine jj_up 60 (fun k hk ih => ?_) ?_
    · refine jj_iload dX4_unlikeWays_5 rfl ?_
      refine jj_bipush (v := 60) dX4_unlikeWays_7 (by decide) ?_
      refine jj_icmp_ge (tgt := 28) dX4_unlikeWays_9 (by decide) (fun zz => absurd zz (jb_ge hk (by decide))) (fun _ => ?_)
      refine jj_lload_n dX4_unlikeWays_12 rfl ?_
      refine jj_aload_n dX4_unlikeWays_13 rfl ?_
      refine jj_iload dX4_unlikeWays_14 rfl ?_
      refine jj_iload_n dX4_unlikeWays_16 rfl ?_
      refine jj_callV (M2 := m4_fixedWays) dX4_unlikeWays_17 ml4_71 tm4_fixedWays (ev4_fixedWays c hg hk) rfl rfl rfl rfl rfl (by omega) (Nat.le_of_ble_eq_true rfl) ?_
      refine jj_ladd dX4_unlikeWays_20 rfl ?_
      refine jj_lstore_n dX4_unlikeWays_21 rfl (by decide) rfl ?_
      refine jj_iinc dX4_unlikeWays_22 rfl (jb_i k) (by decide) rfl ?_
      refine jj_goto (tgt := 5) dX4_unlikeWays_25 (by decide) ?_
      exact ih
    · refine jj_iload dX4_unlikeWays_5 rfl ?_
      refine jj_bipush (v := 60) dX4_unlikeWays_7 (by decide) ?_
      refine jj_icmp_ge (tgt := 28) dX4_unlikeWays_9 (by decide) (fun _ => ?_) (fun zz => absurd (jb_ge' (n := 60) (by decide)) zz)
      refine jj_lload_n dX4_unlikeWays_28 rfl ?_
      refine jj_ldc2 dX4_unlikeWays_29 kc4_75 ?_
      refine jj_ldiv dX4_unlikeWays_32 (by decide) rfl ?_
      exact jj_leaf dX4_unlikeWays_33 rfl rfl
  refine jj_lconst (v := 0) dX4_unlikeWays_0 (by decide) ?_
  refine jj_lstore_n dX4_unlikeWays_1 rfl (by decide) rfl ?_
  refine jj_iconst (v := 0) dX4_unlikeWays_2 (by decide) ?_
  refine jj_istore dX4_unlikeWays_3 (by decide) rfl ?_
  exact L 0 (by decide)
