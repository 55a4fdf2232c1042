/-! THE MODEL: what is open, taxes, insides, the walker, what is kept -/
def mw_ok (s : jj_S) (wl : Nat → Nat → Bool) : Prop := ∀ f, f < 12 → ∀ t, t < 5 → mo_wall s (5 * f + t) = jb_b (wl f t = true)
def j7_op (wl : Nat → Nat → Bool) (f : Nat) : Nat → Nat
  | 0 => 0
  | k + 1 => if wl f k = true then j7_op wl f k else j7_op wl f k ||| 2 ^ jb_s f k
def j7_o (wl : Nat → Nat → Bool) (f : Nat) : Nat := j7_op wl f 5
theorem j7_op_lt (wl : Nat → Nat → Bool) {f : Nat} (hf : f < 12) : ∀ k, k ≤ 5 → j7_op wl f k < 4096 := by
  intro k
  induction k with
  | zero => intro _; exact (by decide : (0 : Nat) < 4096)
  | succ k ih =>
    intro hk
    have h1 := ih (by omega)
    unfold j7_op
    split
    · exact h1
    · exact Nat.or_lt_two_pow (n := 12) h1 (Nat.pow_lt_pow_right (by decide) (jb_s_lt f hf k (by omega)))
theorem j7_o_lt (wl : Nat → Nat → Bool) {f : Nat} (hf : f < 12) : j7_o wl f < 4096 := j7_op_lt wl hf 5 (Nat.le_refl 5)
def j7_ct (a : Nat) (kd : Nat → Int32) (x : Int32) : Nat → Nat
  | 0 => 0
  | k + 1 => j7_ct a kd x k + (if a.testBit k = true ∧ kd k = x then 1 else 0)
theorem j7_ct_le (a : Nat) (kd : Nat → Int32) (x : Int32) : ∀ k, j7_ct a kd x k ≤ k := by
  intro k
  induction k with
  | zero => exact Nat.le_refl 0
  | succ k ih => unfold j7_ct; split <;> omega
/-- a tax: by a kind, the wells, the wheat that are open -/
def j7_tx (n c3 c1 : Nat) : Int32 := if n = 0 then 0 else if n = 1 then nI (2 + c3) else if n = 2 then nI (3 - c1) else 1
theorem jb_bn (p : Prop) [Decidable p] : jb_b p = nI (if p then 1 else 0) := by unfold jb_b; split <;> rfl
theorem j7_sub {c : Nat} (h : c < 100) : (nI 3 - nI c < 0 → nI (3 - c) = 0) ∧ (¬ nI 3 - nI c < 0 → nI 3 - nI c = nI (3 - c)) := by
  rcases Nat.lt_or_ge 3 c with q | q
  · exact ⟨fun _ => by rw [show 3 - c = 0 by omega]; rfl, fun z => absurd (pk_sneg (by omega) q) z⟩
  · exact ⟨fun z => by rw [pk_sub q] at z; exact absurd z (nI_pos (by omega)), fun _ => pk_sub q⟩
def j7_sq (o : Nat → Nat) (a : Nat) : Nat → Nat
  | 0 => a
  | k + 1 => if (j7_sq o a k).testBit k = true then j7_sq o a k ||| o k else j7_sq o a k
def j7_in (o : Nat → Nat) (f : Nat) : Nat → Nat
  | 0 => 2 ^ f
  | n + 1 => j7_sq o (j7_in o f n) 12
theorem j7_sq_lt {o : Nat → Nat} (ho : ∀ f, f < 12 → o f < 4096) {a : Nat} (ha : a < 4096) : ∀ k, k ≤ 12 → j7_sq o a k < 4096 := by
  intro k
  induction k with
  | zero => intro _; exact ha
  | succ k ih =>
    intro hk
    have h1 := ih (by omega)
    unfold j7_sq
    split
    · exact Nat.or_lt_two_pow (n := 12) h1 (ho k (by omega))
    · exact h1
theorem j7_in_lt {o : Nat → Nat} (ho : ∀ f, f < 12 → o f < 4096) {f : Nat} (hf : f < 12) : ∀ n, j7_in o f n < 4096 := by
  intro n
  induction n with
  | zero => exact Nat.pow_lt_pow_right (a := 2) (by decide) hf
  | succ n ih => exact j7_sq_lt ho ih 12 (Nat.le_refl 12)
set_option maxRecDepth 100000 in
set_option maxHeartbeats 4000000 in
theorem ev7_openOf {G : jj_G} {s : jj_S} {wl : Nat → Nat → Bool} {f : Nat} (hb : mb_ok s) (hw : mw_ok s wl) (hf : f < 12) : jj_Ev G m7_openOf 0 [.ref 28, .int (nI f)] (jj_m s) 0 0 (some (.int (nI (j7_o wl f)))) (jj_m s) := by
  refine jj_Ev_of (lo := [some (.ref 28), some (.int (nI f)), none, none]) (by decide +kernel) (Nat.le_of_ble_eq_true rfl) rfl (by trivial) ?_
  have L : ∀ k, k ≤ 5 → jj_Go G m7_openOf 0 4 [some (.ref 28), some (.int (nI f)), some (.int (nI (j7_op wl f k))), some (.int (nI k))] [] (jj_m s) 0 0 (some (.int (nI (j7_o wl f)))) (jj_m s) := by
    refine jj_up 5 (fun k hk ih => ?_) ?_
    · have e1 := hw f hf k hk
      have e2 := hb f hf k hk
      rw [j7_op] at ih
      refine jj_iload_n dX7_openOf_4 rfl ?_
      refine jj_iconst (v := 5) dX7_openOf_5 (by decide) ?_
      refine jj_icmp_ge (tgt := 47) dX7_openOf_6 (by decide) (fun zz => absurd zz (jb_ge hk (by decide))) (fun _ => ?_)
      refine jj_iload_n dX7_openOf_9 rfl ?_
      refine jj_aload_n dX7_openOf_10 rfl ?_
      refine jj_getf dX7_openOf_11 fl7_13 rfl rfl ?_
      refine jj_iconst (v := nI 5) dX7_openOf_14 (by decide) ?_
      refine jj_iload_n dX7_openOf_15 rfl ?_
      refine jj_imul dX7_openOf_16 (j4_mul 5 f) ?_
      refine jj_iload_n dX7_openOf_17 rfl ?_
      refine jj_iadd dX7_openOf_18 (nI_add (5 * f) k) ?_
      refine jv_zald dX7_openOf_19 rfl (by omega) (by decide) ?_
      rw [e1]
      refine jj_if_eq (tgt := 27) dX7_openOf_20 (by decide) (fun c20 => ?_) (fun c20 => ?_)
      · refine jj_iconst (v := 1) dX7_openOf_27 (by decide) ?_
        refine jj_aload_n dX7_openOf_28 rfl ?_
        refine jj_getf dX7_openOf_29 fl7_7 rfl rfl ?_
        refine jj_iconst (v := nI 5) dX7_openOf_32 (by decide) ?_
        refine jj_iload_n dX7_openOf_33 rfl ?_
        refine jj_imul dX7_openOf_34 (j4_mul 5 f) ?_
        refine jj_iload_n dX7_openOf_35 rfl ?_
        refine jj_iadd dX7_openOf_36 (nI_add (5 * f) k) ?_
        refine jv_iald dX7_openOf_37 rfl (by omega) (by decide) ?_
        rw [e2]
        refine jj_ishl dX7_openOf_38 (jb_2k _ (by have := jb_s_lt f hf k hk; omega)) ?_
        first
        | (rw [if_neg (jb_b0 c20)] at ih; refine jj_ior dX7_openOf_39 (fa_or _ _) ?_; refine jj_istore_n dX7_openOf_40 rfl (by decide) rfl ?_; refine jj_iinc dX7_openOf_41 rfl (jb_i k) (by decide) rfl ?_; refine jj_goto (tgt := 4) dX7_openOf_44 (by decide) ?_; exact ih)
        | (rw [if_pos (jb_b1 c20)] at ih; refine jj_ior (v := nI (j7_op wl f k)) dX7_openOf_39 ((fa_or _ 0).trans (by rw [Nat.or_zero])) ?_; refine jj_istore_n dX7_openOf_40 rfl (by decide) rfl ?_; refine jj_iinc dX7_openOf_41 rfl (jb_i k) (by decide) rfl ?_; refine jj_goto (tgt := 4) dX7_openOf_44 (by decide) ?_; exact ih)
      · refine jj_iconst (v := 0) dX7_openOf_23 (by decide) ?_
        refine jj_goto (tgt := 39) dX7_openOf_24 (by decide) ?_
        first
        | (rw [if_neg (jb_b0 c20)] at ih; refine jj_ior dX7_openOf_39 (fa_or _ _) ?_; refine jj_istore_n dX7_openOf_40 rfl (by decide) rfl ?_; refine jj_iinc dX7_openOf_41 rfl (jb_i k) (by decide) rfl ?_; refine jj_goto (tgt := 4) dX7_openOf_44 (by decide) ?_; exact ih)
        | (rw [if_pos (jb_b1 c20)] at ih; refine jj_ior (v := nI (j7_op wl f k)) dX7_openOf_39 ((fa_or _ 0).trans (by rw [Nat.or_zero])) ?_; refine jj_istore_n dX7_openOf_40 rfl (by decide) rfl ?_; refine jj_iinc dX7_openOf_41 rfl (jb_i k) (by decide) rfl ?_; refine jj_goto (tgt := 4) dX7_openOf_44 (by decide) ?_; exact ih)
    · refine jj_iload_n dX7_openOf_4 rfl ?_
      refine jj_iconst (v := 5) dX7_openOf_5 (by decide) ?_
      refine jj_icmp_ge (tgt := 47) dX7_openOf_6 (by decide) (fun _ => ?_) (fun zz => absurd (jb_ge' (n := 5) (by decide)) zz)
      refine jj_iload_n dX7_openOf_47 rfl ?_
      exact jj_leaf dX7_openOf_48 rfl rfl
  refine jj_iconst (v := 0) dX7_openOf_0 (by decide) ?_
  refine jj_istore_n dX7_openOf_1 rfl (by decide) rfl ?_
  refine jj_iconst (v := 0) dX7_openOf_2 (by decide) ?_
  refine jj_istore_n dX7_openOf_3 rfl (by decide) rfl ?_
  exact L 0 (by decide)
set_option maxRecDepth 100000 in
set_option maxHeartbeats 4000000 in
theorem ev7_bits {G : jj_G} {h : List jj_C} {a : Nat} (ha : a < 4096) : jj_Ev G m7_bits 0 [.int (nI a)] (h) 0 0 (some (.int (nI (jb_pc a)))) (h) := by
  refine jj_Ev_of (lo := [some (.int (nI a)), none, none]) (by decide +kernel) (Nat.le_of_ble_eq_true rfl) rfl (by trivial) ?_
  have L : ∀ k, k ≤ 12 → jj_Go G m7_bits 0 4 [some (.int (nI a)), some (.int (nI (jb_pcn a k))), some (.int (nI k))] [] (h) 0 0 (some (.int (nI (jb_pc a)))) (h) := by
    refine jj_up 12 (fun k hk ih => ?_) ?_
    · refine jj_iload_n dX7_bits_4 rfl ?_
      refine jj_bipush (v := 12) dX7_bits_5 (by decide) ?_
      refine jj_icmp_ge (tgt := 24) dX7_bits_7 (by decide) (fun zz => absurd zz (jb_ge hk (by decide))) (fun _ => ?_)
      refine jj_iload_n dX7_bits_10 rfl ?_
      refine jj_iload_n dX7_bits_11 rfl ?_
      refine jj_iload_n dX7_bits_12 rfl ?_
      refine jj_ishr dX7_bits_13 rfl ?_
      refine jj_iconst (v := 1) dX7_bits_14 (by decide) ?_
      refine jj_iand dX7_bits_15 (jb_sh (by omega) (by omega)) ?_
      refine jj_iadd (v := nI (jb_pcn a (k + 1))) dX7_bits_16 (by rw [jb_bn, nI_add]; rfl) ?_
      refine jj_istore_n dX7_bits_17 rfl (by decide) rfl ?_
      refine jj_iinc dX7_bits_18 rfl (jb_i k) (by decide) rfl ?_
      refine jj_goto (tgt := 4) dX7_bits_21 (by decide) ?_
      exact ih
    · refine jj_iload_n dX7_bits_4 rfl ?_
      refine jj_bipush (v := 12) dX7_bits_5 (by decide) ?_
      refine jj_icmp_ge (tgt := 24) dX7_bits_7 (by decide) (fun _ => ?_) (fun zz => absurd (jb_ge' (n := 12) (by decide)) zz)
      refine jj_iload_n dX7_bits_24 rfl ?_
      exact jj_leaf dX7_bits_25 rfl rfl
  refine jj_iconst (v := 0) dX7_bits_0 (by decide) ?_
  refine jj_istore_n dX7_bits_1 rfl (by decide) rfl ?_
  refine jj_iconst (v := 0) dX7_bits_2 (by decide) ?_
  refine jj_istore_n dX7_bits_3 rfl (by decide) rfl ?_
  exact L 0 (by decide)
set_option maxRecDepth 100000 in
set_option maxHeartbeats 4000000 in
theorem ev7_openOfKind {G : jj_G} {s : jj_S} {wl : Nat → Nat → Bool} {f : Nat} (x : Int32) (hb : mb_ok s) (hw : mw_ok s wl) (hf : f < 12) : jj_Ev G m7_openOfKind 1 [.ref 28, .int (nI f), .int x] (jj_m s) 0 0 (some (.int (nI (j7_ct (j7_o wl f) (mo_kind s) x 12)))) (jj_m s) := by
  refine jj_Ev_of (lo := [some (.ref 28), some (.int (nI f)), some (.int x), none, none, none]) (by decide +kernel) (Nat.le_of_ble_eq_true rfl) rfl (by trivial) ?_
  have hlt := j7_o_lt wl hf
  have L : ∀ k, k ≤ 12 → jj_Go G m7_openOfKind 1 12 [some (.ref 28), some (.int (nI f)), some (.int x), some (.int (nI (j7_o wl f))), some (.int (nI (j7_ct (j7_o wl f) (mo_kind s) x k))), some (.int (nI k))] [] (jj_m s) 0 0 (some (.int (nI (j7_ct (j7_o wl f) (mo_kind s) x 12)))) (jj_m s) := by
    refine jj_up 12 (fun k hk ih => ?_) ?_
    · refine jj_iload dX7_openOfKind_12 rfl ?_
      refine jj_bipush (v := 12) dX7_openOfKind_14 (by decide) ?_
      refine jj_icmp_ge (tgt := 55) dX7_openOfKind_16 (by decide) (fun zz => absurd zz (jb_ge hk (by decide))) (fun _ => ?_)
      refine jj_iload dX7_openOfKind_19 rfl ?_
      refine jj_iload_n dX7_openOfKind_21 rfl ?_
      refine jj_iload dX7_openOfKind_22 rfl ?_
      refine jj_callS (M2 := m7_has) dX7_openOfKind_24 ml7_175 tm7_has (ev7_has (a := j7_o wl f) (by omega) hk) rfl rfl (by omega) (Nat.le_of_ble_eq_true rfl) ?_
      refine jj_if_eq (tgt := 45) dX7_openOfKind_27 (by decide) (fun c27 => ?_) (fun c27 => ?_)
      · refine jj_iconst (v := 0) dX7_openOfKind_45 (by decide) ?_
        first
        | (have hc : (j7_o wl f).testBit k = true ∧ mo_kind s k = x := ⟨jb_b1 c27, c38⟩; refine jj_iadd (v := nI (j7_ct (j7_o wl f) (mo_kind s) x (k + 1))) dX7_openOfKind_46 (by show _ = nI (j7_ct (j7_o wl f) (mo_kind s) x k + (if (j7_o wl f).testBit k = true ∧ mo_kind s k = x then 1 else 0)); rw [if_pos hc]; exact nI_add _ 1) ?_; refine jj_istore dX7_openOfKind_47 (by decide) rfl ?_; refine jj_iinc dX7_openOfKind_49 rfl (jb_i k) (by decide) rfl ?_; refine jj_goto (tgt := 12) dX7_openOfKind_52 (by decide) ?_; exact ih)
        | (have hc : ¬ ((j7_o wl f).testBit k = true ∧ mo_kind s k = x) := fun z => c38 z.2; refine jj_iadd (v := nI (j7_ct (j7_o wl f) (mo_kind s) x (k + 1))) dX7_openOfKind_46 (by show _ = nI (j7_ct (j7_o wl f) (mo_kind s) x k + (if (j7_o wl f).testBit k = true ∧ mo_kind s k = x then 1 else 0)); rw [if_neg hc]; exact nI_add _ 0) ?_; refine jj_istore dX7_openOfKind_47 (by decide) rfl ?_; refine jj_iinc dX7_openOfKind_49 rfl (jb_i k) (by decide) rfl ?_; refine jj_goto (tgt := 12) dX7_openOfKind_52 (by decide) ?_; exact ih)
        | (have hc : ¬ ((j7_o wl f).testBit k = true ∧ mo_kind s k = x) := fun z => jb_b0 c27 z.1; refine jj_iadd (v := nI (j7_ct (j7_o wl f) (mo_kind s) x (k + 1))) dX7_openOfKind_46 (by show _ = nI (j7_ct (j7_o wl f) (mo_kind s) x k + (if (j7_o wl f).testBit k = true ∧ mo_kind s k = x then 1 else 0)); rw [if_neg hc]; exact nI_add _ 0) ?_; refine jj_istore dX7_openOfKind_47 (by decide) rfl ?_; refine jj_iinc dX7_openOfKind_49 rfl (jb_i k) (by decide) rfl ?_; refine jj_goto (tgt := 12) dX7_openOfKind_52 (by decide) ?_; exact ih)
      · refine jj_aload_n dX7_openOfKind_30 rfl ?_
        refine jj_getf dX7_openOfKind_31 fl7_20 rfl rfl ?_
        refine jj_iload dX7_openOfKind_34 rfl ?_
        refine jv_iald dX7_openOfKind_36 rfl (hk) (by decide) ?_
        refine jj_iload_n dX7_openOfKind_37 rfl ?_
        refine jj_icmp_ne (tgt := 45) dX7_openOfKind_38 (by decide) (fun c38 => ?_) (fun c38 => ?_)
        · refine jj_iconst (v := 0) dX7_openOfKind_45 (by decide) ?_
          first
          | (have hc : (j7_o wl f).testBit k = true ∧ mo_kind s k = x := ⟨jb_b1 c27, c38⟩; refine jj_iadd (v := nI (j7_ct (j7_o wl f) (mo_kind s) x (k + 1))) dX7_openOfKind_46 (by show _ = nI (j7_ct (j7_o wl f) (mo_kind s) x k + (if (j7_o wl f).testBit k = true ∧ mo_kind s k = x then 1 else 0)); rw [if_pos hc]; exact nI_add _ 1) ?_; refine jj_istore dX7_openOfKind_47 (by decide) rfl ?_; refine jj_iinc dX7_openOfKind_49 rfl (jb_i k) (by decide) rfl ?_; refine jj_goto (tgt := 12) dX7_openOfKind_52 (by decide) ?_; exact ih)
          | (have hc : ¬ ((j7_o wl f).testBit k = true ∧ mo_kind s k = x) := fun z => c38 z.2; refine jj_iadd (v := nI (j7_ct (j7_o wl f) (mo_kind s) x (k + 1))) dX7_openOfKind_46 (by show _ = nI (j7_ct (j7_o wl f) (mo_kind s) x k + (if (j7_o wl f).testBit k = true ∧ mo_kind s k = x then 1 else 0)); rw [if_neg hc]; exact nI_add _ 0) ?_; refine jj_istore dX7_openOfKind_47 (by decide) rfl ?_; refine jj_iinc dX7_openOfKind_49 rfl (jb_i k) (by decide) rfl ?_; refine jj_goto (tgt := 12) dX7_openOfKind_52 (by decide) ?_; exact ih)
          | (have hc : ¬ ((j7_o wl f).testBit k = true ∧ mo_kind s k = x) := fun z => jb_b0 c27 z.1; refine jj_iadd (v := nI (j7_ct (j7_o wl f) (mo_kind s) x (k + 1))) dX7_openOfKind_46 (by show _ = nI (j7_ct (j7_o wl f) (mo_kind s) x k + (if (j7_o wl f).testBit k = true ∧ mo_kind s k = x then 1 else 0)); rw [if_neg hc]; exact nI_add _ 0) ?_; refine jj_istore dX7_openOfKind_47 (by decide) rfl ?_; refine jj_iinc dX7_openOfKind_49 rfl (jb_i k) (by decide) rfl ?_; refine jj_goto (tgt := 12) dX7_openOfKind_52 (by decide) ?_; exact ih)
        · refine jj_iconst (v := 1) dX7_openOfKind_41 (by decide) ?_
          refine jj_goto (tgt := 46) dX7_openOfKind_42 (by decide) ?_
          first
          | (have hc : (j7_o wl f).testBit k = true ∧ mo_kind s k = x := ⟨jb_b1 c27, c38⟩; refine jj_iadd (v := nI (j7_ct (j7_o wl f) (mo_kind s) x (k + 1))) dX7_openOfKind_46 (by show _ = nI (j7_ct (j7_o wl f) (mo_kind s) x k + (if (j7_o wl f).testBit k = true ∧ mo_kind s k = x then 1 else 0)); rw [if_pos hc]; exact nI_add _ 1) ?_; refine jj_istore dX7_openOfKind_47 (by decide) rfl ?_; refine jj_iinc dX7_openOfKind_49 rfl (jb_i k) (by decide) rfl ?_; refine jj_goto (tgt := 12) dX7_openOfKind_52 (by decide) ?_; exact ih)
          | (have hc : ¬ ((j7_o wl f).testBit k = true ∧ mo_kind s k = x) := fun z => c38 z.2; refine jj_iadd (v := nI (j7_ct (j7_o wl f) (mo_kind s) x (k + 1))) dX7_openOfKind_46 (by show _ = nI (j7_ct (j7_o wl f) (mo_kind s) x k + (if (j7_o wl f).testBit k = true ∧ mo_kind s k = x then 1 else 0)); rw [if_neg hc]; exact nI_add _ 0) ?_; refine jj_istore dX7_openOfKind_47 (by decide) rfl ?_; refine jj_iinc dX7_openOfKind_49 rfl (jb_i k) (by decide) rfl ?_; refine jj_goto (tgt := 12) dX7_openOfKind_52 (by decide) ?_; exact ih)
          | (have hc : ¬ ((j7_o wl f).testBit k = true ∧ mo_kind s k = x) := fun z => jb_b0 c27 z.1; refine jj_iadd (v := nI (j7_ct (j7_o wl f) (mo_kind s) x (k + 1))) dX7_openOfKind_46 (by show _ = nI (j7_ct (j7_o wl f) (mo_kind s) x k + (if (j7_o wl f).testBit k = true ∧ mo_kind s k = x then 1 else 0)); rw [if_neg hc]; exact nI_add _ 0) ?_; refine jj_istore dX7_openOfKind_47 (by decide) rfl ?_; refine jj_iinc dX7_openOfKind_49 rfl (jb_i k) (by decide) rfl ?_; refine jj_goto (tgt := 12) dX7_openOfKind_52 (by decide) ?_; exact ih)
    · refine jj_iload dX7_openOfKind_12 rfl ?_
      refine jj_bipush (v := 12) dX7_openOfKind_14 (by decide) ?_
      refine jj_icmp_ge (tgt := 55) dX7_openOfKind_16 (by decide) (fun _ => ?_) (fun zz => absurd (jb_ge' (n := 12) (by decide)) zz)
      refine jj_iload dX7_openOfKind_55 rfl ?_
      exact jj_leaf dX7_openOfKind_57 rfl rfl
  refine jj_aload_n dX7_openOfKind_0 rfl ?_
  refine jj_iload_n dX7_openOfKind_1 rfl ?_
  refine jj_callV (M2 := m7_openOf) dX7_openOfKind_2 ml7_184 tm7_openOf (ev7_openOf hb hw hf) rfl rfl rfl rfl rfl (by omega) (Nat.le_of_ble_eq_true rfl) ?_
  refine jj_istore_n dX7_openOfKind_5 rfl (by decide) rfl ?_
  refine jj_iconst (v := 0) dX7_openOfKind_6 (by decide) ?_
  refine jj_istore dX7_openOfKind_7 (by decide) rfl ?_
  refine jj_iconst (v := 0) dX7_openOfKind_9 (by decide) ?_
  refine jj_istore dX7_openOfKind_10 (by decide) rfl ?_
  exact L 0 (by decide)
set_option maxRecDepth 100000 in
set_option maxHeartbeats 4000000 in
theorem ev7_taxOf {G : jj_G} {s : jj_S} {wl : Nat → Nat → Bool} {f n : Nat} (hb : mb_ok s) (hw : mw_ok s wl) (hf : f < 12) (hk : mo_kind s f = nI n) (hn : n < 4) : jj_Ev G m7_taxOf 2 [.ref 28, .int (nI f)] (jj_m s) 0 0 (some (.int (j7_tx n (j7_ct (j7_o wl f) (mo_kind s) 3 12) (j7_ct (j7_o wl f) (mo_kind s) 1 12)))) (jj_m s) := by
  refine jj_Ev_of (lo := [some (.ref 28), some (.int (nI f)), none]) (by decide +kernel) (Nat.le_of_ble_eq_true rfl) rfl (by trivial) ?_
  have h3 := j7_ct_le (j7_o wl f) (mo_kind s) 3 12
  have h1 := j7_ct_le (j7_o wl f) (mo_kind s) 1 12
  rcases (show n = 0 ∨ n = 1 ∨ n = 2 ∨ n = 3 by omega) with q | q | q | q
  · subst q
    refine jj_aload_n dX7_taxOf_0 rfl ?_
    refine jj_getf dX7_taxOf_1 fl7_20 rfl rfl ?_
    refine jj_iload_n dX7_taxOf_4 rfl ?_
    refine jv_iald dX7_taxOf_5 rfl (hf) (by decide) ?_
    rw [hk]
    refine jj_swIn (tgt := 32) (off := 26) dX7_taxOf_6 (by decide) (by decide) (by decide) (by decide) ?_
    refine jj_iconst (v := 0) dX7_taxOf_32 (by decide) ?_
    exact jj_leaf dX7_taxOf_33 rfl rfl
  · subst q
    refine jj_aload_n dX7_taxOf_0 rfl ?_
    refine jj_getf dX7_taxOf_1 fl7_20 rfl rfl ?_
    refine jj_iload_n dX7_taxOf_4 rfl ?_
    refine jv_iald dX7_taxOf_5 rfl (hf) (by decide) ?_
    rw [hk]
    refine jj_swIn (tgt := 34) (off := 28) dX7_taxOf_6 (by decide) (by decide) (by decide) (by decide) ?_
    refine jj_iconst (v := 2) dX7_taxOf_34 (by decide) ?_
    refine jj_aload_n dX7_taxOf_35 rfl ?_
    refine jj_iload_n dX7_taxOf_36 rfl ?_
    refine jj_iconst (v := 3) dX7_taxOf_37 (by decide) ?_
    refine jj_callV (M2 := m7_openOfKind) dX7_taxOf_38 ml7_188 tm7_openOfKind (ev7_openOfKind 3 hb hw hf) rfl rfl rfl rfl rfl (by omega) (Nat.le_of_ble_eq_true rfl) ?_
    refine jj_iadd (v := nI (2 + (j7_ct (j7_o wl f) (mo_kind s) 3 12))) dX7_taxOf_41 (nI_add 2 _) ?_
    exact jj_leaf dX7_taxOf_42 rfl rfl
  · subst q
    refine jj_aload_n dX7_taxOf_0 rfl ?_
    refine jj_getf dX7_taxOf_1 fl7_20 rfl rfl ?_
    refine jj_iload_n dX7_taxOf_4 rfl ?_
    refine jv_iald dX7_taxOf_5 rfl (hf) (by decide) ?_
    rw [hk]
    refine jj_swIn (tgt := 43) (off := 37) dX7_taxOf_6 (by decide) (by decide) (by decide) (by decide) ?_
    refine jj_iconst (v := 3) dX7_taxOf_43 (by decide) ?_
    refine jj_aload_n dX7_taxOf_44 rfl ?_
    refine jj_iload_n dX7_taxOf_45 rfl ?_
    refine jj_iconst (v := 1) dX7_taxOf_46 (by decide) ?_
    refine jj_callV (M2 := m7_openOfKind) dX7_taxOf_47 ml7_188 tm7_openOfKind (ev7_openOfKind 1 hb hw hf) rfl rfl rfl rfl rfl (by omega) (Nat.le_of_ble_eq_true rfl) ?_
    refine jj_isub dX7_taxOf_50 rfl ?_
    refine jj_istore_n dX7_taxOf_51 rfl (by decide) rfl ?_
    refine jj_iload_n dX7_taxOf_52 rfl ?_
    refine jj_if_ge (tgt := 60) dX7_taxOf_53 (by decide) (fun c53 => ?_) (fun c53 => ?_)
    · refine jj_iload_n dX7_taxOf_60 rfl ?_
      exact jj_leaf dX7_taxOf_61 (by show _ = [Value.int (nI (3 - (j7_ct (j7_o wl f) (mo_kind s) 1 12)))]; rw [← (j7_sub (by omega)).2 (fun z => absurd c53 (Int32.not_le.mpr z))]; rfl) rfl
    · refine jj_iconst (v := 0) dX7_taxOf_56 (by decide) ?_
      refine jj_goto (tgt := 61) dX7_taxOf_57 (by decide) ?_
      exact jj_leaf dX7_taxOf_61 (by show _ = [Value.int (nI (3 - (j7_ct (j7_o wl f) (mo_kind s) 1 12)))]; rw [show (0 : Int32) = nI (3 - (j7_ct (j7_o wl f) (mo_kind s) 1 12)) from ((j7_sub (by omega)).1 (Int32.not_le.mp c53)).symm]) rfl
  · subst q
    refine jj_aload_n dX7_taxOf_0 rfl ?_
    refine jj_getf dX7_taxOf_1 fl7_20 rfl rfl ?_
    refine jj_iload_n dX7_taxOf_4 rfl ?_
    refine jv_iald dX7_taxOf_5 rfl (hf) (by decide) ?_
    rw [hk]
    refine jj_swOut (tgt := 62) dX7_taxOf_6 (by decide) (by decide) ?_
    refine jj_iconst (v := 1) dX7_taxOf_62 (by decide) ?_
    exact jj_leaf dX7_taxOf_63 rfl rfl
set_option maxRecDepth 100000 in
set_option maxHeartbeats 4000000 in
theorem ev7_insideOf {G : jj_G} {s : jj_S} {wl : Nat → Nat → Bool} {f : Nat} (hb : mb_ok s) (hw : mw_ok s wl) (hf : f < 12) : jj_Ev G m7_insideOf 1 [.ref 28, .int (nI f)] (jj_m s) 0 0 (some (.int (nI (j7_in (j7_o wl) f 12)))) (jj_m s) := by
  refine jj_Ev_of (lo := [some (.ref 28), some (.int (nI f)), none, none, none]) (by decide +kernel) (Nat.le_of_ble_eq_true rfl) rfl (by trivial) ?_
  have L : ∀ k, k ≤ 12 → jj_Go G m7_insideOf 1 6 [some (.ref 28), some (.int (nI f)), some (.int (nI (j7_in (j7_o wl) f k))), some (.int (nI k)), none] [] (jj_m s) 0 0 (some (.int (nI (j7_in (j7_o wl) f 12)))) (jj_m s) := by
    refine jj_up 12 (fun n hn ih => ?_) ?_
    · have hA : j7_in (j7_o wl) f n < 4096 := j7_in_lt (fun f hf => j7_o_lt wl hf) hf n
      rw [j7_in] at ih
      generalize hAe : j7_in (j7_o wl) f n = A at ih hA ⊢
      have L2 : ∀ k, k ≤ 12 → jj_Go G m7_insideOf 1 15 [some (.ref 28), some (.int (nI f)), some (.int (nI (j7_sq (j7_o wl) A k))), some (.int (nI n)), some (.int (nI k))] [] (jj_m s) 0 0 (some (.int (nI (j7_in (j7_o wl) f 12)))) (jj_m s) := by
        refine jj_up 12 (fun k hk ih => ?_) ?_
        · have hlt : j7_sq (j7_o wl) A k < 4096 := j7_sq_lt (fun f hf => j7_o_lt wl hf) hA k (by omega)
          rw [j7_sq] at ih
          refine jj_iload dX7_insideOf_15 rfl ?_
          refine jj_bipush (v := 12) dX7_insideOf_17 (by decide) ?_
          refine jj_icmp_ge (tgt := 50) dX7_insideOf_19 (by decide) (fun zz => absurd zz (jb_ge hk (by decide))) (fun _ => ?_)
          refine jj_iload_n dX7_insideOf_22 rfl ?_
          refine jj_iload_n dX7_insideOf_23 rfl ?_
          refine jj_iload dX7_insideOf_24 rfl ?_
          refine jj_callS (M2 := m7_has) dX7_insideOf_26 ml7_175 tm7_has (ev7_has (a := j7_sq (j7_o wl) A k) (by omega) hk) rfl rfl (by omega) (Nat.le_of_ble_eq_true rfl) ?_
          refine jj_if_eq (tgt := 41) dX7_insideOf_29 (by decide) (fun c29 => ?_) (fun c29 => ?_)
          · refine jj_iconst (v := 0) dX7_insideOf_41 (by decide) ?_
            first
            | (rw [if_pos (jb_b1 c29)] at ih; refine jj_ior (v := nI (j7_sq (j7_o wl) A k ||| j7_o wl k)) dX7_insideOf_42 (fa_or _ _) ?_; refine jj_istore_n dX7_insideOf_43 rfl (by decide) rfl ?_; refine jj_iinc dX7_insideOf_44 rfl (jb_i k) (by decide) rfl ?_; refine jj_goto (tgt := 15) dX7_insideOf_47 (by decide) ?_; exact ih)
            | (rw [if_neg (jb_b0 c29)] at ih; refine jj_ior (v := nI (j7_sq (j7_o wl) A k)) dX7_insideOf_42 ((fa_or _ 0).trans (by rw [Nat.or_zero])) ?_; refine jj_istore_n dX7_insideOf_43 rfl (by decide) rfl ?_; refine jj_iinc dX7_insideOf_44 rfl (jb_i k) (by decide) rfl ?_; refine jj_goto (tgt := 15) dX7_insideOf_47 (by decide) ?_; exact ih)
          · refine jj_aload_n dX7_insideOf_32 rfl ?_
            refine jj_iload dX7_insideOf_33 rfl ?_
            refine jj_callV (M2 := m7_openOf) dX7_insideOf_35 ml7_184 tm7_openOf (ev7_openOf hb hw hk) rfl rfl rfl rfl rfl (by omega) (Nat.le_of_ble_eq_true rfl) ?_
            refine jj_goto (tgt := 42) dX7_insideOf_38 (by decide) ?_
            first
            | (rw [if_pos (jb_b1 c29)] at ih; refine jj_ior (v := nI (j7_sq (j7_o wl) A k ||| j7_o wl k)) dX7_insideOf_42 (fa_or _ _) ?_; refine jj_istore_n dX7_insideOf_43 rfl (by decide) rfl ?_; refine jj_iinc dX7_insideOf_44 rfl (jb_i k) (by decide) rfl ?_; refine jj_goto (tgt := 15) dX7_insideOf_47 (by decide) ?_; exact ih)
            | (rw [if_neg (jb_b0 c29)] at ih; refine jj_ior (v := nI (j7_sq (j7_o wl) A k)) dX7_insideOf_42 ((fa_or _ 0).trans (by rw [Nat.or_zero])) ?_; refine jj_istore_n dX7_insideOf_43 rfl (by decide) rfl ?_; refine jj_iinc dX7_insideOf_44 rfl (jb_i k) (by decide) rfl ?_; refine jj_goto (tgt := 15) dX7_insideOf_47 (by decide) ?_; exact ih)
        · refine jj_iload dX7_insideOf_15 rfl ?_
          refine jj_bipush (v := 12) dX7_insideOf_17 (by decide) ?_
          refine jj_icmp_ge (tgt := 50) dX7_insideOf_19 (by decide) (fun _ => ?_) (fun zz => absurd (jb_ge' (n := 12) (by decide)) zz)
          refine jj_iinc dX7_insideOf_50 rfl (jb_i n) (by decide) rfl ?_
          refine jj_goto (tgt := 6) dX7_insideOf_53 (by decide) ?_
          refine jj_less (lo' := [some (.ref 28), some (.int (nI f)), some (.int (nI (j7_sq (j7_o wl) A 12))), some (.int (nI (n + 1))), none]) (fun j v hj => ?_) ih
          match j, hj with
          | 0, hj => exact hj
          | 1, hj => exact hj
          | 2, hj => exact hj
          | 3, hj => exact hj
          | 4, hj => exact absurd hj (by simp)
          | j + 5, hj => exact absurd hj (by simp)
      refine jj_iload_n dX7_insideOf_6 rfl ?_
      refine jj_bipush (v := 12) dX7_insideOf_7 (by decide) ?_
      refine jj_icmp_ge (tgt := 56) dX7_insideOf_9 (by decide) (fun zz => absurd zz (jb_ge hn (by decide))) (fun _ => ?_)
      refine jj_iconst (v := 0) dX7_insideOf_12 (by decide) ?_
      refine jj_istore dX7_insideOf_13 (by decide) rfl ?_
      exact L2 0 (by decide)
    · skip
      refine jj_iload_n dX7_insideOf_6 rfl ?_
      refine jj_bipush (v := 12) dX7_insideOf_7 (by decide) ?_
      refine jj_icmp_ge (tgt := 56) dX7_insideOf_9 (by decide) (fun _ => ?_) (fun zz => absurd (jb_ge' (n := 12) (by decide)) zz)
      refine jj_iload_n dX7_insideOf_56 rfl ?_
      exact jj_leaf dX7_insideOf_57 rfl rfl
  refine jj_iconst (v := 1) dX7_insideOf_0 (by decide) ?_
  refine jj_iload_n dX7_insideOf_1 rfl ?_
  refine jj_ishl dX7_insideOf_2 (jb_2k f (by omega)) ?_
  refine jj_istore_n dX7_insideOf_3 rfl (by decide) rfl ?_
  refine jj_iconst (v := 0) dX7_insideOf_4 (by decide) ?_
  refine jj_istore_n dX7_insideOf_5 rfl (by decide) rfl ?_
  exact L 0 (by decide)
