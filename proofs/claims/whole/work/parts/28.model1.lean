/-! THE MODEL (cell 28): its ball, sides, distances -/
def jn (x : Int32) : Nat := x.toNatClampNeg
theorem jn_n {k : Nat} (h : k < 2 ^ 31) : jn (nI k) = k := nI_clamp h
abbrev vF (x : Int32) : Prop := 0 ≤ x ∧ x < 12
abbrev vS (x : Int32) : Prop := 0 ≤ x ∧ x < 5
theorem vF_n {x : Int32} (h : vF x) : ∃ k, k < 12 ∧ x = nI k := jb_num h.1 h.2 (by decide)
theorem vS_n {x : Int32} (h : vS x) : ∃ k, k < 5 ∧ x = nI k := jb_num h.1 h.2 (by decide)
theorem vF_of {k : Nat} (h : k < 12) : vF (nI k) := jb_insN h (by decide)
theorem vS_of {k : Nat} (h : k < 5) : vS (nI k) := jb_insN h (by decide)
def mb_ok (s : jj_S) : Prop := ∀ f, f < 12 → ∀ t, t < 5 → mo_ball s (5 * f + t) = nI (jb_s f t)
theorem jb_b_iff {p q : Prop} [Decidable p] [Decidable q] (h : p ↔ q) : jb_b p = jb_b q := by
  unfold jb_b
  by_cases hp : p
  · rw [if_pos hp, if_pos (h.mp hp)]
  · rw [if_neg hp, if_neg fun z => hp (h.mpr z)]
theorem jb_le_lt {x : Int32} {a b : Int32} (h : a.toInt + 1 = b.toInt) : x ≤ a ↔ x < b := by
  rw [Int32.le_iff_toInt_le, Int32.lt_iff_toInt_lt]; omega
theorem jb_not1 {p : Prop} [Decidable p] (h : ¬ jb_b p = 1) : ¬ p := fun q => h (jb_bt q)
theorem jb_is1 {p : Prop} [Decidable p] (h : jb_b p = 1) : p := Classical.byContradiction fun q => by rw [jb_bf q] at h; exact absurd h (by decide)
theorem jb_fst_at {p : Nat → Bool} : ∀ n k, jb_fst p k n < k + n → p (jb_fst p k n) = true := by
  intro n
  induction n with
  | zero => intro k h; exact absurd h (by show ¬ k < k + 0; omega)
  | succ n ih =>
    intro k h
    unfold jb_fst at h ⊢
    by_cases hp : p k = true
    · rw [if_pos hp]; exact hp
    · rw [if_neg hp] at h ⊢; exact ih (k + 1) (by omega)
/-- those of a and those beside them, by the places 0 .. k - 1 of the table -/
def j7_mo (a : Nat) : Nat → Nat
  | 0 => a
  | k + 1 => j7_mo a k ||| (if a.testBit (k / 5) = true then 2 ^ jb_s (k / 5) (k % 5) else 0)
theorem j7_mo_rc : ∀ f, f < 12 → ∀ n, n < 4 → j7_mo (jb_rc f n) 60 = jb_rc f (n + 1) := by decide +kernel
theorem j7_mo_lt : ∀ f, f < 12 → ∀ n, n < 4 → ∀ k, k < 61 → j7_mo (jb_rc f n) k < 4096 := by decide +kernel
def j7_ot (f : Nat) : Nat → Int32
  | 0 => -1
  | k + 1 => if jb_far f k = 3 then nI k else j7_ot f k
theorem j7_ot_op : ∀ f, f < 12 → j7_ot f 12 = nI (jb_op f) := by decide +kernel
set_option maxRecDepth 100000 in
set_option maxHeartbeats 4000000 in
theorem ev7_in {G : jj_G} {h : List jj_C} (v l u : Int32) : jj_Ev G m7_in 0 [.int v, .int l, .int u] (h) 0 0 (some (.int (jb_b (l ≤ v ∧ v ≤ u)))) (h) := by
  refine jj_Ev_of (lo := [some (.int v), some (.int l), some (.int u)]) (by decide +kernel) (Nat.le_of_ble_eq_true rfl) rfl (jb_b01 _) ?_
  refine jj_iload_n dX7_in_0 rfl ?_
  refine jj_iload_n dX7_in_1 rfl ?_
  refine jj_icmp_lt (tgt := 14) dX7_in_2 (by decide) (fun c2 => ?_) (fun c2 => ?_)
  · refine jj_iconst (v := 0) dX7_in_14 (by decide) ?_
    exact jj_leaf dX7_in_15 (by rw [jb_bf (fun q => absurd q.1 (Int32.not_le.mpr c2))]; rfl) rfl
  · refine jj_iload_n dX7_in_5 rfl ?_
    refine jj_iload_n dX7_in_6 rfl ?_
    refine jj_icmp_gt (tgt := 14) dX7_in_7 (by decide) (fun c7 => ?_) (fun c7 => ?_)
    · refine jj_iconst (v := 0) dX7_in_14 (by decide) ?_
      exact jj_leaf dX7_in_15 (by rw [jb_bf (fun q => absurd q.2 (Int32.not_le.mpr c7))]; rfl) rfl
    · refine jj_iconst (v := 1) dX7_in_10 (by decide) ?_
      refine jj_goto (tgt := 15) dX7_in_11 (by decide) ?_
      exact jj_leaf dX7_in_15 (by rw [jb_bt ⟨Int32.not_lt.mp c2, Int32.not_lt.mp c7⟩]; rfl) rfl
set_option maxRecDepth 100000 in
set_option maxHeartbeats 4000000 in
theorem ev7_has {G : jj_G} {h : List jj_C} {a k : Nat} (ha : a < 2 ^ 31) (hk : k < 12) : jj_Ev G m7_has 0 [.int (nI a), .int (nI k)] (h) 0 0 (some (.int (jb_b (a.testBit k = true)))) (h) := by
  refine jj_Ev_of (lo := [some (.int (nI a)), some (.int (nI k))]) (by decide +kernel) (Nat.le_of_ble_eq_true rfl) rfl (jb_b01 _) ?_
  refine jj_iload_n dX7_has_0 rfl ?_
  refine jj_iload_n dX7_has_1 rfl ?_
  refine jj_ishr dX7_has_2 rfl ?_
  refine jj_iconst (v := 1) dX7_has_3 (by decide) ?_
  refine jj_iand dX7_has_4 (jb_sh ha (by omega)) ?_
  refine jj_iconst (v := 1) dX7_has_5 (by decide) ?_
  refine jj_icmp_ne (tgt := 13) dX7_has_6 (by decide) (fun c6 => ?_) (fun c6 => ?_)
  · refine jj_iconst (v := 0) dX7_has_13 (by decide) ?_
    exact jj_leaf dX7_has_14 (by rw [jb_bf (jb_not1 c6)]; rfl) rfl
  · refine jj_iconst (v := 1) dX7_has_9 (by decide) ?_
    refine jj_goto (tgt := 14) dX7_has_10 (by decide) ?_
    exact jj_leaf dX7_has_14 (by rw [jb_bt (jb_is1 c6)]; rfl) rfl
set_option maxRecDepth 100000 in
set_option maxHeartbeats 4000000 in
theorem ev7_isField {G : jj_G} {h : List jj_C} (x : Int32) : jj_Ev G m7_isField 1 [.int x] (h) 0 0 (some (.int (jb_b (vF x)))) (h) := by
  refine jj_Ev_of (lo := [some (.int x)]) (by decide +kernel) (Nat.le_of_ble_eq_true rfl) rfl (jb_b01 _) ?_
  rw [← jb_b_iff (p := 0 ≤ x ∧ x ≤ 11) (q := vF x) (and_congr_right fun _ => jb_le_lt (by decide))]
  refine jj_iload_n dX7_isField_0 rfl ?_
  refine jj_iconst (v := 0) dX7_isField_1 (by decide) ?_
  refine jj_bipush (v := 11) dX7_isField_2 (by decide) ?_
  refine jj_callS (M2 := m7_in) dX7_isField_4 ml7_65 tm7_in (ev7_in x 0 11) rfl rfl (by omega) (Nat.le_of_ble_eq_true rfl) ?_
  exact jj_leaf dX7_isField_7 rfl rfl
theorem ev7_isField_v {G : jj_G} {h : List jj_C} {k : Nat} (hk : k < 12) : jj_Ev G m7_isField 1 [.int (nI k)] (h) 0 0 (some (.int 1)) (h) := by
  have := ev7_isField (G := G) (h := h) (nI k)
  rwa [jb_bt (vF_of hk)] at this
theorem ev7_isField_b {G : jj_G} {h : List jj_C} {x : Int32} (hx : ¬ vF x) : jj_Ev G m7_isField 1 [.int x] (h) 0 0 (some (.int 0)) (h) := by
  have := ev7_isField (G := G) (h := h) x
  rwa [jb_bf hx] at this
set_option maxRecDepth 100000 in
set_option maxHeartbeats 4000000 in
theorem ev7_isSide {G : jj_G} {h : List jj_C} (x : Int32) : jj_Ev G m7_isSide 1 [.int x] (h) 0 0 (some (.int (jb_b (vS x)))) (h) := by
  refine jj_Ev_of (lo := [some (.int x)]) (by decide +kernel) (Nat.le_of_ble_eq_true rfl) rfl (jb_b01 _) ?_
  rw [← jb_b_iff (p := 0 ≤ x ∧ x ≤ 4) (q := vS x) (and_congr_right fun _ => jb_le_lt (by decide))]
  refine jj_iload_n dX7_isSide_0 rfl ?_
  refine jj_iconst (v := 0) dX7_isSide_1 (by decide) ?_
  refine jj_iconst (v := 4) dX7_isSide_2 (by decide) ?_
  refine jj_callS (M2 := m7_in) dX7_isSide_3 ml7_65 tm7_in (ev7_in x 0 4) rfl rfl (by omega) (Nat.le_of_ble_eq_true rfl) ?_
  exact jj_leaf dX7_isSide_6 rfl rfl
theorem ev7_isSide_v {G : jj_G} {h : List jj_C} {k : Nat} (hk : k < 5) : jj_Ev G m7_isSide 1 [.int (nI k)] (h) 0 0 (some (.int 1)) (h) := by
  have := ev7_isSide (G := G) (h := h) (nI k)
  rwa [jb_bt (vS_of hk)] at this
theorem ev7_isSide_b {G : jj_G} {h : List jj_C} {x : Int32} (hx : ¬ vS x) : jj_Ev G m7_isSide 1 [.int x] (h) 0 0 (some (.int 0)) (h) := by
  have := ev7_isSide (G := G) (h := h) x
  rwa [jb_bf hx] at this
set_option maxRecDepth 100000 in
set_option maxHeartbeats 4000000 in
theorem ev7_sideOf {G : jj_G} {s : jj_S} {f g : Nat} (hb : mb_ok s) (hf : f < 12) (hg : g < 12) : jj_Ev G m7_sideOf 0 [.ref 28, .int (nI f), .int (nI g)] (jj_m s) 0 0 (some (.int (jb_sd f g))) (jj_m s) := by
  refine jj_Ev_of (lo := [some (.ref 28), some (.int (nI f)), some (.int (nI g)), none]) (by decide +kernel) (Nat.le_of_ble_eq_true rfl) rfl (by trivial) ?_
  have L : ∀ k, k ≤ 5 → jj_Go G m7_sideOf 0 2 [some (.ref 28), some (.int (nI f)), some (.int (nI g)), some (.int (nI k))] [] (jj_m s) 0 0 (some (.int (jb_pl 5 (jb_fst (fun t => jb_s f t == g) k (5 - k))))) (jj_m s) := by
    refine jj_up 5 (fun k hk ih => ?_) ?_
    · have e1 := hb f hf k hk
      refine jj_iload_n dX7_sideOf_2 rfl ?_
      refine jj_iconst (v := 5) dX7_sideOf_3 (by decide) ?_
      refine jj_icmp_ge (tgt := 29) dX7_sideOf_4 (by decide) (fun zz => absurd zz (jb_ge hk (by decide))) (fun _ => ?_)
      refine jj_aload_n dX7_sideOf_7 rfl ?_
      refine jj_getf dX7_sideOf_8 fl7_7 rfl rfl ?_
      refine jj_iconst (v := nI 5) dX7_sideOf_11 (by decide) ?_
      refine jj_iload_n dX7_sideOf_12 rfl ?_
      refine jj_imul dX7_sideOf_13 (j4_mul 5 f) ?_
      refine jj_iload_n dX7_sideOf_14 rfl ?_
      refine jj_iadd dX7_sideOf_15 (nI_add (5 * f) k) ?_
      refine jv_iald dX7_sideOf_16 rfl (by omega) (by decide) ?_
      rw [e1]
      refine jj_iload_n dX7_sideOf_17 rfl ?_
      refine jj_icmp_ne (tgt := 23) dX7_sideOf_18 (by decide) (fun c18 => ?_) (fun c18 => ?_)
      · refine jj_iinc dX7_sideOf_23 rfl (jb_i k) (by decide) rfl ?_
        refine jj_goto (tgt := 2) dX7_sideOf_26 (by decide) ?_
        rw [jb_fst_no (p := fun t => jb_s f t == g) (by simpa using fun q => c18 (by rw [q])) hk]
        exact ih
      · refine jj_iload_n dX7_sideOf_21 rfl ?_
        exact jj_leaf dX7_sideOf_22 (by rw [jb_fst_yes (p := fun t => jb_s f t == g) (by simpa using (jb_inj (by have := jb_s_lt f hf k hk; omega) (by omega)).mp c18) hk, jb_pl, if_pos hk]; rfl) rfl
    · refine jj_iload_n dX7_sideOf_2 rfl ?_
      refine jj_iconst (v := 5) dX7_sideOf_3 (by decide) ?_
      refine jj_icmp_ge (tgt := 29) dX7_sideOf_4 (by decide) (fun _ => ?_) (fun zz => absurd (jb_ge' (n := 5) (by decide)) zz)
      refine jj_iconst (v := (-1)) dX7_sideOf_29 (by decide) ?_
      exact jj_leaf dX7_sideOf_30 (by rw [jb_fst_end, jb_pl, if_neg (by decide)]; rfl) rfl
  refine jj_iconst (v := 0) dX7_sideOf_0 (by decide) ?_
  refine jj_istore_n dX7_sideOf_1 rfl (by decide) rfl ?_
  exact L 0 (by decide)
set_option maxRecDepth 100000 in
set_option maxHeartbeats 4000000 in
theorem ev7_farOf {G : jj_G} {s : jj_S} {f g : Nat} (hb : mb_ok s) (hf : f < 12) (hg : g < 12) : jj_Ev G m7_farOf 1 [.ref 28, .int (nI f), .int (nI g)] (jj_m s) 0 0 (some (.int (nI (jb_far f g)))) (jj_m s) := by
  refine jj_Ev_of (lo := [some (.ref 28), some (.int (nI f)), some (.int (nI g)), none, none, none, none]) (by decide +kernel) (Nat.le_of_ble_eq_true rfl) rfl (by trivial) ?_
  have hN := jb_far_lt f hf g hg
  have L : ∀ k, k ≤ (jb_far f g) → jj_Go G m7_farOf 1 7 [some (.ref 28), some (.int (nI f)), some (.int (nI g)), some (.int (nI (jb_rc f k))), some (.int (nI k)), none, none] [] (jj_m s) 0 0 (some (.int (nI (jb_far f g)))) (jj_m s) := by
    refine jj_up (jb_far f g) (fun n hn ih => ?_) ?_
    · have hno : (jb_rc f n).testBit g = false := jb_fst_pre (p := fun k => (jb_rc f k).testBit g) 12 0 n (Nat.zero_le n) hn
      have L2 : ∀ k, k ≤ 60 → jj_Go G m7_farOf 1 21 [some (.ref 28), some (.int (nI f)), some (.int (nI g)), some (.int (nI (jb_rc f n))), some (.int (nI n)), some (.int (nI (j7_mo (jb_rc f n) k))), some (.int (nI k))] [] (jj_m s) 0 0 (some (.int (nI (jb_far f g)))) (jj_m s) := by
        refine jj_up 60 (fun k hk ih => ?_) ?_
        · have hk5 : k / 5 < 12 := by omega
          have hm5 : k % 5 < 5 := Nat.mod_lt _ (by decide)
          have e1 := hb (k / 5) hk5 (k % 5) hm5
          rw [show 5 * (k / 5) + k % 5 = k from Nat.div_add_mod k 5] at e1
          rw [j7_mo] at ih
          refine jj_iload dX7_farOf_21 rfl ?_
          refine jj_bipush (v := 60) dX7_farOf_23 (by decide) ?_
          refine jj_icmp_ge (tgt := 63) dX7_farOf_25 (by decide) (fun zz => absurd zz (jb_ge hk (by decide))) (fun _ => ?_)
          refine jj_iload dX7_farOf_28 rfl ?_
          refine jj_iload_n dX7_farOf_30 rfl ?_
          refine jj_iload dX7_farOf_31 rfl ?_
          refine jj_iconst (v := nI 5) dX7_farOf_33 (by decide) ?_
          refine jj_idiv dX7_farOf_34 (by decide) (pk_div (d := 5) (by omega) (by decide) (by decide)) ?_
          refine jj_callS (M2 := m7_has) dX7_farOf_35 ml7_175 tm7_has (ev7_has (a := jb_rc f n) (by have := jb_rc_lt hf n; omega) hk5) rfl rfl (by omega) (Nat.le_of_ble_eq_true rfl) ?_
          refine jj_if_eq (tgt := 53) dX7_farOf_38 (by decide) (fun c38 => ?_) (fun c38 => ?_)
          · refine jj_iconst (v := 0) dX7_farOf_53 (by decide) ?_
            first
            | (rw [if_neg (jb_b0 c38), Nat.or_zero] at ih; refine jj_ior (v := nI (j7_mo (jb_rc f n) k)) dX7_farOf_54 ((fa_or (j7_mo (jb_rc f n) k) 0).trans (by rw [Nat.or_zero])) ?_; refine jj_istore dX7_farOf_55 (by decide) rfl ?_; refine jj_iinc dX7_farOf_57 rfl (jb_i k) (by decide) rfl ?_; refine jj_goto (tgt := 21) dX7_farOf_60 (by decide) ?_; exact ih)
            | (rw [if_pos (jb_b1 c38)] at ih; refine jj_ior dX7_farOf_54 (fa_or _ _) ?_; refine jj_istore dX7_farOf_55 (by decide) rfl ?_; refine jj_iinc dX7_farOf_57 rfl (jb_i k) (by decide) rfl ?_; refine jj_goto (tgt := 21) dX7_farOf_60 (by decide) ?_; exact ih)
          · refine jj_iconst (v := 1) dX7_farOf_41 (by decide) ?_
            refine jj_aload_n dX7_farOf_42 rfl ?_
            refine jj_getf dX7_farOf_43 fl7_7 rfl rfl ?_
            refine jj_iload dX7_farOf_46 rfl ?_
            refine jv_iald dX7_farOf_48 rfl (hk) (by decide) ?_
            rw [e1]
            refine jj_ishl dX7_farOf_49 (jb_2k _ (by have := jb_s_lt (k / 5) hk5 (k % 5) hm5; omega)) ?_
            refine jj_goto (tgt := 54) dX7_farOf_50 (by decide) ?_
            first
            | (rw [if_neg (jb_b0 c38), Nat.or_zero] at ih; refine jj_ior (v := nI (j7_mo (jb_rc f n) k)) dX7_farOf_54 ((fa_or (j7_mo (jb_rc f n) k) 0).trans (by rw [Nat.or_zero])) ?_; refine jj_istore dX7_farOf_55 (by decide) rfl ?_; refine jj_iinc dX7_farOf_57 rfl (jb_i k) (by decide) rfl ?_; refine jj_goto (tgt := 21) dX7_farOf_60 (by decide) ?_; exact ih)
            | (rw [if_pos (jb_b1 c38)] at ih; refine jj_ior dX7_farOf_54 (fa_or _ _) ?_; refine jj_istore dX7_farOf_55 (by decide) rfl ?_; refine jj_iinc dX7_farOf_57 rfl (jb_i k) (by decide) rfl ?_; refine jj_goto (tgt := 21) dX7_farOf_60 (by decide) ?_; exact ih)
        · rw [j7_mo_rc f hf n (by omega)]
          refine jj_iload dX7_farOf_21 rfl ?_
          refine jj_bipush (v := 60) dX7_farOf_23 (by decide) ?_
          refine jj_icmp_ge (tgt := 63) dX7_farOf_25 (by decide) (fun _ => ?_) (fun zz => absurd (jb_ge' (n := 60) (by decide)) zz)
          refine jj_iload dX7_farOf_63 rfl ?_
          refine jj_istore_n dX7_farOf_65 rfl (by decide) rfl ?_
          refine jj_iinc dX7_farOf_66 rfl (jb_i n) (by decide) rfl ?_
          refine jj_goto (tgt := 7) dX7_farOf_69 (by decide) ?_
          refine jj_less (lo' := [some (.ref 28), some (.int (nI f)), some (.int (nI g)), some (.int (nI (jb_rc f (n + 1)))), some (.int (nI (n + 1))), none, none]) (fun j v hj => ?_) ih
          match j, hj with
          | 0, hj => exact hj
          | 1, hj => exact hj
          | 2, hj => exact hj
          | 3, hj => exact hj
          | 4, hj => exact hj
          | 5, hj => exact absurd hj (by simp)
          | 6, hj => exact absurd hj (by simp)
          | j + 7, hj => exact absurd hj (by simp)
      refine jj_iload_n dX7_farOf_7 rfl ?_
      refine jj_iload_n dX7_farOf_8 rfl ?_
      refine jj_callS (M2 := m7_has) dX7_farOf_9 ml7_175 tm7_has (ev7_has (a := jb_rc f n) (by have := jb_rc_lt hf n; omega) hg) rfl rfl (by omega) (Nat.le_of_ble_eq_true rfl) ?_
      refine jj_if_ne (tgt := 72) dX7_farOf_12 (by decide) (fun zz => absurd (jb_bf (by rw [hno]; decide)) zz) (fun _ => ?_)
      refine jj_iload_n dX7_farOf_15 rfl ?_
      refine jj_istore dX7_farOf_16 (by decide) rfl ?_
      refine jj_iconst (v := 0) dX7_farOf_18 (by decide) ?_
      refine jj_istore dX7_farOf_19 (by decide) rfl ?_
      exact L2 0 (by decide)
    · have hyes : (jb_rc f (jb_far f g)).testBit g = true := jb_fst_at (p := fun k => (jb_rc f k).testBit g) 12 0 (by show jb_far f g < 0 + 12; omega)
      refine jj_iload_n dX7_farOf_7 rfl ?_
      refine jj_iload_n dX7_farOf_8 rfl ?_
      refine jj_callS (M2 := m7_has) dX7_farOf_9 ml7_175 tm7_has (ev7_has (a := jb_rc f (jb_far f g)) (by have := jb_rc_lt hf (jb_far f g); omega) hg) rfl rfl (by omega) (Nat.le_of_ble_eq_true rfl) ?_
      refine jj_if_ne (tgt := 72) dX7_farOf_12 (by decide) (fun _ => ?_) (fun zz => absurd zz (by rw [jb_bt hyes]; decide))
      refine jj_iload dX7_farOf_72 rfl ?_
      exact jj_leaf dX7_farOf_74 rfl rfl
  refine jj_iconst (v := 1) dX7_farOf_0 (by decide) ?_
  refine jj_iload_n dX7_farOf_1 rfl ?_
  refine jj_ishl dX7_farOf_2 (jb_2k f (by omega)) ?_
  refine jj_istore_n dX7_farOf_3 rfl (by decide) rfl ?_
  refine jj_iconst (v := 0) dX7_farOf_4 (by decide) ?_
  refine jj_istore dX7_farOf_5 (by decide) rfl ?_
  exact L 0 (Nat.zero_le _)
set_option maxRecDepth 100000 in
set_option maxHeartbeats 4000000 in
theorem ev7_far {G : jj_G} {s : jj_S} (x y : Int32) (hb : mb_ok s) : jj_Ev G m7_far 2 [.ref 28, .int x, .int y] (jj_m s) 0 0 (some (.int (if vF x ∧ vF y then nI (jb_far (jn x) (jn y)) else -2))) (jj_m s) := by
  refine jj_Ev_of (lo := [some (.ref 28), some (.int x), some (.int y)]) (by decide +kernel) (Nat.le_of_ble_eq_true rfl) rfl (by trivial) ?_
  by_cases hx : vF x
  · obtain ⟨f, hf, rfl⟩ := vF_n hx
    by_cases hy : vF y
    · obtain ⟨g, hg, rfl⟩ := vF_n hy
      rw [if_pos ⟨hx, hy⟩, jn_n (by omega), jn_n (by omega)]
      refine jj_iload_n dX7_far_0 rfl ?_
      refine jj_callS (M2 := m7_isField) dX7_far_1 ml7_169 tm7_isField (ev7_isField_v hf) rfl rfl (by omega) (Nat.le_of_ble_eq_true rfl) ?_
      refine jj_if_eq (tgt := 23) dX7_far_4 (by decide) (fun zz => absurd zz (by decide)) (fun _ => ?_)
      refine jj_iload_n dX7_far_7 rfl ?_
      refine jj_callS (M2 := m7_isField) dX7_far_8 ml7_169 tm7_isField (ev7_isField_v hg) rfl rfl (by omega) (Nat.le_of_ble_eq_true rfl) ?_
      refine jj_if_eq (tgt := 23) dX7_far_11 (by decide) (fun zz => absurd zz (by decide)) (fun _ => ?_)
      refine jj_aload_n dX7_far_14 rfl ?_
      refine jj_iload_n dX7_far_15 rfl ?_
      refine jj_iload_n dX7_far_16 rfl ?_
      refine jj_callV (M2 := m7_farOf) dX7_far_17 ml7_178 tm7_farOf (ev7_farOf hb hf hg) rfl rfl rfl rfl rfl (by omega) (Nat.le_of_ble_eq_true rfl) ?_
      refine jj_goto (tgt := 25) dX7_far_20 (by decide) ?_
      exact jj_leaf dX7_far_25 rfl rfl
    · rw [if_neg fun z => hy z.2]
      refine jj_iload_n dX7_far_0 rfl ?_
      refine jj_callS (M2 := m7_isField) dX7_far_1 ml7_169 tm7_isField (ev7_isField_v hf) rfl rfl (by omega) (Nat.le_of_ble_eq_true rfl) ?_
      refine jj_if_eq (tgt := 23) dX7_far_4 (by decide) (fun zz => absurd zz (by decide)) (fun _ => ?_)
      refine jj_iload_n dX7_far_7 rfl ?_
      refine jj_callS (M2 := m7_isField) dX7_far_8 ml7_169 tm7_isField (ev7_isField_b hy) rfl rfl (by omega) (Nat.le_of_ble_eq_true rfl) ?_
      refine jj_if_eq (tgt := 23) dX7_far_11 (by decide) (fun _ => ?_) (fun zz => absurd rfl zz)
      refine jj_bipush (v := (-2)) dX7_far_23 (by decide) ?_
      exact jj_leaf dX7_far_25 rfl rfl
  · rw [if_neg fun z => hx z.1]
    refine jj_iload_n dX7_far_0 rfl ?_
    refine jj_callS (M2 := m7_isField) dX7_far_1 ml7_169 tm7_isField (ev7_isField_b hx) rfl rfl (by omega) (Nat.le_of_ble_eq_true rfl) ?_
    refine jj_if_eq (tgt := 23) dX7_far_4 (by decide) (fun _ => ?_) (fun zz => absurd rfl zz)
    refine jj_bipush (v := (-2)) dX7_far_23 (by decide) ?_
    exact jj_leaf dX7_far_25 rfl rfl
set_option maxRecDepth 100000 in
set_option maxHeartbeats 4000000 in
theorem ev7_side {G : jj_G} {s : jj_S} (x y : Int32) (hb : mb_ok s) : jj_Ev G m7_side 2 [.ref 28, .int x, .int y] (jj_m s) 0 0 (some (.int (if vF x ∧ vF y then jb_sd (jn x) (jn y) else -2))) (jj_m s) := by
  refine jj_Ev_of (lo := [some (.ref 28), some (.int x), some (.int y)]) (by decide +kernel) (Nat.le_of_ble_eq_true rfl) rfl (by trivial) ?_
  by_cases hx : vF x
  · obtain ⟨f, hf, rfl⟩ := vF_n hx
    by_cases hy : vF y
    · obtain ⟨g, hg, rfl⟩ := vF_n hy
      rw [if_pos ⟨hx, hy⟩, jn_n (by omega), jn_n (by omega)]
      refine jj_iload_n dX7_side_0 rfl ?_
      refine jj_callS (M2 := m7_isField) dX7_side_1 ml7_169 tm7_isField (ev7_isField_v hf) rfl rfl (by omega) (Nat.le_of_ble_eq_true rfl) ?_
      refine jj_if_eq (tgt := 23) dX7_side_4 (by decide) (fun zz => absurd zz (by decide)) (fun _ => ?_)
      refine jj_iload_n dX7_side_7 rfl ?_
      refine jj_callS (M2 := m7_isField) dX7_side_8 ml7_169 tm7_isField (ev7_isField_v hg) rfl rfl (by omega) (Nat.le_of_ble_eq_true rfl) ?_
      refine jj_if_eq (tgt := 23) dX7_side_11 (by decide) (fun zz => absurd zz (by decide)) (fun _ => ?_)
      refine jj_aload_n dX7_side_14 rfl ?_
      refine jj_iload_n dX7_side_15 rfl ?_
      refine jj_iload_n dX7_side_16 rfl ?_
      refine jj_callV (M2 := m7_sideOf) dX7_side_17 ml7_117 tm7_sideOf (ev7_sideOf hb hf hg) rfl rfl rfl rfl rfl (by omega) (Nat.le_of_ble_eq_true rfl) ?_
      refine jj_goto (tgt := 25) dX7_side_20 (by decide) ?_
      exact jj_leaf dX7_side_25 rfl rfl
    · rw [if_neg fun z => hy z.2]
      refine jj_iload_n dX7_side_0 rfl ?_
      refine jj_callS (M2 := m7_isField) dX7_side_1 ml7_169 tm7_isField (ev7_isField_v hf) rfl rfl (by omega) (Nat.le_of_ble_eq_true rfl) ?_
      refine jj_if_eq (tgt := 23) dX7_side_4 (by decide) (fun zz => absurd zz (by decide)) (fun _ => ?_)
      refine jj_iload_n dX7_side_7 rfl ?_
      refine jj_callS (M2 := m7_isField) dX7_side_8 ml7_169 tm7_isField (ev7_isField_b hy) rfl rfl (by omega) (Nat.le_of_ble_eq_true rfl) ?_
      refine jj_if_eq (tgt := 23) dX7_side_11 (by decide) (fun _ => ?_) (fun zz => absurd rfl zz)
      refine jj_bipush (v := (-2)) dX7_side_23 (by decide) ?_
      exact jj_leaf dX7_side_25 rfl rfl
  · rw [if_neg fun z => hx z.1]
    refine jj_iload_n dX7_side_0 rfl ?_
    refine jj_callS (M2 := m7_isField) dX7_side_1 ml7_169 tm7_isField (ev7_isField_b hx) rfl rfl (by omega) (Nat.le_of_ble_eq_true rfl) ?_
    refine jj_if_eq (tgt := 23) dX7_side_4 (by decide) (fun _ => ?_) (fun zz => absurd rfl zz)
    refine jj_bipush (v := (-2)) dX7_side_23 (by decide) ?_
    exact jj_leaf dX7_side_25 rfl rfl
set_option maxRecDepth 100000 in
set_option maxHeartbeats 4000000 in
theorem ev7_beside {G : jj_G} {s : jj_S} (x y : Int32) (hb : mb_ok s) : jj_Ev G m7_beside 2 [.ref 28, .int x, .int y] (jj_m s) 0 0 (some (.int (if vF x ∧ vS y then nI (jb_s (jn x) (jn y)) else -2))) (jj_m s) := by
  refine jj_Ev_of (lo := [some (.ref 28), some (.int x), some (.int y)]) (by decide +kernel) (Nat.le_of_ble_eq_true rfl) rfl (by trivial) ?_
  by_cases hx : vF x
  · obtain ⟨f, hf, rfl⟩ := vF_n hx
    by_cases hy : vS y
    · obtain ⟨g, hg, rfl⟩ := vS_n hy
      rw [if_pos ⟨hx, hy⟩, jn_n (by omega), jn_n (by omega)]
      refine jj_iload_n dX7_beside_0 rfl ?_
      refine jj_callS (M2 := m7_isField) dX7_beside_1 ml7_169 tm7_isField (ev7_isField_v hf) rfl rfl (by omega) (Nat.le_of_ble_eq_true rfl) ?_
      refine jj_if_eq (tgt := 27) dX7_beside_4 (by decide) (fun zz => absurd zz (by decide)) (fun _ => ?_)
      refine jj_iload_n dX7_beside_7 rfl ?_
      refine jj_callS (M2 := m7_isSide) dX7_beside_8 ml7_172 tm7_isSide (ev7_isSide_v hg) rfl rfl (by omega) (Nat.le_of_ble_eq_true rfl) ?_
      refine jj_if_eq (tgt := 27) dX7_beside_11 (by decide) (fun zz => absurd zz (by decide)) (fun _ => ?_)
      refine jj_aload_n dX7_beside_14 rfl ?_
      refine jj_getf dX7_beside_15 fl7_7 rfl rfl ?_
      refine jj_iconst (v := nI 5) dX7_beside_18 (by decide) ?_
      refine jj_iload_n dX7_beside_19 rfl ?_
      refine jj_imul dX7_beside_20 (j4_mul 5 f) ?_
      refine jj_iload_n dX7_beside_21 rfl ?_
      refine jj_iadd dX7_beside_22 (nI_add (5 * f) g) ?_
      refine jv_iald dX7_beside_23 rfl (by omega) (by decide) ?_
      rw [hb f hf g hg]
      refine jj_goto (tgt := 29) dX7_beside_24 (by decide) ?_
      exact jj_leaf dX7_beside_29 rfl rfl
    · rw [if_neg fun z => hy z.2]
      refine jj_iload_n dX7_beside_0 rfl ?_
      refine jj_callS (M2 := m7_isField) dX7_beside_1 ml7_169 tm7_isField (ev7_isField_v hf) rfl rfl (by omega) (Nat.le_of_ble_eq_true rfl) ?_
      refine jj_if_eq (tgt := 27) dX7_beside_4 (by decide) (fun zz => absurd zz (by decide)) (fun _ => ?_)
      refine jj_iload_n dX7_beside_7 rfl ?_
      refine jj_callS (M2 := m7_isSide) dX7_beside_8 ml7_172 tm7_isSide (ev7_isSide_b hy) rfl rfl (by omega) (Nat.le_of_ble_eq_true rfl) ?_
      refine jj_if_eq (tgt := 27) dX7_beside_11 (by decide) (fun _ => ?_) (fun zz => absurd rfl zz)
      refine jj_bipush (v := (-2)) dX7_beside_27 (by decide) ?_
      exact jj_leaf dX7_beside_29 rfl rfl
  · rw [if_neg fun z => hx z.1]
    refine jj_iload_n dX7_beside_0 rfl ?_
    refine jj_callS (M2 := m7_isField) dX7_beside_1 ml7_169 tm7_isField (ev7_isField_b hx) rfl rfl (by omega) (Nat.le_of_ble_eq_true rfl) ?_
    refine jj_if_eq (tgt := 27) dX7_beside_4 (by decide) (fun _ => ?_) (fun zz => absurd rfl zz)
    refine jj_bipush (v := (-2)) dX7_beside_27 (by decide) ?_
    exact jj_leaf dX7_beside_29 rfl rfl
set_option maxRecDepth 100000 in
set_option maxHeartbeats 4000000 in
theorem ev7_other {G : jj_G} {s : jj_S} (x : Int32) (hb : mb_ok s) : jj_Ev G m7_other 2 [.ref 28, .int x] (jj_m s) 0 0 (some (.int (if vF x then nI (jb_op (jn x)) else -2))) (jj_m s) := by
  refine jj_Ev_of (lo := [some (.ref 28), some (.int x), none, none]) (by decide +kernel) (Nat.le_of_ble_eq_true rfl) rfl (by trivial) ?_
  by_cases hx : vF x
  · obtain ⟨f, hf, rfl⟩ := vF_n hx
    rw [if_pos hx, jn_n (by omega), ← j7_ot_op f hf]
    have L : ∀ k, k ≤ 12 → jj_Go G m7_other 2 14 [some (.ref 28), some (.int (nI f)), some (.int (j7_ot f k)), some (.int (nI k))] [] (jj_m s) 0 0 (some (.int (j7_ot f 12))) (jj_m s) := by
      refine jj_up 12 (fun k hk ih => ?_) ?_
      · have hN := jb_far_lt f hf k hk
        rw [j7_ot] at ih
        refine jj_iload_n dX7_other_14 rfl ?_
        refine jj_bipush (v := 12) dX7_other_15 (by decide) ?_
        refine jj_icmp_ge (tgt := 42) dX7_other_17 (by decide) (fun zz => absurd zz (jb_ge hk (by decide))) (fun _ => ?_)
        refine jj_aload_n dX7_other_20 rfl ?_
        refine jj_iload_n dX7_other_21 rfl ?_
        refine jj_iload_n dX7_other_22 rfl ?_
        refine jj_callV (M2 := m7_farOf) dX7_other_23 ml7_178 tm7_farOf (ev7_farOf hb hf hk) rfl rfl rfl rfl rfl (by omega) (Nat.le_of_ble_eq_true rfl) ?_
        refine jj_iconst (v := 3) dX7_other_26 (by decide) ?_
        refine jj_icmp_ne (tgt := 34) dX7_other_27 (by decide) (fun c27 => ?_) (fun c27 => ?_)
        · refine jj_iload_n dX7_other_34 rfl ?_
          refine jj_istore_n dX7_other_35 rfl (by decide) rfl ?_
          refine jj_iinc dX7_other_36 rfl (jb_i k) (by decide) rfl ?_
          refine jj_goto (tgt := 14) dX7_other_39 (by decide) ?_
          first | (rw [if_pos ((jb_inj (by omega) (by decide)).mp c27)] at ih; exact ih) | (rw [if_neg fun q => c27 (by rw [q]; rfl)] at ih; exact ih)
        · refine jj_iload_n dX7_other_30 rfl ?_
          refine jj_goto (tgt := 35) dX7_other_31 (by decide) ?_
          refine jj_istore_n dX7_other_35 rfl (by decide) rfl ?_
          refine jj_iinc dX7_other_36 rfl (jb_i k) (by decide) rfl ?_
          refine jj_goto (tgt := 14) dX7_other_39 (by decide) ?_
          first | (rw [if_pos ((jb_inj (by omega) (by decide)).mp c27)] at ih; exact ih) | (rw [if_neg fun q => c27 (by rw [q]; rfl)] at ih; exact ih)
      · refine jj_iload_n dX7_other_14 rfl ?_
        refine jj_bipush (v := 12) dX7_other_15 (by decide) ?_
        refine jj_icmp_ge (tgt := 42) dX7_other_17 (by decide) (fun _ => ?_) (fun zz => absurd (jb_ge' (n := 12) (by decide)) zz)
        refine jj_iload_n dX7_other_42 rfl ?_
        exact jj_leaf dX7_other_43 rfl rfl
    refine jj_iload_n dX7_other_0 rfl ?_
    refine jj_callS (M2 := m7_isField) dX7_other_1 ml7_169 tm7_isField (ev7_isField_v hf) rfl rfl (by omega) (Nat.le_of_ble_eq_true rfl) ?_
    refine jj_if_ne (tgt := 10) dX7_other_4 (by decide) (fun _ => ?_) (fun zz => absurd zz (by decide))
    refine jj_iconst (v := (-1)) dX7_other_10 (by decide) ?_
    refine jj_istore_n dX7_other_11 rfl (by decide) rfl ?_
    refine jj_iconst (v := 0) dX7_other_12 (by decide) ?_
    refine jj_istore_n dX7_other_13 rfl (by decide) rfl ?_
    exact L 0 (by decide)
  · rw [if_neg hx]
    refine jj_iload_n dX7_other_0 rfl ?_
    refine jj_callS (M2 := m7_isField) dX7_other_1 ml7_169 tm7_isField (ev7_isField_b hx) rfl rfl (by omega) (Nat.le_of_ble_eq_true rfl) ?_
    refine jj_if_ne (tgt := 10) dX7_other_4 (by decide) (fun zz => absurd rfl zz) (fun _ => ?_)
    refine jj_bipush (v := (-2)) dX7_other_7 (by decide) ?_
    exact jj_leaf dX7_other_9 rfl rfl
