/-! THE BALL: Math's functions, the bits of a number, the table -/
theorem jb_outL {x : Int32} {n : Int32} (h : x < 0) : ¬ (0 ≤ x ∧ x < n) := fun q => absurd h (Int32.not_lt.mpr q.1)
theorem jb_outR {x : Int32} {n : Int32} (h : n ≤ x) : ¬ (0 ≤ x ∧ x < n) := fun q => absurd q.2 (Int32.not_lt.mpr h)
theorem jb_ins {x : Int32} {n : Int32} (h1 : ¬ x < 0) (h2 : ¬ n ≤ x) : 0 ≤ x ∧ x < n := ⟨Int32.not_lt.mp h1, Int32.not_le.mp h2⟩
theorem jb_insN {k n : Nat} (h : k < n) (hn : n < 2 ^ 31) : 0 ≤ nI k ∧ nI k < (OfNat.ofNat n : Int32) := ⟨nI_pos' (by omega), nI_lt h hn⟩
def jb_s (f s : Nat) : Nat := ([1, 2, 3, 4, 5, 0, 5, 10, 6, 2, 0, 1, 6, 7, 3, 0, 2, 7, 8, 4, 0, 3, 8, 9, 5, 0, 4, 9, 10, 1, 1, 10, 11, 7, 2, 2, 6, 11, 8, 3, 3, 7, 11, 9, 4, 4, 8, 11, 10, 5, 5, 9, 11, 6, 1, 10, 9, 8, 7, 6] : List Nat).getD (5 * f + s) 0
theorem jb_s_in : ∀ f, f < 12 → ∀ s, s < 5 → ¬ ((nI f * 5 + nI s) < 0 ∨ 60 ≤ (nI f * 5 + nI s).toNatClampNeg) := by decide +kernel
theorem jb_s_at : ∀ f, f < 12 → ∀ s, s < 5 → jj_sewn.getD (nI f * 5 + nI s).toNatClampNeg 0 = nI (jb_s f s) := by decide +kernel
theorem jb_s_lt : ∀ f, f < 12 → ∀ s, s < 5 → jb_s f s < 12 := by decide +kernel
set_option maxRecDepth 100000 in
set_option maxHeartbeats 4000000 in
theorem ev0_isField {G : jj_G} {h : List jj_C} (x : Int32) : jj_Ev G m0_isField 0 [.int x] (h) 0 0 (some (.int (jb_b (0 ≤ x ∧ x < 12)))) (h) := by
  refine jj_Ev_of (lo := [some (.int x)]) (by decide +kernel) (Nat.le_of_ble_eq_true rfl) rfl (jb_b01 _) ?_
  refine jj_iload_n dX0_isField_0 rfl ?_
  refine jj_if_lt (tgt := 14) dX0_isField_1 (by decide) (fun c1 => ?_) (fun c1 => ?_)
  · refine jj_iconst (v := 0) dX0_isField_14 (by decide) ?_
    exact jj_leaf dX0_isField_15 (by rw [jb_bf (jb_outL c1)]; rfl) rfl
  · refine jj_iload_n dX0_isField_4 rfl ?_
    refine jj_bipush (v := 12) dX0_isField_5 (by decide) ?_
    refine jj_icmp_ge (tgt := 14) dX0_isField_7 (by decide) (fun c7 => ?_) (fun c7 => ?_)
    · refine jj_iconst (v := 0) dX0_isField_14 (by decide) ?_
      exact jj_leaf dX0_isField_15 (by rw [jb_bf (jb_outR c7)]; rfl) rfl
    · refine jj_iconst (v := 1) dX0_isField_10 (by decide) ?_
      refine jj_goto (tgt := 15) dX0_isField_11 (by decide) ?_
      exact jj_leaf dX0_isField_15 (by rw [jb_bt (jb_ins c1 c7)]; rfl) rfl
theorem ev0_isField_v {G : jj_G} {h : List jj_C} {k : Nat} (hk : k < 12) : jj_Ev G m0_isField 0 [.int (nI k)] (h) 0 0 (some (.int 1)) (h) := by
  have := ev0_isField (G := G) (h := h) (nI k)
  rwa [jb_bt (jb_insN hk (by decide))] at this
set_option maxRecDepth 100000 in
set_option maxHeartbeats 4000000 in
theorem ev0_isSide {G : jj_G} {h : List jj_C} (x : Int32) : jj_Ev G m0_isSide 0 [.int x] (h) 0 0 (some (.int (jb_b (0 ≤ x ∧ x < 5)))) (h) := by
  refine jj_Ev_of (lo := [some (.int x)]) (by decide +kernel) (Nat.le_of_ble_eq_true rfl) rfl (jb_b01 _) ?_
  refine jj_iload_n dX0_isSide_0 rfl ?_
  refine jj_if_lt (tgt := 13) dX0_isSide_1 (by decide) (fun c1 => ?_) (fun c1 => ?_)
  · refine jj_iconst (v := 0) dX0_isSide_13 (by decide) ?_
    exact jj_leaf dX0_isSide_14 (by rw [jb_bf (jb_outL c1)]; rfl) rfl
  · refine jj_iload_n dX0_isSide_4 rfl ?_
    refine jj_iconst (v := 5) dX0_isSide_5 (by decide) ?_
    refine jj_icmp_ge (tgt := 13) dX0_isSide_6 (by decide) (fun c6 => ?_) (fun c6 => ?_)
    · refine jj_iconst (v := 0) dX0_isSide_13 (by decide) ?_
      exact jj_leaf dX0_isSide_14 (by rw [jb_bf (jb_outR c6)]; rfl) rfl
    · refine jj_iconst (v := 1) dX0_isSide_9 (by decide) ?_
      refine jj_goto (tgt := 14) dX0_isSide_10 (by decide) ?_
      exact jj_leaf dX0_isSide_14 (by rw [jb_bt (jb_ins c1 c6)]; rfl) rfl
theorem ev0_isSide_v {G : jj_G} {h : List jj_C} {k : Nat} (hk : k < 5) : jj_Ev G m0_isSide 0 [.int (nI k)] (h) 0 0 (some (.int 1)) (h) := by
  have := ev0_isSide (G := G) (h := h) (nI k)
  rwa [jb_bt (jb_insN hk (by decide))] at this
set_option maxRecDepth 100000 in
set_option maxHeartbeats 4000000 in
theorem ev0_holds {G : jj_G} {h : List jj_C} {a k : Nat} (ha : a < 2 ^ 31) (hk : k < 12) : jj_Ev G m0_holds 1 [.int (nI a), .int (nI k)] (h) 0 0 (some (.int (jb_b (a.testBit k = true)))) (h) := by
  refine jj_Ev_of (lo := [some (.int (nI a)), some (.int (nI k))]) (by decide +kernel) (Nat.le_of_ble_eq_true rfl) rfl (jb_b01 _) ?_
  refine jj_iload_n dX0_holds_0 rfl ?_
  refine jj_callS (M2 := m0_isField) dX0_holds_1 ml0_9 tm0_isField (ev0_isField_v hk) rfl rfl (by omega) (Nat.le_of_ble_eq_true rfl) ?_
  refine jj_if_eq (tgt := 19) dX0_holds_4 (by decide) (fun zz => absurd zz (by decide)) (fun _ => ?_)
  refine jj_iload_n dX0_holds_7 rfl ?_
  refine jj_iload_n dX0_holds_8 rfl ?_
  refine jj_ishr dX0_holds_9 rfl ?_
  refine jj_iconst (v := 1) dX0_holds_10 (by decide) ?_
  refine jj_iand dX0_holds_11 (jb_sh ha (by omega)) ?_
  refine jj_if_eq (tgt := 19) dX0_holds_12 (by decide) (fun c12 => ?_) (fun c12 => ?_)
  · refine jj_iconst (v := 0) dX0_holds_19 (by decide) ?_
    exact jj_leaf dX0_holds_20 (by rw [c12]; rfl) rfl
  · refine jj_iconst (v := 1) dX0_holds_15 (by decide) ?_
    refine jj_goto (tgt := 20) dX0_holds_16 (by decide) ?_
    exact jj_leaf dX0_holds_20 (by rw [jb_bt (jb_b1 c12)]; rfl) rfl
theorem jb_xor0 {a b : Nat} (ha : a < 2 ^ 31) (hb : b < 2 ^ 31) : 0 ≤ nI a ^^^ nI b := by
  have e : nI a ^^^ nI b = nI (a ^^^ b) := by
    apply b_ext
    intro i hi
    rw [b_xor, jb_nb _ _ hi, jb_nb _ _ hi, jb_nb _ _ hi, Nat.testBit_xor]
  rw [e]
  exact nI_pos' (Nat.xor_lt_two_pow ha hb)
set_option maxRecDepth 100000 in
set_option maxHeartbeats 4000000 in
theorem evJ9_floorMod {G : jj_G} {h : List jj_C} {a b : Nat} (ha : a < 2 ^ 31) (hb0 : 0 < b) (hb : b < 2 ^ 31) : jj_Ev G mJ9_floorMod 0 [.int (nI a), .int (nI b)] (h) 0 0 (some (.int (nI (a % b)))) (h) := by
  refine jj_Ev_of (lo := [some (.int (nI a)), some (.int (nI b)), none]) (by decide +kernel) (Nat.le_of_ble_eq_true rfl) rfl (by trivial) ?_
  refine jj_iload_n dJ9_floorMod_7cf53_0 rfl ?_
  refine jj_iload_n dJ9_floorMod_7cf53_1 rfl ?_
  refine jj_irem dJ9_floorMod_7cf53_2 (nI_ne0 hb0 hb) (pk_rem ha hb0 hb) ?_
  refine jj_istore_n dJ9_floorMod_7cf53_3 rfl (by decide) rfl ?_
  refine jj_iload_n dJ9_floorMod_7cf53_4 rfl ?_
  refine jj_iload_n dJ9_floorMod_7cf53_5 rfl ?_
  refine jj_ixor dJ9_floorMod_7cf53_6 rfl ?_
  refine jj_if_ge (tgt := 18) dJ9_floorMod_7cf53_7 (by decide) (fun _ => ?_) (fun zz => absurd (jb_xor0 ha hb) zz)
  refine jj_iload_n dJ9_floorMod_7cf53_18 rfl ?_
  exact jj_leaf dJ9_floorMod_7cf53_19 (by first | rfl | simp_all) rfl
set_option maxRecDepth 100000 in
set_option maxHeartbeats 4000000 in
theorem ev0_on {G : jj_G} {h : List jj_C} {s t : Nat} (hs : s < 5) (ht : t < 5) : jj_Ev G m0_on 1 [.int (nI s), .int (nI t)] (h) 0 0 (some (.int (nI ((s + t) % 5)))) (h) := by
  refine jj_Ev_of (lo := [some (.int (nI s)), some (.int (nI t))]) (by decide +kernel) (Nat.le_of_ble_eq_true rfl) rfl (by trivial) ?_
  refine jj_iload_n dX0_on_0 rfl ?_
  refine jj_iload_n dX0_on_1 rfl ?_
  refine jj_iadd dX0_on_2 (show nI s + nI t = nI (s + t) from nI_add s t) ?_
  refine jj_iconst (v := 5) dX0_on_3 (by decide) ?_
  refine jj_callS (M2 := mJ9_floorMod) dX0_on_4 ml0_15 tmJ9_floorMod (evJ9_floorMod (a := s + t) (b := 5) (by omega) (by decide) (by decide)) rfl rfl (by omega) (Nat.le_of_ble_eq_true rfl) ?_
  exact jj_leaf dX0_on_7 (by first | rfl | simp_all) rfl
set_option maxRecDepth 100000 in
set_option maxHeartbeats 4000000 in
theorem ev0_across {G : jj_G} {h : List jj_C} {f s : Nat} (hf : f < 12) (hs : s < 5) : jj_Ev G m0_across 1 [.int (nI f), .int (nI s)] (h) 0 0 (some (.int (nI (jb_s f s)))) (h) := by
  refine jj_Ev_of (lo := [some (.int (nI f)), some (.int (nI s))]) (by decide +kernel) (Nat.le_of_ble_eq_true rfl) rfl (by trivial) ?_
  refine jj_iload_n dX0_across_0 rfl ?_
  refine jj_callS (M2 := m0_isField) dX0_across_1 ml0_9 tm0_isField (ev0_isField_v hf) rfl rfl (by omega) (Nat.le_of_ble_eq_true rfl) ?_
  refine jj_if_eq (tgt := 14) dX0_across_4 (by decide) (fun zz => absurd zz (by decide)) (fun _ => ?_)
  refine jj_iload_n dX0_across_7 rfl ?_
  refine jj_callS (M2 := m0_isSide) dX0_across_8 ml0_21 tm0_isSide (ev0_isSide_v hs) rfl rfl (by omega) (Nat.le_of_ble_eq_true rfl) ?_
  refine jj_if_ne (tgt := 17) dX0_across_11 (by decide) (fun _ => ?_) (fun zz => absurd zz (by decide))
  refine jj_gsewn dX0_across_17 fs0_24 ?_
  refine jj_iload_n dX0_across_20 rfl ?_
  refine jj_iconst (v := 5) dX0_across_21 (by decide) ?_
  refine jj_imul dX0_across_22 rfl ?_
  refine jj_iload_n dX0_across_23 rfl ?_
  refine jj_iadd dX0_across_24 rfl ?_
  refine jj_sewnld dX0_across_25 (jb_s_in f hf s hs) (jb_s_at f hf s hs) ?_
  exact jj_leaf dX0_across_26 (by first | rfl | simp_all) rfl
set_option maxRecDepth 100000 in
set_option maxHeartbeats 4000000 in
theorem ev0_across_b {G : jj_G} {h : List jj_C} (x y : Int32) (hb : ¬ ((0 ≤ x ∧ x < 12) ∧ (0 ≤ y ∧ y < 5))) : jj_Ev G m0_across 1 [.int x, .int y] (h) 0 0 (some (.int (-2))) (h) := by
  refine jj_Ev_of (lo := [some (.int x), some (.int y)]) (by decide +kernel) (Nat.le_of_ble_eq_true rfl) rfl (by trivial) ?_
  refine jj_iload_n dX0_across_0 rfl ?_
  refine jj_callS (M2 := m0_isField) dX0_across_1 ml0_9 tm0_isField (ev0_isField x) rfl rfl (by omega) (Nat.le_of_ble_eq_true rfl) ?_
  refine jj_if_eq (tgt := 14) dX0_across_4 (by decide) (fun c4 => ?_) (fun c4 => ?_)
  · refine jj_bipush (v := (-2)) dX0_across_14 (by decide) ?_
    exact jj_leaf dX0_across_16 rfl rfl
  · refine jj_iload_n dX0_across_7 rfl ?_
    refine jj_callS (M2 := m0_isSide) dX0_across_8 ml0_21 tm0_isSide (ev0_isSide y) rfl rfl (by omega) (Nat.le_of_ble_eq_true rfl) ?_
    refine jj_if_ne (tgt := 17) dX0_across_11 (by decide) (fun c11 => ?_) (fun c11 => ?_)
    · refine jj_gsewn dX0_across_17 fs0_24 ?_
      refine jj_iload_n dX0_across_20 rfl ?_
      refine jj_iconst (v := 5) dX0_across_21 (by decide) ?_
      refine jj_imul dX0_across_22 rfl ?_
      refine jj_iload_n dX0_across_23 rfl ?_
      refine jj_iadd dX0_across_24 rfl ?_
      exact absurd (And.intro (jb_b1 c4) (jb_b1 c11)) hb
    · refine jj_bipush (v := (-2)) dX0_across_14 (by decide) ?_
      exact jj_leaf dX0_across_16 rfl rfl
