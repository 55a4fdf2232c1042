/-! THE MODEL: walks, odds, counts, a field told -/
theorem j7_r20 : ∀ n, n < 21 → (0 : Int32) ≤ nI n ∧ nI n ≤ 20 := by decide +kernel
theorem j7_r8 : ∀ n, n < 9 → (0 : Int32) ≤ nI n ∧ nI n ≤ 8 := by decide +kernel
def j2_ge : Nat → Int64 → Int64 → Option Int64
  | 0, a, b => if b ≤ 0 then some a else none
  | m + 1, a, b => if b ≤ 0 then some a else j2_ge m b (a - a / b * b)
theorem j7_cmp {a b : Int64} : (lg_cmp a b ≤ 0) ↔ a ≤ b := by
  unfold lg_cmp
  split
  · next h => exact ⟨fun q => absurd q (by decide), fun q => absurd q (Int64.not_le.mpr h)⟩
  · next h => exact ⟨fun _ => Int64.not_lt.mp h, fun _ => by split <;> decide⟩
def j7_kc (kd : Nat → Int32) (x : Int32) : Nat → Nat
  | 0 => 0
  | k + 1 => j7_kc kd x k + (if kd k = x then 1 else 0)
def j7_wc (wl : Nat → Nat → Bool) : Nat → Nat
  | 0 => 0
  | k + 1 => j7_wc wl k + (if wl (k / 5) (k % 5) = true then 1 else 0)
theorem j7_wc_le (wl : Nat → Nat → Bool) : ∀ k, j7_wc wl k ≤ k := by
  intro k
  induction k with
  | zero => exact Nat.le_refl 0
  | succ k ih => unfold j7_wc; split <;> omega
def j7_ts (T : Nat → Int32) : Nat → Int32
  | 0 => 0
  | k + 1 => j7_ts T k + T k
def j7_ni (o : Nat → Nat) : Nat → Nat
  | 0 => 0
  | k + 1 => j7_ni o k + (if j7_in o k 12 &&& (2 ^ k - 1) = 0 then 1 else 0)
def j7_sw (wl : Nat → Nat → Bool) (f : Nat) : Nat → Nat
  | 0 => 0
  | k + 1 => if wl f k = true then j7_sw wl f k ||| 2 ^ k else j7_sw wl f k
def j7_is (n k : Nat) : Bool := k == 0 || (if k = 1 then n == 1 || n == 2 else n == k - 1)
def j7_tF (s : jj_S) (wl : Nat → Nat → Bool) (kn : Nat → Nat) (f : Nat) : Int32 := j7_tx (kn f) (j7_ct (j7_o wl f) (mo_kind s) 3 12) (j7_ct (j7_o wl f) (mo_kind s) 1 12)
theorem j7_b1 : ∀ k, k < 12 → nI (2 ^ k) - 1 = nI (2 ^ k - 1) := by decide +kernel
set_option maxRecDepth 100000 in
set_option maxHeartbeats 1500000 in
theorem ev7_walks_b {G : jj_G} {s : jj_S} {x y z : Int32} (h : ¬ (vF x ∧ vF y)) : jj_Ev G m7_walks 2 [.ref 28, .int x, .int y, .int z] (jj_m s) 0 0 (some (.long (-2))) (jj_m s) := by
  refine jj_Ev_of (lo := [some (.ref 28), some (.int x), some (.int y), some (.int z)]) (by decide +kernel) (Nat.le_of_ble_eq_true rfl) rfl (by trivial) ?_
  by_cases hx : vF x
  · have hy : ¬ vF y := fun hy => h ⟨hx, hy⟩
    refine jj_iload_n dX7_walks_0 rfl ?_
    refine jj_callS (M2 := m7_isField) dX7_walks_1 ml7_169 tm7_isField (ev7_isField x) rfl rfl (by omega) (Nat.le_of_ble_eq_true rfl) ?_
    refine jj_if_eq (tgt := 14) dX7_walks_4 (by decide) (fun zz => absurd zz (by rw [jb_bt hx]; decide)) (fun _ => ?_)
    refine jj_iload_n dX7_walks_7 rfl ?_
    refine jj_callS (M2 := m7_isField) dX7_walks_8 ml7_169 tm7_isField (ev7_isField y) rfl rfl (by omega) (Nat.le_of_ble_eq_true rfl) ?_
    refine jj_if_ne (tgt := 18) dX7_walks_11 (by decide) (fun zz => absurd (jb_bf hy) zz) (fun _ => ?_)
    refine jj_ldc2 dX7_walks_14 kc7_87 ?_
    exact jj_leaf dX7_walks_17 rfl rfl
  · skip
    refine jj_iload_n dX7_walks_0 rfl ?_
    refine jj_callS (M2 := m7_isField) dX7_walks_1 ml7_169 tm7_isField (ev7_isField x) rfl rfl (by omega) (Nat.le_of_ble_eq_true rfl) ?_
    refine jj_if_eq (tgt := 14) dX7_walks_4 (by decide) (fun _ => ?_) (fun zz => absurd (jb_bf hx) zz)
    refine jj_ldc2 dX7_walks_14 kc7_87 ?_
    exact jj_leaf dX7_walks_17 rfl rfl
set_option maxRecDepth 100000 in
set_option maxHeartbeats 1500000 in
theorem ev7_walks_c {G : jj_G} {s : jj_S} {x y : Nat} {z : Int32} (hx : x < 12) (hy : y < 12) (hz : ¬ (0 ≤ z ∧ z ≤ 20)) : jj_Ev G m7_walks 2 [.ref 28, .int (nI x), .int (nI y), .int z] (jj_m s) 0 0 (some (.long (-3))) (jj_m s) := by
  refine jj_Ev_of (lo := [some (.ref 28), some (.int (nI x)), some (.int (nI y)), some (.int z)]) (by decide +kernel) (Nat.le_of_ble_eq_true rfl) rfl (by trivial) ?_
  refine jj_iload_n dX7_walks_0 rfl ?_
  refine jj_callS (M2 := m7_isField) dX7_walks_1 ml7_169 tm7_isField (ev7_isField_v hx) rfl rfl (by omega) (Nat.le_of_ble_eq_true rfl) ?_
  refine jj_if_eq (tgt := 14) dX7_walks_4 (by decide) (fun zz => absurd zz (by decide)) (fun _ => ?_)
  refine jj_iload_n dX7_walks_7 rfl ?_
  refine jj_callS (M2 := m7_isField) dX7_walks_8 ml7_169 tm7_isField (ev7_isField_v hy) rfl rfl (by omega) (Nat.le_of_ble_eq_true rfl) ?_
  refine jj_if_ne (tgt := 18) dX7_walks_11 (by decide) (fun _ => ?_) (fun zz => absurd zz (by decide))
  refine jj_iload_n dX7_walks_18 rfl ?_
  refine jj_iconst (v := 0) dX7_walks_19 (by decide) ?_
  refine jj_bipush (v := 20) dX7_walks_20 (by decide) ?_
  refine jj_callS (M2 := m7_in) dX7_walks_22 ml7_65 tm7_in (ev7_in z 0 20) rfl rfl (by omega) (Nat.le_of_ble_eq_true rfl) ?_
  refine jj_if_ne (tgt := 32) dX7_walks_25 (by decide) (fun zz => absurd (jb_bf hz) zz) (fun _ => ?_)
  refine jj_ldc2 dX7_walks_28 kc7_101 ?_
  exact jj_leaf dX7_walks_31 rfl rfl
set_option maxRecDepth 100000 in
set_option maxHeartbeats 1500000 in
theorem ev7_walks {G : jj_G} {s : jj_S} {wl : Nat → Nat → Bool} {x y n : Nat} (hb : mb_ok s) (hw : mw_ok s wl) (hx : x < 12) (hy : y < 12) (hn : n < 21) : jj_Ev G m7_walks 2 [.ref 28, .int (nI x), .int (nI y), .int (nI n)] (jj_m s) 0 0 (some (.long ((j7_wk (j7_o wl) (fun _ v => v) (j7_so s x) n).1 y))) (jj_m (j7_sN s (j7_wk (j7_o wl) (fun _ v => v) (j7_so s x) n))) := by
  refine jj_Ev_of (lo := [some (.ref 28), some (.int (nI x)), some (.int (nI y)), some (.int (nI n))]) (by decide +kernel) (Nat.le_of_ble_eq_true rfl) rfl (by trivial) ?_
  have hs := ev7_spread_0 (G := G) (n := n) hb hw hx (by omega)
  generalize j7_wk (j7_o wl) (fun _ v => v) (j7_so s x) n = E at hs ⊢
  refine jj_iload_n dX7_walks_0 rfl ?_
  refine jj_callS (M2 := m7_isField) dX7_walks_1 ml7_169 tm7_isField (ev7_isField_v hx) rfl rfl (by omega) (Nat.le_of_ble_eq_true rfl) ?_
  refine jj_if_eq (tgt := 14) dX7_walks_4 (by decide) (fun zz => absurd zz (by decide)) (fun _ => ?_)
  refine jj_iload_n dX7_walks_7 rfl ?_
  refine jj_callS (M2 := m7_isField) dX7_walks_8 ml7_169 tm7_isField (ev7_isField_v hy) rfl rfl (by omega) (Nat.le_of_ble_eq_true rfl) ?_
  refine jj_if_ne (tgt := 18) dX7_walks_11 (by decide) (fun _ => ?_) (fun zz => absurd zz (by decide))
  refine jj_iload_n dX7_walks_18 rfl ?_
  refine jj_iconst (v := 0) dX7_walks_19 (by decide) ?_
  refine jj_bipush (v := 20) dX7_walks_20 (by decide) ?_
  refine jj_callS (M2 := m7_in) dX7_walks_22 ml7_65 tm7_in (ev7_in (nI n) 0 20) rfl rfl (by omega) (Nat.le_of_ble_eq_true rfl) ?_
  refine jj_if_ne (tgt := 32) dX7_walks_25 (by decide) (fun _ => ?_) (fun zz => absurd zz (by rw [jb_bt (j7_r20 n hn)]; decide))
  refine jj_aload_n dX7_walks_32 rfl ?_
  refine jj_iload_n dX7_walks_33 rfl ?_
  refine jj_iload_n dX7_walks_34 rfl ?_
  refine jj_iconst (v := 0) dX7_walks_35 (by decide) ?_
  refine jj_callV (M2 := m7_spread) dX7_walks_36 ml7_210 tm7_spread (hs) rfl rfl rfl rfl rfl (by omega) (Nat.le_of_ble_eq_true rfl) ?_
  refine jj_aload_n dX7_walks_39 rfl ?_
  refine jj_getf dX7_walks_40 fl7_44 rfl rfl ?_
  refine jj_iload_n dX7_walks_43 rfl ?_
  refine jv_lald dX7_walks_44 rfl (hy) (by decide) ?_
  exact jj_leaf dX7_walks_45 rfl rfl
set_option maxRecDepth 100000 in
set_option maxHeartbeats 1500000 in
theorem ev7_odds_b {G : jj_G} {s : jj_S} {x y z q : Int32} (h : ¬ (vF x ∧ vF y)) : jj_Ev G m7_odds 2 [.ref 28, .int x, .int y, .int z, .int q] (jj_m s) 0 0 (some (.long (-2))) (jj_m s) := by
  refine jj_Ev_of (lo := [some (.ref 28), some (.int x), some (.int y), some (.int z), some (.int q), none, none, none, none, none, none, none, none]) (by decide +kernel) (Nat.le_of_ble_eq_true rfl) rfl (by trivial) ?_
  by_cases hx : vF x
  · have hy : ¬ vF y := fun hy => h ⟨hx, hy⟩
    refine jj_iload_n dX7_odds_0 rfl ?_
    refine jj_callS (M2 := m7_isField) dX7_odds_1 ml7_169 tm7_isField (ev7_isField x) rfl rfl (by omega) (Nat.le_of_ble_eq_true rfl) ?_
    refine jj_if_eq (tgt := 14) dX7_odds_4 (by decide) (fun zz => absurd zz (by rw [jb_bt hx]; decide)) (fun _ => ?_)
    refine jj_iload_n dX7_odds_7 rfl ?_
    refine jj_callS (M2 := m7_isField) dX7_odds_8 ml7_169 tm7_isField (ev7_isField y) rfl rfl (by omega) (Nat.le_of_ble_eq_true rfl) ?_
    refine jj_if_ne (tgt := 18) dX7_odds_11 (by decide) (fun zz => absurd (jb_bf hy) zz) (fun _ => ?_)
    refine jj_ldc2 dX7_odds_14 kc7_87 ?_
    exact jj_leaf dX7_odds_17 rfl rfl
  · skip
    refine jj_iload_n dX7_odds_0 rfl ?_
    refine jj_callS (M2 := m7_isField) dX7_odds_1 ml7_169 tm7_isField (ev7_isField x) rfl rfl (by omega) (Nat.le_of_ble_eq_true rfl) ?_
    refine jj_if_eq (tgt := 14) dX7_odds_4 (by decide) (fun _ => ?_) (fun zz => absurd (jb_bf hx) zz)
    refine jj_ldc2 dX7_odds_14 kc7_87 ?_
    exact jj_leaf dX7_odds_17 rfl rfl
set_option maxRecDepth 100000 in
set_option maxHeartbeats 1500000 in
theorem ev7_odds_c {G : jj_G} {s : jj_S} {x y : Nat} {z q : Int32} (hx : x < 12) (hy : y < 12) (h : ¬ ((0 ≤ z ∧ z ≤ 8) ∧ v01 q)) : jj_Ev G m7_odds 2 [.ref 28, .int (nI x), .int (nI y), .int z, .int q] (jj_m s) 0 0 (some (.long (-3))) (jj_m s) := by
  refine jj_Ev_of (lo := [some (.ref 28), some (.int (nI x)), some (.int (nI y)), some (.int z), some (.int q), none, none, none, none, none, none, none, none]) (by decide +kernel) (Nat.le_of_ble_eq_true rfl) rfl (by trivial) ?_
  by_cases hz : 0 ≤ z ∧ z ≤ 8
  · have hq : ¬ v01 q := fun hq => h ⟨hz, hq⟩
    refine jj_iload_n dX7_odds_0 rfl ?_
    refine jj_callS (M2 := m7_isField) dX7_odds_1 ml7_169 tm7_isField (ev7_isField_v hx) rfl rfl (by omega) (Nat.le_of_ble_eq_true rfl) ?_
    refine jj_if_eq (tgt := 14) dX7_odds_4 (by decide) (fun zz => absurd zz (by decide)) (fun _ => ?_)
    refine jj_iload_n dX7_odds_7 rfl ?_
    refine jj_callS (M2 := m7_isField) dX7_odds_8 ml7_169 tm7_isField (ev7_isField_v hy) rfl rfl (by omega) (Nat.le_of_ble_eq_true rfl) ?_
    refine jj_if_ne (tgt := 18) dX7_odds_11 (by decide) (fun _ => ?_) (fun zz => absurd zz (by decide))
    refine jj_iload_n dX7_odds_18 rfl ?_
    refine jj_iconst (v := 0) dX7_odds_19 (by decide) ?_
    refine jj_bipush (v := 8) dX7_odds_20 (by decide) ?_
    refine jj_callS (M2 := m7_in) dX7_odds_22 ml7_65 tm7_in (ev7_in z 0 8) rfl rfl (by omega) (Nat.le_of_ble_eq_true rfl) ?_
    refine jj_if_eq (tgt := 38) dX7_odds_25 (by decide) (fun zz => absurd zz (by rw [jb_bt hz]; decide)) (fun _ => ?_)
    refine jj_iload dX7_odds_28 rfl ?_
    refine jj_iconst (v := 0) dX7_odds_30 (by decide) ?_
    refine jj_iconst (v := 1) dX7_odds_31 (by decide) ?_
    refine jj_callS (M2 := m7_in) dX7_odds_32 ml7_65 tm7_in (ev7_in q 0 1) rfl rfl (by omega) (Nat.le_of_ble_eq_true rfl) ?_
    refine jj_if_ne (tgt := 42) dX7_odds_35 (by decide) (fun zz => absurd (jb_bf hq) zz) (fun _ => ?_)
    refine jj_ldc2 dX7_odds_38 kc7_101 ?_
    exact jj_leaf dX7_odds_41 rfl rfl
  · skip
    refine jj_iload_n dX7_odds_0 rfl ?_
    refine jj_callS (M2 := m7_isField) dX7_odds_1 ml7_169 tm7_isField (ev7_isField_v hx) rfl rfl (by omega) (Nat.le_of_ble_eq_true rfl) ?_
    refine jj_if_eq (tgt := 14) dX7_odds_4 (by decide) (fun zz => absurd zz (by decide)) (fun _ => ?_)
    refine jj_iload_n dX7_odds_7 rfl ?_
    refine jj_callS (M2 := m7_isField) dX7_odds_8 ml7_169 tm7_isField (ev7_isField_v hy) rfl rfl (by omega) (Nat.le_of_ble_eq_true rfl) ?_
    refine jj_if_ne (tgt := 18) dX7_odds_11 (by decide) (fun _ => ?_) (fun zz => absurd zz (by decide))
    refine jj_iload_n dX7_odds_18 rfl ?_
    refine jj_iconst (v := 0) dX7_odds_19 (by decide) ?_
    refine jj_bipush (v := 8) dX7_odds_20 (by decide) ?_
    refine jj_callS (M2 := m7_in) dX7_odds_22 ml7_65 tm7_in (ev7_in z 0 8) rfl rfl (by omega) (Nat.le_of_ble_eq_true rfl) ?_
    refine jj_if_eq (tgt := 38) dX7_odds_25 (by decide) (fun _ => ?_) (fun zz => absurd (jb_bf hz) zz)
    refine jj_ldc2 dX7_odds_38 kc7_101 ?_
    exact jj_leaf dX7_odds_41 rfl rfl
set_option maxRecDepth 100000 in
set_option maxHeartbeats 1500000 in
theorem ev7_odds {G : jj_G} {s : jj_S} {wl : Nat → Nat → Bool} {x y n : Nat} {q : Int32} {c : Int64} (hb : mb_ok s) (hw : mw_ok s wl) (hx : x < 12) (hy : y < 12) (hn : n < 9) (hq : v01 q) (hc : j2_ge 200 ((j7_wk (j2_gl (j7_o wl)) (j7_sv1 (j7_o wl)) (j7_so s x) n).1 y) (j2_bl n) = some c) (hc0 : ¬ c = 0) : jj_Ev G m7_odds 2 [.ref 28, .int (nI x), .int (nI y), .int (nI n), .int q] (jj_m s) 0 0 (some (.long (if q = 0 then (j7_wk (j2_gl (j7_o wl)) (j7_sv1 (j7_o wl)) (j7_so s x) n).1 y / c else j2_bl n / c))) (jj_m (j7_sN s (j7_wk (j2_gl (j7_o wl)) (j7_sv1 (j7_o wl)) (j7_so s x) n))) := by
  refine jj_Ev_of (lo := [some (.ref 28), some (.int (nI x)), some (.int (nI y)), some (.int (nI n)), some (.int q), none, none, none, none, none, none, none, none]) (by decide +kernel) (Nat.le_of_ble_eq_true rfl) rfl (by trivial) ?_
  have hs := ev7_spread_1 (G := G) (n := n) hb hw hx (by omega)
  generalize j7_wk (j2_gl (j7_o wl)) (j7_sv1 (j7_o wl)) (j7_so s x) n = E at hs hc ⊢
  have LG : ∀ m a b, j2_ge m a b = some c → jj_Go G m7_odds 2 87 [some (.ref 28), some (.int (nI x)), some (.int (nI y)), some (.int (nI n)), some (.int q), some (.long (j2_bl n)), none, some (.long a), none, some (.long b), none, none, none] [] (jj_m (j7_sN s E)) 0 0 (some (.long (if q = 0 then E.1 y / c else j2_bl n / c))) (jj_m (j7_sN s E)) := by
    intro m
    have fin : jj_Go G m7_odds 2 112 [some (.ref 28), some (.int (nI x)), some (.int (nI y)), some (.int (nI n)), some (.int q), some (.long (j2_bl n)), none, some (.long c), none, none, none, none, none] [] (jj_m (j7_sN s E)) 0 0 (some (.long (if q = 0 then E.1 y / c else j2_bl n / c))) (jj_m (j7_sN s E)) := by
      by_cases z : q = 0
      · rw [if_pos z]
        refine jj_iload dX7_odds_112 rfl ?_
        refine jj_if_ne (tgt := 126) dX7_odds_114 (by decide) (fun zz => absurd z zz) (fun _ => ?_)
        refine jj_aload_n dX7_odds_117 rfl ?_
        refine jj_getf dX7_odds_118 fl7_44 rfl rfl ?_
        refine jj_iload_n dX7_odds_121 rfl ?_
        refine jv_lald dX7_odds_122 rfl (hy) (by decide) ?_
        refine jj_goto (tgt := 128) dX7_odds_123 (by decide) ?_
        refine jj_lload dX7_odds_128 rfl ?_
        refine jj_ldiv dX7_odds_130 hc0 rfl ?_
        exact jj_leaf dX7_odds_131 rfl rfl
      · rw [if_neg z]
        refine jj_iload dX7_odds_112 rfl ?_
        refine jj_if_ne (tgt := 126) dX7_odds_114 (by decide) (fun _ => ?_) (fun zz => absurd zz z)
        refine jj_lload dX7_odds_126 rfl ?_
        refine jj_lload dX7_odds_128 rfl ?_
        refine jj_ldiv dX7_odds_130 hc0 rfl ?_
        exact jj_leaf dX7_odds_131 rfl rfl
    induction m with
    | zero =>
      intro a b h
      unfold j2_ge at h
      by_cases z : b ≤ 0
      · rw [if_pos z] at h
        refine jj_lload dX7_odds_87 rfl ?_
        refine jj_lconst (v := 0) dX7_odds_89 (by decide) ?_
        refine jj_lcmp dX7_odds_90 rfl ?_
        refine jj_if_le (tgt := 112) dX7_odds_91 (by decide) (fun _ => ?_) (fun zz => absurd (j7_cmp.mpr z) zz)
        obtain rfl : a = c := Option.some.inj h
        exact jj_keep [true, true, true, true, true, true, true, true, true, false, false, false, false] fin
      · rw [if_neg z] at h
        cases h
    | succ m ih =>
      intro a b h
      unfold j2_ge at h
      by_cases z : b ≤ 0
      · rw [if_pos z] at h
        refine jj_lload dX7_odds_87 rfl ?_
        refine jj_lconst (v := 0) dX7_odds_89 (by decide) ?_
        refine jj_lcmp dX7_odds_90 rfl ?_
        refine jj_if_le (tgt := 112) dX7_odds_91 (by decide) (fun _ => ?_) (fun zz => absurd (j7_cmp.mpr z) zz)
        obtain rfl : a = c := Option.some.inj h
        exact jj_keep [true, true, true, true, true, true, true, true, true, false, false, false, false] fin
      · rw [if_neg z] at h
        have zb : ¬ b = 0 := fun e => z (by rw [e]; exact Int64.le_refl 0)
        refine jj_lload dX7_odds_87 rfl ?_
        refine jj_lconst (v := 0) dX7_odds_89 (by decide) ?_
        refine jj_lcmp dX7_odds_90 rfl ?_
        refine jj_if_le (tgt := 112) dX7_odds_91 (by decide) (fun zz => absurd zz (fun w => z (j7_cmp.mp w))) (fun _ => ?_)
        refine jj_lload dX7_odds_94 rfl ?_
        refine jj_lload dX7_odds_96 rfl ?_
        refine jj_lrem dX7_odds_98 zb rfl ?_
        refine jj_lstore dX7_odds_99 (by decide) rfl ?_
        refine jj_lload dX7_odds_101 rfl ?_
        refine jj_lstore dX7_odds_103 (by decide) rfl ?_
        refine jj_lload dX7_odds_105 rfl ?_
        refine jj_lstore dX7_odds_107 (by decide) rfl ?_
        refine jj_goto (tgt := 87) dX7_odds_109 (by decide) ?_
        exact jj_keep [true, true, true, true, true, true, true, true, true, true, true, false, false] (ih _ _ h)
  have LB : ∀ k, k ≤ n → jj_Go G m7_odds 2 55 [some (.ref 28), some (.int (nI x)), some (.int (nI y)), some (.int (nI n)), some (.int q), some (.long (j2_bl k)), none, some (.int (nI k)), none, none, none, none, none] [] (jj_m (j7_sN s E)) 0 0 (some (.long (if q = 0 then E.1 y / c else j2_bl n / c))) (jj_m (j7_sN s E)) := by
    refine jj_up n (fun k hk ih => ?_) ?_
    · refine jj_iload dX7_odds_55 rfl ?_
      refine jj_iload_n dX7_odds_57 rfl ?_
      refine jj_icmp_ge (tgt := 75) dX7_odds_58 (by decide) (fun zz => absurd zz (nI_ge (a := k) (b := n) hk (by omega))) (fun _ => ?_)
      refine jj_lload dX7_odds_61 rfl ?_
      refine jj_ldc2 dX7_odds_63 kc7_198 ?_
      refine jj_lmul dX7_odds_66 rfl ?_
      refine jj_lstore dX7_odds_67 (by decide) rfl ?_
      refine jj_iinc dX7_odds_69 rfl (jb_i k) (by decide) rfl ?_
      refine jj_goto (tgt := 55) dX7_odds_72 (by decide) ?_
      exact ih
    · refine jj_iload dX7_odds_55 rfl ?_
      refine jj_iload_n dX7_odds_57 rfl ?_
      refine jj_icmp_ge (tgt := 75) dX7_odds_58 (by decide) (fun _ => ?_) (fun zz => absurd (nI_le (a := n) (b := n) (Nat.le_refl n) (by omega)) zz)
      refine jj_aload_n dX7_odds_75 rfl ?_
      refine jj_getf dX7_odds_76 fl7_44 rfl rfl ?_
      refine jj_iload_n dX7_odds_79 rfl ?_
      refine jv_lald dX7_odds_80 rfl (hy) (by decide) ?_
      refine jj_lstore dX7_odds_81 (by decide) rfl ?_
      refine jj_lload dX7_odds_83 rfl ?_
      refine jj_lstore dX7_odds_85 (by decide) rfl ?_
      exact LG 200 _ _ hc
  refine jj_iload_n dX7_odds_0 rfl ?_
  refine jj_callS (M2 := m7_isField) dX7_odds_1 ml7_169 tm7_isField (ev7_isField_v hx) rfl rfl (by omega) (Nat.le_of_ble_eq_true rfl) ?_
  refine jj_if_eq (tgt := 14) dX7_odds_4 (by decide) (fun zz => absurd zz (by decide)) (fun _ => ?_)
  refine jj_iload_n dX7_odds_7 rfl ?_
  refine jj_callS (M2 := m7_isField) dX7_odds_8 ml7_169 tm7_isField (ev7_isField_v hy) rfl rfl (by omega) (Nat.le_of_ble_eq_true rfl) ?_
  refine jj_if_ne (tgt := 18) dX7_odds_11 (by decide) (fun _ => ?_) (fun zz => absurd zz (by decide))
  refine jj_iload_n dX7_odds_18 rfl ?_
  refine jj_iconst (v := 0) dX7_odds_19 (by decide) ?_
  refine jj_bipush (v := 8) dX7_odds_20 (by decide) ?_
  refine jj_callS (M2 := m7_in) dX7_odds_22 ml7_65 tm7_in (ev7_in (nI n) 0 8) rfl rfl (by omega) (Nat.le_of_ble_eq_true rfl) ?_
  refine jj_if_eq (tgt := 38) dX7_odds_25 (by decide) (fun zz => absurd zz (by rw [jb_bt (j7_r8 n hn)]; decide)) (fun _ => ?_)
  refine jj_iload dX7_odds_28 rfl ?_
  refine jj_iconst (v := 0) dX7_odds_30 (by decide) ?_
  refine jj_iconst (v := 1) dX7_odds_31 (by decide) ?_
  refine jj_callS (M2 := m7_in) dX7_odds_32 ml7_65 tm7_in (ev7_in q 0 1) rfl rfl (by omega) (Nat.le_of_ble_eq_true rfl) ?_
  refine jj_if_ne (tgt := 42) dX7_odds_35 (by decide) (fun _ => ?_) (fun zz => absurd zz (by rw [jb_bt hq]; decide))
  refine jj_aload_n dX7_odds_42 rfl ?_
  refine jj_iload_n dX7_odds_43 rfl ?_
  refine jj_iload_n dX7_odds_44 rfl ?_
  refine jj_iconst (v := 1) dX7_odds_45 (by decide) ?_
  refine jj_callV (M2 := m7_spread) dX7_odds_46 ml7_210 tm7_spread (hs) rfl rfl rfl rfl rfl (by omega) (Nat.le_of_ble_eq_true rfl) ?_
  refine jj_lconst (v := 1) dX7_odds_49 (by decide) ?_
  refine jj_lstore dX7_odds_50 (by decide) rfl ?_
  refine jj_iconst (v := nI 0) dX7_odds_52 (by decide) ?_
  refine jj_istore dX7_odds_53 (by decide) rfl ?_
  exact LB 0 (Nat.zero_le n)
set_option maxRecDepth 100000 in
set_option maxHeartbeats 1500000 in
theorem ev7_count_k {G : jj_G} {s : jj_S} {c : Nat} (hc : c < 4) : jj_Ev G m7_count 3 [.ref 28, .int (nI c)] (jj_m s) 0 0 (some (.int (nI (j7_kc (mo_kind s) (nI c) 12)))) (jj_m s) := by
  refine jj_Ev_of (lo := [some (.ref 28), some (.int (nI c)), none, none]) (by decide +kernel) (Nat.le_of_ble_eq_true rfl) rfl (by trivial) ?_
  have L : ∀ k, k ≤ 12 → jj_Go G m7_count 3 50 [some (.ref 28), some (.int (nI c)), some (.int (nI (j7_kc (mo_kind s) (nI c) k))), some (.int (nI k))] [] (jj_m s) 0 0 (some (.int (nI (j7_kc (mo_kind s) (nI c) 12)))) (jj_m s) := by
    refine jj_up 12 (fun k hk ih => ?_) ?_
    · rw [j7_kc] at ih
      refine jj_iload_n dX7_count_50 rfl ?_
      refine jj_bipush (v := 12) dX7_count_51 (by decide) ?_
      refine jj_icmp_ge (tgt := 80) dX7_count_53 (by decide) (fun zz => absurd zz (jb_ge hk (by decide))) (fun _ => ?_)
      refine jj_iload_n dX7_count_56 rfl ?_
      refine jj_aload_n dX7_count_57 rfl ?_
      refine jj_getf dX7_count_58 fl7_20 rfl rfl ?_
      refine jj_iload_n dX7_count_61 rfl ?_
      refine jv_iald dX7_count_62 rfl (hk) (by decide) ?_
      refine jj_iload_n dX7_count_63 rfl ?_
      refine jj_icmp_ne (tgt := 71) dX7_count_64 (by decide) (fun c64 => ?_) (fun c64 => ?_)
      · refine jj_iconst (v := 0) dX7_count_71 (by decide) ?_
        first
        | (rw [if_neg c64] at ih; refine jj_iadd (v := nI (j7_kc (mo_kind s) (nI c) k + 0)) dX7_count_72 (nI_add _ 0) ?_; refine jj_istore_n dX7_count_73 rfl (by decide) rfl ?_; refine jj_iinc dX7_count_74 rfl (jb_i k) (by decide) rfl ?_; refine jj_goto (tgt := 50) dX7_count_77 (by decide) ?_; exact ih)
        | (rw [if_pos c64] at ih; refine jj_iadd (v := nI (j7_kc (mo_kind s) (nI c) k + 1)) dX7_count_72 (nI_add _ 1) ?_; refine jj_istore_n dX7_count_73 rfl (by decide) rfl ?_; refine jj_iinc dX7_count_74 rfl (jb_i k) (by decide) rfl ?_; refine jj_goto (tgt := 50) dX7_count_77 (by decide) ?_; exact ih)
      · refine jj_iconst (v := 1) dX7_count_67 (by decide) ?_
        refine jj_goto (tgt := 72) dX7_count_68 (by decide) ?_
        first
        | (rw [if_neg c64] at ih; refine jj_iadd (v := nI (j7_kc (mo_kind s) (nI c) k + 0)) dX7_count_72 (nI_add _ 0) ?_; refine jj_istore_n dX7_count_73 rfl (by decide) rfl ?_; refine jj_iinc dX7_count_74 rfl (jb_i k) (by decide) rfl ?_; refine jj_goto (tgt := 50) dX7_count_77 (by decide) ?_; exact ih)
        | (rw [if_pos c64] at ih; refine jj_iadd (v := nI (j7_kc (mo_kind s) (nI c) k + 1)) dX7_count_72 (nI_add _ 1) ?_; refine jj_istore_n dX7_count_73 rfl (by decide) rfl ?_; refine jj_iinc dX7_count_74 rfl (jb_i k) (by decide) rfl ?_; refine jj_goto (tgt := 50) dX7_count_77 (by decide) ?_; exact ih)
    · refine jj_iload_n dX7_count_50 rfl ?_
      refine jj_bipush (v := 12) dX7_count_51 (by decide) ?_
      refine jj_icmp_ge (tgt := 80) dX7_count_53 (by decide) (fun _ => ?_) (fun zz => absurd (jb_ge' (n := 12) (by decide)) zz)
      refine jj_iload_n dX7_count_80 rfl ?_
      exact jj_leaf dX7_count_81 rfl rfl
  rcases (show c = 0 ∨ c = 1 ∨ c = 2 ∨ c = 3 by omega) with q | q | q | q
  · subst q
    refine jj_iconst (v := 0) dX7_count_0 (by decide) ?_
    refine jj_istore_n dX7_count_1 rfl (by decide) rfl ?_
    refine jj_iload_n dX7_count_2 rfl ?_
    refine jj_swIn (tgt := 48) (off := 45) dX7_count_3 (by decide) (by decide) (by decide) (by decide) ?_
    refine jj_iconst (v := nI 0) dX7_count_48 (by decide) ?_
    refine jj_istore_n dX7_count_49 rfl (by decide) rfl ?_
    exact L 0 (by decide)
  · subst q
    refine jj_iconst (v := 0) dX7_count_0 (by decide) ?_
    refine jj_istore_n dX7_count_1 rfl (by decide) rfl ?_
    refine jj_iload_n dX7_count_2 rfl ?_
    refine jj_swIn (tgt := 48) (off := 45) dX7_count_3 (by decide) (by decide) (by decide) (by decide) ?_
    refine jj_iconst (v := nI 0) dX7_count_48 (by decide) ?_
    refine jj_istore_n dX7_count_49 rfl (by decide) rfl ?_
    exact L 0 (by decide)
  · subst q
    refine jj_iconst (v := 0) dX7_count_0 (by decide) ?_
    refine jj_istore_n dX7_count_1 rfl (by decide) rfl ?_
    refine jj_iload_n dX7_count_2 rfl ?_
    refine jj_swIn (tgt := 48) (off := 45) dX7_count_3 (by decide) (by decide) (by decide) (by decide) ?_
    refine jj_iconst (v := nI 0) dX7_count_48 (by decide) ?_
    refine jj_istore_n dX7_count_49 rfl (by decide) rfl ?_
    exact L 0 (by decide)
  · subst q
    refine jj_iconst (v := 0) dX7_count_0 (by decide) ?_
    refine jj_istore_n dX7_count_1 rfl (by decide) rfl ?_
    refine jj_iload_n dX7_count_2 rfl ?_
    refine jj_swIn (tgt := 48) (off := 45) dX7_count_3 (by decide) (by decide) (by decide) (by decide) ?_
    refine jj_iconst (v := nI 0) dX7_count_48 (by decide) ?_
    refine jj_istore_n dX7_count_49 rfl (by decide) rfl ?_
    exact L 0 (by decide)
set_option maxRecDepth 100000 in
set_option maxHeartbeats 1500000 in
theorem ev7_count_4 {G : jj_G} {s : jj_S} {wl : Nat → Nat → Bool} (hw : mw_ok s wl) : jj_Ev G m7_count 3 [.ref 28, .int 4] (jj_m s) 0 0 (some (.int (nI (j7_wc wl 60 / 2)))) (jj_m s) := by
  refine jj_Ev_of (lo := [some (.ref 28), some (.int 4), none, none]) (by decide +kernel) (Nat.le_of_ble_eq_true rfl) rfl (by trivial) ?_
  have hwc := j7_wc_le wl 60
  have L : ∀ k, k ≤ 60 → jj_Go G m7_count 3 84 [some (.ref 28), some (.int 4), some (.int (nI (j7_wc wl k))), some (.int (nI k))] [] (jj_m s) 0 0 (some (.int (nI (j7_wc wl 60 / 2)))) (jj_m s) := by
    refine jj_up 60 (fun k hk ih => ?_) ?_
    · have e1 : mo_wall s k = jb_b (wl (k / 5) (k % 5) = true) := by have h := hw (k / 5) (by omega) (k % 5) (by omega); rwa [j7_n60] at h
      rw [j7_wc] at ih
      refine jj_iload_n dX7_count_84 rfl ?_
      refine jj_bipush (v := 60) dX7_count_85 (by decide) ?_
      refine jj_icmp_ge (tgt := 113) dX7_count_87 (by decide) (fun zz => absurd zz (jb_ge hk (by decide))) (fun _ => ?_)
      refine jj_iload_n dX7_count_90 rfl ?_
      refine jj_aload_n dX7_count_91 rfl ?_
      refine jj_getf dX7_count_92 fl7_13 rfl rfl ?_
      refine jj_iload_n dX7_count_95 rfl ?_
      refine jv_zald dX7_count_96 rfl (hk) (by decide) ?_
      rw [e1]
      refine jj_if_eq (tgt := 104) dX7_count_97 (by decide) (fun c97 => ?_) (fun c97 => ?_)
      · refine jj_iconst (v := 0) dX7_count_104 (by decide) ?_
        first
        | (rw [if_neg (jb_b0 c97)] at ih; refine jj_iadd (v := nI (j7_wc wl k + 0)) dX7_count_105 (nI_add _ 0) ?_; refine jj_istore_n dX7_count_106 rfl (by decide) rfl ?_; refine jj_iinc dX7_count_107 rfl (jb_i k) (by decide) rfl ?_; refine jj_goto (tgt := 84) dX7_count_110 (by decide) ?_; exact ih)
        | (rw [if_pos (jb_b1 c97)] at ih; refine jj_iadd (v := nI (j7_wc wl k + 1)) dX7_count_105 (nI_add _ 1) ?_; refine jj_istore_n dX7_count_106 rfl (by decide) rfl ?_; refine jj_iinc dX7_count_107 rfl (jb_i k) (by decide) rfl ?_; refine jj_goto (tgt := 84) dX7_count_110 (by decide) ?_; exact ih)
      · refine jj_iconst (v := 1) dX7_count_100 (by decide) ?_
        refine jj_goto (tgt := 105) dX7_count_101 (by decide) ?_
        first
        | (rw [if_neg (jb_b0 c97)] at ih; refine jj_iadd (v := nI (j7_wc wl k + 0)) dX7_count_105 (nI_add _ 0) ?_; refine jj_istore_n dX7_count_106 rfl (by decide) rfl ?_; refine jj_iinc dX7_count_107 rfl (jb_i k) (by decide) rfl ?_; refine jj_goto (tgt := 84) dX7_count_110 (by decide) ?_; exact ih)
        | (rw [if_pos (jb_b1 c97)] at ih; refine jj_iadd (v := nI (j7_wc wl k + 1)) dX7_count_105 (nI_add _ 1) ?_; refine jj_istore_n dX7_count_106 rfl (by decide) rfl ?_; refine jj_iinc dX7_count_107 rfl (jb_i k) (by decide) rfl ?_; refine jj_goto (tgt := 84) dX7_count_110 (by decide) ?_; exact ih)
    · refine jj_iload_n dX7_count_84 rfl ?_
      refine jj_bipush (v := 60) dX7_count_85 (by decide) ?_
      refine jj_icmp_ge (tgt := 113) dX7_count_87 (by decide) (fun _ => ?_) (fun zz => absurd (jb_ge' (n := 60) (by decide)) zz)
      refine jj_iload_n dX7_count_113 rfl ?_
      refine jj_iconst (v := nI 2) dX7_count_114 (by decide) ?_
      refine jj_idiv dX7_count_115 (by decide) (pk_div (a := j7_wc wl 60) (d := 2) (by omega) (by decide) (by decide)) ?_
      exact jj_leaf dX7_count_116 rfl rfl
  refine jj_iconst (v := nI 0) dX7_count_0 (by decide) ?_
  refine jj_istore_n dX7_count_1 rfl (by decide) rfl ?_
  refine jj_iload_n dX7_count_2 rfl ?_
  refine jj_swIn (tgt := 82) (off := 79) dX7_count_3 (by decide) (by decide) (by decide) (by decide) ?_
  refine jj_iconst (v := nI 0) dX7_count_82 (by decide) ?_
  refine jj_istore_n dX7_count_83 rfl (by decide) rfl ?_
  exact L 0 (by decide)
set_option maxRecDepth 100000 in
set_option maxHeartbeats 1500000 in
theorem ev7_count_5 {G : jj_G} {s : jj_S} {wl : Nat → Nat → Bool} {kn : Nat → Nat} (hb : mb_ok s) (hw : mw_ok s wl) (hkn : ∀ f, f < 12 → mo_kind s f = nI (kn f) ∧ kn f < 4) : jj_Ev G m7_count 3 [.ref 28, .int 5] (jj_m s) 0 0 (some (.int (j7_ts (j7_tF s wl kn) 12))) (jj_m s) := by
  refine jj_Ev_of (lo := [some (.ref 28), some (.int 5), none, none]) (by decide +kernel) (Nat.le_of_ble_eq_true rfl) rfl (by trivial) ?_
  have L : ∀ k, k ≤ 12 → jj_Go G m7_count 3 119 [some (.ref 28), some (.int 5), some (.int (j7_ts (j7_tF s wl kn) k)), some (.int (nI k))] [] (jj_m s) 0 0 (some (.int (j7_ts (j7_tF s wl kn) 12))) (jj_m s) := by
    refine jj_up 12 (fun k hk ih => ?_) ?_
    · obtain ⟨hk1, hk2⟩ := hkn k hk
      have ht := ev7_taxOf (G := G) hb hw hk hk1 hk2
      have e1 : j7_ts (j7_tF s wl kn) (k + 1) = j7_ts (j7_tF s wl kn) k + j7_tx (kn k) (j7_ct (j7_o wl k) (mo_kind s) 3 12) (j7_ct (j7_o wl k) (mo_kind s) 1 12) := rfl
      rw [e1] at ih
      refine jj_iload_n dX7_count_119 rfl ?_
      refine jj_bipush (v := 12) dX7_count_120 (by decide) ?_
      refine jj_icmp_ge (tgt := 139) dX7_count_122 (by decide) (fun zz => absurd zz (jb_ge hk (by decide))) (fun _ => ?_)
      refine jj_iload_n dX7_count_125 rfl ?_
      refine jj_aload_n dX7_count_126 rfl ?_
      refine jj_iload_n dX7_count_127 rfl ?_
      refine jj_callV (M2 := m7_taxOf) dX7_count_128 ml7_191 tm7_taxOf (ht) rfl rfl rfl rfl rfl (by omega) (Nat.le_of_ble_eq_true rfl) ?_
      refine jj_iadd dX7_count_131 rfl ?_
      refine jj_istore_n dX7_count_132 rfl (by decide) rfl ?_
      refine jj_iinc dX7_count_133 rfl (jb_i k) (by decide) rfl ?_
      refine jj_goto (tgt := 119) dX7_count_136 (by decide) ?_
      exact ih
    · refine jj_iload_n dX7_count_119 rfl ?_
      refine jj_bipush (v := 12) dX7_count_120 (by decide) ?_
      refine jj_icmp_ge (tgt := 139) dX7_count_122 (by decide) (fun _ => ?_) (fun zz => absurd (jb_ge' (n := 12) (by decide)) zz)
      refine jj_iload_n dX7_count_139 rfl ?_
      exact jj_leaf dX7_count_140 rfl rfl
  refine jj_iconst (v := 0) dX7_count_0 (by decide) ?_
  refine jj_istore_n dX7_count_1 rfl (by decide) rfl ?_
  refine jj_iload_n dX7_count_2 rfl ?_
  refine jj_swIn (tgt := 117) (off := 114) dX7_count_3 (by decide) (by decide) (by decide) (by decide) ?_
  refine jj_iconst (v := 0) dX7_count_117 (by decide) ?_
  refine jj_istore_n dX7_count_118 rfl (by decide) rfl ?_
  exact L 0 (by decide)
set_option maxRecDepth 100000 in
set_option maxHeartbeats 1500000 in
theorem ev7_count_6 {G : jj_G} {s : jj_S} {wl : Nat → Nat → Bool} (hb : mb_ok s) (hw : mw_ok s wl) : jj_Ev G m7_count 3 [.ref 28, .int 6] (jj_m s) 0 0 (some (.int (nI (j7_ni (j7_o wl) 12)))) (jj_m s) := by
  refine jj_Ev_of (lo := [some (.ref 28), some (.int 6), none, none]) (by decide +kernel) (Nat.le_of_ble_eq_true rfl) rfl (by trivial) ?_
  have L : ∀ k, k ≤ 12 → jj_Go G m7_count 3 143 [some (.ref 28), some (.int 6), some (.int (nI (j7_ni (j7_o wl) k))), some (.int (nI k))] [] (jj_m s) 0 0 (some (.int (nI (j7_ni (j7_o wl) 12)))) (jj_m s) := by
    refine jj_up 12 (fun k hk ih => ?_) ?_
    · have hlt := j7_in_lt (o := j7_o wl) (fun f hf => j7_o_lt wl hf) hk 12
      have hi := ev7_insideOf (G := G) hb hw hk
      have hlt2 : j7_in (j7_o wl) k 12 &&& (2 ^ k - 1) < 2 ^ 31 := Nat.lt_of_le_of_lt Nat.and_le_left (by omega)
      rw [j7_ni] at ih
      generalize j7_in (j7_o wl) k 12 = A at hlt hi ih hlt2
      refine jj_iload_n dX7_count_143 rfl ?_
      refine jj_bipush (v := 12) dX7_count_144 (by decide) ?_
      refine jj_icmp_ge (tgt := 177) dX7_count_146 (by decide) (fun zz => absurd zz (jb_ge hk (by decide))) (fun _ => ?_)
      refine jj_iload_n dX7_count_149 rfl ?_
      refine jj_aload_n dX7_count_150 rfl ?_
      refine jj_iload_n dX7_count_151 rfl ?_
      refine jj_callV (M2 := m7_insideOf) dX7_count_152 ml7_203 tm7_insideOf (hi) rfl rfl rfl rfl rfl (by omega) (Nat.le_of_ble_eq_true rfl) ?_
      refine jj_iconst (v := 1) dX7_count_155 (by decide) ?_
      refine jj_iload_n dX7_count_156 rfl ?_
      refine jj_ishl dX7_count_157 (jb_2k k (by omega)) ?_
      refine jj_iconst (v := 1) dX7_count_158 (by decide) ?_
      refine jj_isub dX7_count_159 (j7_b1 k hk) ?_
      refine jj_iand dX7_count_160 (fa_and _ _) ?_
      refine jj_if_ne (tgt := 168) dX7_count_161 (by decide) (fun c161 => ?_) (fun c161 => ?_)
      · refine jj_iconst (v := 0) dX7_count_168 (by decide) ?_
        first
        | (rw [if_neg (fun z => c161 (by rw [z]; rfl))] at ih; refine jj_iadd (v := nI (j7_ni (j7_o wl) k + 0)) dX7_count_169 (nI_add _ 0) ?_; refine jj_istore_n dX7_count_170 rfl (by decide) rfl ?_; refine jj_iinc dX7_count_171 rfl (jb_i k) (by decide) rfl ?_; refine jj_goto (tgt := 143) dX7_count_174 (by decide) ?_; exact ih)
        | (rw [if_pos ((jb_inj hlt2 (by decide)).mp c161)] at ih; refine jj_iadd (v := nI (j7_ni (j7_o wl) k + 1)) dX7_count_169 (nI_add _ 1) ?_; refine jj_istore_n dX7_count_170 rfl (by decide) rfl ?_; refine jj_iinc dX7_count_171 rfl (jb_i k) (by decide) rfl ?_; refine jj_goto (tgt := 143) dX7_count_174 (by decide) ?_; exact ih)
      · refine jj_iconst (v := 1) dX7_count_164 (by decide) ?_
        refine jj_goto (tgt := 169) dX7_count_165 (by decide) ?_
        first
        | (rw [if_neg (fun z => c161 (by rw [z]; rfl))] at ih; refine jj_iadd (v := nI (j7_ni (j7_o wl) k + 0)) dX7_count_169 (nI_add _ 0) ?_; refine jj_istore_n dX7_count_170 rfl (by decide) rfl ?_; refine jj_iinc dX7_count_171 rfl (jb_i k) (by decide) rfl ?_; refine jj_goto (tgt := 143) dX7_count_174 (by decide) ?_; exact ih)
        | (rw [if_pos ((jb_inj hlt2 (by decide)).mp c161)] at ih; refine jj_iadd (v := nI (j7_ni (j7_o wl) k + 1)) dX7_count_169 (nI_add _ 1) ?_; refine jj_istore_n dX7_count_170 rfl (by decide) rfl ?_; refine jj_iinc dX7_count_171 rfl (jb_i k) (by decide) rfl ?_; refine jj_goto (tgt := 143) dX7_count_174 (by decide) ?_; exact ih)
    · refine jj_iload_n dX7_count_143 rfl ?_
      refine jj_bipush (v := 12) dX7_count_144 (by decide) ?_
      refine jj_icmp_ge (tgt := 177) dX7_count_146 (by decide) (fun _ => ?_) (fun zz => absurd (jb_ge' (n := 12) (by decide)) zz)
      refine jj_iload_n dX7_count_177 rfl ?_
      exact jj_leaf dX7_count_178 rfl rfl
  refine jj_iconst (v := 0) dX7_count_0 (by decide) ?_
  refine jj_istore_n dX7_count_1 rfl (by decide) rfl ?_
  refine jj_iload_n dX7_count_2 rfl ?_
  refine jj_swIn (tgt := 141) (off := 138) dX7_count_3 (by decide) (by decide) (by decide) (by decide) ?_
  refine jj_iconst (v := 0) dX7_count_141 (by decide) ?_
  refine jj_istore_n dX7_count_142 rfl (by decide) rfl ?_
  exact L 0 (by decide)
set_option maxRecDepth 100000 in
set_option maxHeartbeats 1500000 in
theorem ev7_count_7 {G : jj_G} {s : jj_S}  : jj_Ev G m7_count 3 [.ref 28, .int 7] (jj_m s) 0 0 (some (.int (mo_by s))) (jj_m s) := by
  refine jj_Ev_of (lo := [some (.ref 28), some (.int 7), none, none]) (by decide +kernel) (Nat.le_of_ble_eq_true rfl) rfl (by trivial) ?_
  refine jj_iconst (v := 0) dX7_count_0 (by decide) ?_
  refine jj_istore_n dX7_count_1 rfl (by decide) rfl ?_
  refine jj_iload_n dX7_count_2 rfl ?_
  refine jj_swIn (tgt := 179) (off := 176) dX7_count_3 (by decide) (by decide) (by decide) (by decide) ?_
  refine jj_aload_n dX7_count_179 rfl ?_
  refine jj_getf dX7_count_180 fl7_69 rfl rfl ?_
  exact jj_leaf dX7_count_183 rfl rfl
set_option maxRecDepth 100000 in
set_option maxHeartbeats 1500000 in
theorem ev7_count_b {G : jj_G} {s : jj_S} {x : Int32} (hx : x.toInt < 0 ∨ 7 < x.toInt) : jj_Ev G m7_count 3 [.ref 28, .int x] (jj_m s) 0 0 (some (.int (-3))) (jj_m s) := by
  refine jj_Ev_of (lo := [some (.ref 28), some (.int x), none, none]) (by decide +kernel) (Nat.le_of_ble_eq_true rfl) rfl (by trivial) ?_
  refine jj_iconst (v := 0) dX7_count_0 (by decide) ?_
  refine jj_istore_n dX7_count_1 rfl (by decide) rfl ?_
  refine jj_iload_n dX7_count_2 rfl ?_
  refine jj_swOut (tgt := 184) dX7_count_3 hx (by decide) ?_
  refine jj_bipush (v := (-3)) dX7_count_184 (by decide) ?_
  exact jj_leaf dX7_count_186 rfl rfl
set_option maxRecDepth 100000 in
set_option maxHeartbeats 1500000 in
theorem ev7_field_b {G : jj_G} {s : jj_S} {x y : Int32} (hx : ¬ vF x) : jj_Ev G m7_field 3 [.ref 28, .int x, .int y] (jj_m s) 0 0 (some (.int (-2))) (jj_m s) := by
  refine jj_Ev_of (lo := [some (.ref 28), some (.int x), some (.int y), none, none]) (by decide +kernel) (Nat.le_of_ble_eq_true rfl) rfl (by trivial) ?_
  refine jj_iload_n dX7_field_0 rfl ?_
  refine jj_callS (M2 := m7_isField) dX7_field_1 ml7_169 tm7_isField (ev7_isField x) rfl rfl (by omega) (Nat.le_of_ble_eq_true rfl) ?_
  refine jj_if_ne (tgt := 10) dX7_field_4 (by decide) (fun zz => absurd (jb_bf hx) zz) (fun _ => ?_)
  refine jj_bipush (v := (-2)) dX7_field_7 (by decide) ?_
  exact jj_leaf dX7_field_9 rfl rfl
set_option maxRecDepth 100000 in
set_option maxHeartbeats 1500000 in
theorem ev7_field_0 {G : jj_G} {s : jj_S} {wl : Nat → Nat → Bool} {f : Nat} (hw : mw_ok s wl) (hf : f < 12) : jj_Ev G m7_field 3 [.ref 28, .int (nI f), .int 0] (jj_m s) 0 0 (some (.int (mo_kind s f))) (jj_m s) := by
  refine jj_Ev_of (lo := [some (.ref 28), some (.int (nI f)), some (.int 0), none, none]) (by decide +kernel) (Nat.le_of_ble_eq_true rfl) rfl (by trivial) ?_
  have K : jj_Go G m7_field 3 52 [some (.ref 28), some (.int (nI f)), some (.int 0), some (.int (nI (j7_sw wl f 5))), none] [] (jj_m s) 0 0 (some (.int (mo_kind s f))) (jj_m s) := by
    refine jj_iload_n dX7_field_52 rfl ?_
    refine jj_swIn (tgt := 84) (off := 31) dX7_field_53 (by decide) (by decide) (by decide) (by decide) ?_
    refine jj_aload_n dX7_field_84 rfl ?_
    refine jj_getf dX7_field_85 fl7_20 rfl rfl ?_
    refine jj_iload_n dX7_field_88 rfl ?_
    refine jv_iald dX7_field_89 rfl (hf) (by decide) ?_
    exact jj_leaf dX7_field_90 rfl rfl
  have L : ∀ k, k ≤ 5 → jj_Go G m7_field 3 15 [some (.ref 28), some (.int (nI f)), some (.int 0), some (.int (nI (j7_sw wl f k))), some (.int (nI k))] [] (jj_m s) 0 0 (some (.int (mo_kind s f))) (jj_m s) := by
    refine jj_up 5 (fun k hk ih => ?_) ?_
    · have e1 := hw f hf k hk
      rw [j7_sw] at ih
      refine jj_iload dX7_field_15 rfl ?_
      refine jj_iconst (v := 5) dX7_field_17 (by decide) ?_
      refine jj_icmp_ge (tgt := 52) dX7_field_18 (by decide) (fun zz => absurd zz (jb_ge hk (by decide))) (fun _ => ?_)
      refine jj_iload_n dX7_field_21 rfl ?_
      refine jj_aload_n dX7_field_22 rfl ?_
      refine jj_getf dX7_field_23 fl7_13 rfl rfl ?_
      refine jj_iconst (v := nI 5) dX7_field_26 (by decide) ?_
      refine jj_iload_n dX7_field_27 rfl ?_
      refine jj_imul dX7_field_28 (j4_mul 5 f) ?_
      refine jj_iload dX7_field_29 rfl ?_
      refine jj_iadd dX7_field_31 (nI_add (5 * f) k) ?_
      refine jv_zald dX7_field_32 rfl (by omega) (by decide) ?_
      rw [e1]
      refine jj_if_eq (tgt := 43) dX7_field_33 (by decide) (fun c33 => ?_) (fun c33 => ?_)
      · refine jj_iconst (v := 0) dX7_field_43 (by decide) ?_
        first
        | (rw [if_neg (jb_b0 c33)] at ih; refine jj_ior (v := nI (j7_sw wl f k)) dX7_field_44 ((fa_or _ 0).trans (by rw [Nat.or_zero])) ?_; refine jj_istore_n dX7_field_45 rfl (by decide) rfl ?_; refine jj_iinc dX7_field_46 rfl (jb_i k) (by decide) rfl ?_; refine jj_goto (tgt := 15) dX7_field_49 (by decide) ?_; exact ih)
        | (rw [if_pos (jb_b1 c33)] at ih; refine jj_ior dX7_field_44 (fa_or _ _) ?_; refine jj_istore_n dX7_field_45 rfl (by decide) rfl ?_; refine jj_iinc dX7_field_46 rfl (jb_i k) (by decide) rfl ?_; refine jj_goto (tgt := 15) dX7_field_49 (by decide) ?_; exact ih)
      · refine jj_iconst (v := 1) dX7_field_36 (by decide) ?_
        refine jj_iload dX7_field_37 rfl ?_
        refine jj_ishl dX7_field_39 (jb_2k k (by omega)) ?_
        refine jj_goto (tgt := 44) dX7_field_40 (by decide) ?_
        first
        | (rw [if_neg (jb_b0 c33)] at ih; refine jj_ior (v := nI (j7_sw wl f k)) dX7_field_44 ((fa_or _ 0).trans (by rw [Nat.or_zero])) ?_; refine jj_istore_n dX7_field_45 rfl (by decide) rfl ?_; refine jj_iinc dX7_field_46 rfl (jb_i k) (by decide) rfl ?_; refine jj_goto (tgt := 15) dX7_field_49 (by decide) ?_; exact ih)
        | (rw [if_pos (jb_b1 c33)] at ih; refine jj_ior dX7_field_44 (fa_or _ _) ?_; refine jj_istore_n dX7_field_45 rfl (by decide) rfl ?_; refine jj_iinc dX7_field_46 rfl (jb_i k) (by decide) rfl ?_; refine jj_goto (tgt := 15) dX7_field_49 (by decide) ?_; exact ih)
    · refine jj_iload dX7_field_15 rfl ?_
      refine jj_iconst (v := 5) dX7_field_17 (by decide) ?_
      refine jj_icmp_ge (tgt := 52) dX7_field_18 (by decide) (fun _ => ?_) (fun zz => absurd (jb_ge' (n := 5) (by decide)) zz)
      exact jj_keep [true, true, true, true, false] K
  refine jj_iload_n dX7_field_0 rfl ?_
  refine jj_callS (M2 := m7_isField) dX7_field_1 ml7_169 tm7_isField (ev7_isField_v hf) rfl rfl (by omega) (Nat.le_of_ble_eq_true rfl) ?_
  refine jj_if_ne (tgt := 10) dX7_field_4 (by decide) (fun _ => ?_) (fun zz => absurd zz (by decide))
  refine jj_iconst (v := 0) dX7_field_10 (by decide) ?_
  refine jj_istore_n dX7_field_11 rfl (by decide) rfl ?_
  refine jj_iconst (v := 0) dX7_field_12 (by decide) ?_
  refine jj_istore dX7_field_13 (by decide) rfl ?_
  exact L 0 (by decide)
set_option maxRecDepth 100000 in
set_option maxHeartbeats 1500000 in
theorem ev7_field_1 {G : jj_G} {s : jj_S} {wl : Nat → Nat → Bool} {f : Nat} (hw : mw_ok s wl) (hf : f < 12) : jj_Ev G m7_field 3 [.ref 28, .int (nI f), .int 1] (jj_m s) 0 0 (some (.int (nI (j7_sw wl f 5)))) (jj_m s) := by
  refine jj_Ev_of (lo := [some (.ref 28), some (.int (nI f)), some (.int 1), none, none]) (by decide +kernel) (Nat.le_of_ble_eq_true rfl) rfl (by trivial) ?_
  have K : jj_Go G m7_field 3 52 [some (.ref 28), some (.int (nI f)), some (.int 1), some (.int (nI (j7_sw wl f 5))), none] [] (jj_m s) 0 0 (some (.int (nI (j7_sw wl f 5)))) (jj_m s) := by
    refine jj_iload_n dX7_field_52 rfl ?_
    refine jj_swIn (tgt := 91) (off := 38) dX7_field_53 (by decide) (by decide) (by decide) (by decide) ?_
    refine jj_iload_n dX7_field_91 rfl ?_
    exact jj_leaf dX7_field_92 rfl rfl
  have L : ∀ k, k ≤ 5 → jj_Go G m7_field 3 15 [some (.ref 28), some (.int (nI f)), some (.int 1), some (.int (nI (j7_sw wl f k))), some (.int (nI k))] [] (jj_m s) 0 0 (some (.int (nI (j7_sw wl f 5)))) (jj_m s) := by
    refine jj_up 5 (fun k hk ih => ?_) ?_
    · have e1 := hw f hf k hk
      rw [j7_sw] at ih
      refine jj_iload dX7_field_15 rfl ?_
      refine jj_iconst (v := 5) dX7_field_17 (by decide) ?_
      refine jj_icmp_ge (tgt := 52) dX7_field_18 (by decide) (fun zz => absurd zz (jb_ge hk (by decide))) (fun _ => ?_)
      refine jj_iload_n dX7_field_21 rfl ?_
      refine jj_aload_n dX7_field_22 rfl ?_
      refine jj_getf dX7_field_23 fl7_13 rfl rfl ?_
      refine jj_iconst (v := nI 5) dX7_field_26 (by decide) ?_
      refine jj_iload_n dX7_field_27 rfl ?_
      refine jj_imul dX7_field_28 (j4_mul 5 f) ?_
      refine jj_iload dX7_field_29 rfl ?_
      refine jj_iadd dX7_field_31 (nI_add (5 * f) k) ?_
      refine jv_zald dX7_field_32 rfl (by omega) (by decide) ?_
      rw [e1]
      refine jj_if_eq (tgt := 43) dX7_field_33 (by decide) (fun c33 => ?_) (fun c33 => ?_)
      · refine jj_iconst (v := 0) dX7_field_43 (by decide) ?_
        first
        | (rw [if_neg (jb_b0 c33)] at ih; refine jj_ior (v := nI (j7_sw wl f k)) dX7_field_44 ((fa_or _ 0).trans (by rw [Nat.or_zero])) ?_; refine jj_istore_n dX7_field_45 rfl (by decide) rfl ?_; refine jj_iinc dX7_field_46 rfl (jb_i k) (by decide) rfl ?_; refine jj_goto (tgt := 15) dX7_field_49 (by decide) ?_; exact ih)
        | (rw [if_pos (jb_b1 c33)] at ih; refine jj_ior dX7_field_44 (fa_or _ _) ?_; refine jj_istore_n dX7_field_45 rfl (by decide) rfl ?_; refine jj_iinc dX7_field_46 rfl (jb_i k) (by decide) rfl ?_; refine jj_goto (tgt := 15) dX7_field_49 (by decide) ?_; exact ih)
      · refine jj_iconst (v := 1) dX7_field_36 (by decide) ?_
        refine jj_iload dX7_field_37 rfl ?_
        refine jj_ishl dX7_field_39 (jb_2k k (by omega)) ?_
        refine jj_goto (tgt := 44) dX7_field_40 (by decide) ?_
        first
        | (rw [if_neg (jb_b0 c33)] at ih; refine jj_ior (v := nI (j7_sw wl f k)) dX7_field_44 ((fa_or _ 0).trans (by rw [Nat.or_zero])) ?_; refine jj_istore_n dX7_field_45 rfl (by decide) rfl ?_; refine jj_iinc dX7_field_46 rfl (jb_i k) (by decide) rfl ?_; refine jj_goto (tgt := 15) dX7_field_49 (by decide) ?_; exact ih)
        | (rw [if_pos (jb_b1 c33)] at ih; refine jj_ior dX7_field_44 (fa_or _ _) ?_; refine jj_istore_n dX7_field_45 rfl (by decide) rfl ?_; refine jj_iinc dX7_field_46 rfl (jb_i k) (by decide) rfl ?_; refine jj_goto (tgt := 15) dX7_field_49 (by decide) ?_; exact ih)
    · refine jj_iload dX7_field_15 rfl ?_
      refine jj_iconst (v := 5) dX7_field_17 (by decide) ?_
      refine jj_icmp_ge (tgt := 52) dX7_field_18 (by decide) (fun _ => ?_) (fun zz => absurd (jb_ge' (n := 5) (by decide)) zz)
      exact jj_keep [true, true, true, true, false] K
  refine jj_iload_n dX7_field_0 rfl ?_
  refine jj_callS (M2 := m7_isField) dX7_field_1 ml7_169 tm7_isField (ev7_isField_v hf) rfl rfl (by omega) (Nat.le_of_ble_eq_true rfl) ?_
  refine jj_if_ne (tgt := 10) dX7_field_4 (by decide) (fun _ => ?_) (fun zz => absurd zz (by decide))
  refine jj_iconst (v := 0) dX7_field_10 (by decide) ?_
  refine jj_istore_n dX7_field_11 rfl (by decide) rfl ?_
  refine jj_iconst (v := 0) dX7_field_12 (by decide) ?_
  refine jj_istore dX7_field_13 (by decide) rfl ?_
  exact L 0 (by decide)
set_option maxRecDepth 100000 in
set_option maxHeartbeats 1500000 in
theorem ev7_field_2 {G : jj_G} {s : jj_S} {wl : Nat → Nat → Bool} {f n : Nat} (hw : mw_ok s wl) (hf : f < 12) (hb : mb_ok s) (hk : mo_kind s f = nI n) (hn : n < 4) : jj_Ev G m7_field 3 [.ref 28, .int (nI f), .int 2] (jj_m s) 0 0 (some (.int (j7_tx n (j7_ct (j7_o wl f) (mo_kind s) 3 12) (j7_ct (j7_o wl f) (mo_kind s) 1 12)))) (jj_m s) := by
  refine jj_Ev_of (lo := [some (.ref 28), some (.int (nI f)), some (.int 2), none, none]) (by decide +kernel) (Nat.le_of_ble_eq_true rfl) rfl (by trivial) ?_
  have K : jj_Go G m7_field 3 52 [some (.ref 28), some (.int (nI f)), some (.int 2), some (.int (nI (j7_sw wl f 5))), none] [] (jj_m s) 0 0 (some (.int (j7_tx n (j7_ct (j7_o wl f) (mo_kind s) 3 12) (j7_ct (j7_o wl f) (mo_kind s) 1 12)))) (jj_m s) := by
    refine jj_iload_n dX7_field_52 rfl ?_
    refine jj_swIn (tgt := 93) (off := 40) dX7_field_53 (by decide) (by decide) (by decide) (by decide) ?_
    refine jj_aload_n dX7_field_93 rfl ?_
    refine jj_iload_n dX7_field_94 rfl ?_
    refine jj_callV (M2 := m7_taxOf) dX7_field_95 ml7_191 tm7_taxOf (ev7_taxOf hb hw hf hk hn) rfl rfl rfl rfl rfl (by omega) (Nat.le_of_ble_eq_true rfl) ?_
    exact jj_leaf dX7_field_98 rfl rfl
  have L : ∀ k, k ≤ 5 → jj_Go G m7_field 3 15 [some (.ref 28), some (.int (nI f)), some (.int 2), some (.int (nI (j7_sw wl f k))), some (.int (nI k))] [] (jj_m s) 0 0 (some (.int (j7_tx n (j7_ct (j7_o wl f) (mo_kind s) 3 12) (j7_ct (j7_o wl f) (mo_kind s) 1 12)))) (jj_m s) := by
    refine jj_up 5 (fun k hk ih => ?_) ?_
    · have e1 := hw f hf k hk
      rw [j7_sw] at ih
      refine jj_iload dX7_field_15 rfl ?_
      refine jj_iconst (v := 5) dX7_field_17 (by decide) ?_
      refine jj_icmp_ge (tgt := 52) dX7_field_18 (by decide) (fun zz => absurd zz (jb_ge hk (by decide))) (fun _ => ?_)
      refine jj_iload_n dX7_field_21 rfl ?_
      refine jj_aload_n dX7_field_22 rfl ?_
      refine jj_getf dX7_field_23 fl7_13 rfl rfl ?_
      refine jj_iconst (v := nI 5) dX7_field_26 (by decide) ?_
      refine jj_iload_n dX7_field_27 rfl ?_
      refine jj_imul dX7_field_28 (j4_mul 5 f) ?_
      refine jj_iload dX7_field_29 rfl ?_
      refine jj_iadd dX7_field_31 (nI_add (5 * f) k) ?_
      refine jv_zald dX7_field_32 rfl (by omega) (by decide) ?_
      rw [e1]
      refine jj_if_eq (tgt := 43) dX7_field_33 (by decide) (fun c33 => ?_) (fun c33 => ?_)
      · refine jj_iconst (v := 0) dX7_field_43 (by decide) ?_
        first
        | (rw [if_neg (jb_b0 c33)] at ih; refine jj_ior (v := nI (j7_sw wl f k)) dX7_field_44 ((fa_or _ 0).trans (by rw [Nat.or_zero])) ?_; refine jj_istore_n dX7_field_45 rfl (by decide) rfl ?_; refine jj_iinc dX7_field_46 rfl (jb_i k) (by decide) rfl ?_; refine jj_goto (tgt := 15) dX7_field_49 (by decide) ?_; exact ih)
        | (rw [if_pos (jb_b1 c33)] at ih; refine jj_ior dX7_field_44 (fa_or _ _) ?_; refine jj_istore_n dX7_field_45 rfl (by decide) rfl ?_; refine jj_iinc dX7_field_46 rfl (jb_i k) (by decide) rfl ?_; refine jj_goto (tgt := 15) dX7_field_49 (by decide) ?_; exact ih)
      · refine jj_iconst (v := 1) dX7_field_36 (by decide) ?_
        refine jj_iload dX7_field_37 rfl ?_
        refine jj_ishl dX7_field_39 (jb_2k k (by omega)) ?_
        refine jj_goto (tgt := 44) dX7_field_40 (by decide) ?_
        first
        | (rw [if_neg (jb_b0 c33)] at ih; refine jj_ior (v := nI (j7_sw wl f k)) dX7_field_44 ((fa_or _ 0).trans (by rw [Nat.or_zero])) ?_; refine jj_istore_n dX7_field_45 rfl (by decide) rfl ?_; refine jj_iinc dX7_field_46 rfl (jb_i k) (by decide) rfl ?_; refine jj_goto (tgt := 15) dX7_field_49 (by decide) ?_; exact ih)
        | (rw [if_pos (jb_b1 c33)] at ih; refine jj_ior dX7_field_44 (fa_or _ _) ?_; refine jj_istore_n dX7_field_45 rfl (by decide) rfl ?_; refine jj_iinc dX7_field_46 rfl (jb_i k) (by decide) rfl ?_; refine jj_goto (tgt := 15) dX7_field_49 (by decide) ?_; exact ih)
    · refine jj_iload dX7_field_15 rfl ?_
      refine jj_iconst (v := 5) dX7_field_17 (by decide) ?_
      refine jj_icmp_ge (tgt := 52) dX7_field_18 (by decide) (fun _ => ?_) (fun zz => absurd (jb_ge' (n := 5) (by decide)) zz)
      exact jj_keep [true, true, true, true, false] K
  refine jj_iload_n dX7_field_0 rfl ?_
  refine jj_callS (M2 := m7_isField) dX7_field_1 ml7_169 tm7_isField (ev7_isField_v hf) rfl rfl (by omega) (Nat.le_of_ble_eq_true rfl) ?_
  refine jj_if_ne (tgt := 10) dX7_field_4 (by decide) (fun _ => ?_) (fun zz => absurd zz (by decide))
  refine jj_iconst (v := 0) dX7_field_10 (by decide) ?_
  refine jj_istore_n dX7_field_11 rfl (by decide) rfl ?_
  refine jj_iconst (v := 0) dX7_field_12 (by decide) ?_
  refine jj_istore dX7_field_13 (by decide) rfl ?_
  exact L 0 (by decide)
set_option maxRecDepth 100000 in
set_option maxHeartbeats 1500000 in
theorem ev7_field_3 {G : jj_G} {s : jj_S} {wl : Nat → Nat → Bool} {f : Nat} (hw : mw_ok s wl) (hf : f < 12) (hb : mb_ok s) : jj_Ev G m7_field 3 [.ref 28, .int (nI f), .int 3] (jj_m s) 0 0 (some (.int (nI (j7_o wl f)))) (jj_m s) := by
  refine jj_Ev_of (lo := [some (.ref 28), some (.int (nI f)), some (.int 3), none, none]) (by decide +kernel) (Nat.le_of_ble_eq_true rfl) rfl (by trivial) ?_
  have K : jj_Go G m7_field 3 52 [some (.ref 28), some (.int (nI f)), some (.int 3), some (.int (nI (j7_sw wl f 5))), none] [] (jj_m s) 0 0 (some (.int (nI (j7_o wl f)))) (jj_m s) := by
    refine jj_iload_n dX7_field_52 rfl ?_
    refine jj_swIn (tgt := 99) (off := 46) dX7_field_53 (by decide) (by decide) (by decide) (by decide) ?_
    refine jj_aload_n dX7_field_99 rfl ?_
    refine jj_iload_n dX7_field_100 rfl ?_
    refine jj_callV (M2 := m7_openOf) dX7_field_101 ml7_184 tm7_openOf (ev7_openOf hb hw hf) rfl rfl rfl rfl rfl (by omega) (Nat.le_of_ble_eq_true rfl) ?_
    exact jj_leaf dX7_field_104 rfl rfl
  have L : ∀ k, k ≤ 5 → jj_Go G m7_field 3 15 [some (.ref 28), some (.int (nI f)), some (.int 3), some (.int (nI (j7_sw wl f k))), some (.int (nI k))] [] (jj_m s) 0 0 (some (.int (nI (j7_o wl f)))) (jj_m s) := by
    refine jj_up 5 (fun k hk ih => ?_) ?_
    · have e1 := hw f hf k hk
      rw [j7_sw] at ih
      refine jj_iload dX7_field_15 rfl ?_
      refine jj_iconst (v := 5) dX7_field_17 (by decide) ?_
      refine jj_icmp_ge (tgt := 52) dX7_field_18 (by decide) (fun zz => absurd zz (jb_ge hk (by decide))) (fun _ => ?_)
      refine jj_iload_n dX7_field_21 rfl ?_
      refine jj_aload_n dX7_field_22 rfl ?_
      refine jj_getf dX7_field_23 fl7_13 rfl rfl ?_
      refine jj_iconst (v := nI 5) dX7_field_26 (by decide) ?_
      refine jj_iload_n dX7_field_27 rfl ?_
      refine jj_imul dX7_field_28 (j4_mul 5 f) ?_
      refine jj_iload dX7_field_29 rfl ?_
      refine jj_iadd dX7_field_31 (nI_add (5 * f) k) ?_
      refine jv_zald dX7_field_32 rfl (by omega) (by decide) ?_
      rw [e1]
      refine jj_if_eq (tgt := 43) dX7_field_33 (by decide) (fun c33 => ?_) (fun c33 => ?_)
      · refine jj_iconst (v := 0) dX7_field_43 (by decide) ?_
        first
        | (rw [if_neg (jb_b0 c33)] at ih; refine jj_ior (v := nI (j7_sw wl f k)) dX7_field_44 ((fa_or _ 0).trans (by rw [Nat.or_zero])) ?_; refine jj_istore_n dX7_field_45 rfl (by decide) rfl ?_; refine jj_iinc dX7_field_46 rfl (jb_i k) (by decide) rfl ?_; refine jj_goto (tgt := 15) dX7_field_49 (by decide) ?_; exact ih)
        | (rw [if_pos (jb_b1 c33)] at ih; refine jj_ior dX7_field_44 (fa_or _ _) ?_; refine jj_istore_n dX7_field_45 rfl (by decide) rfl ?_; refine jj_iinc dX7_field_46 rfl (jb_i k) (by decide) rfl ?_; refine jj_goto (tgt := 15) dX7_field_49 (by decide) ?_; exact ih)
      · refine jj_iconst (v := 1) dX7_field_36 (by decide) ?_
        refine jj_iload dX7_field_37 rfl ?_
        refine jj_ishl dX7_field_39 (jb_2k k (by omega)) ?_
        refine jj_goto (tgt := 44) dX7_field_40 (by decide) ?_
        first
        | (rw [if_neg (jb_b0 c33)] at ih; refine jj_ior (v := nI (j7_sw wl f k)) dX7_field_44 ((fa_or _ 0).trans (by rw [Nat.or_zero])) ?_; refine jj_istore_n dX7_field_45 rfl (by decide) rfl ?_; refine jj_iinc dX7_field_46 rfl (jb_i k) (by decide) rfl ?_; refine jj_goto (tgt := 15) dX7_field_49 (by decide) ?_; exact ih)
        | (rw [if_pos (jb_b1 c33)] at ih; refine jj_ior dX7_field_44 (fa_or _ _) ?_; refine jj_istore_n dX7_field_45 rfl (by decide) rfl ?_; refine jj_iinc dX7_field_46 rfl (jb_i k) (by decide) rfl ?_; refine jj_goto (tgt := 15) dX7_field_49 (by decide) ?_; exact ih)
    · refine jj_iload dX7_field_15 rfl ?_
      refine jj_iconst (v := 5) dX7_field_17 (by decide) ?_
      refine jj_icmp_ge (tgt := 52) dX7_field_18 (by decide) (fun _ => ?_) (fun zz => absurd (jb_ge' (n := 5) (by decide)) zz)
      exact jj_keep [true, true, true, true, false] K
  refine jj_iload_n dX7_field_0 rfl ?_
  refine jj_callS (M2 := m7_isField) dX7_field_1 ml7_169 tm7_isField (ev7_isField_v hf) rfl rfl (by omega) (Nat.le_of_ble_eq_true rfl) ?_
  refine jj_if_ne (tgt := 10) dX7_field_4 (by decide) (fun _ => ?_) (fun zz => absurd zz (by decide))
  refine jj_iconst (v := 0) dX7_field_10 (by decide) ?_
  refine jj_istore_n dX7_field_11 rfl (by decide) rfl ?_
  refine jj_iconst (v := 0) dX7_field_12 (by decide) ?_
  refine jj_istore dX7_field_13 (by decide) rfl ?_
  exact L 0 (by decide)
set_option maxRecDepth 100000 in
set_option maxHeartbeats 1500000 in
theorem ev7_field_d {G : jj_G} {s : jj_S} {wl : Nat → Nat → Bool} {f : Nat} {x : Int32} (hw : mw_ok s wl) (hf : f < 12) (hx : x.toInt < 0 ∨ 3 < x.toInt) : jj_Ev G m7_field 3 [.ref 28, .int (nI f), .int x] (jj_m s) 0 0 (some (.int (-3))) (jj_m s) := by
  refine jj_Ev_of (lo := [some (.ref 28), some (.int (nI f)), some (.int x), none, none]) (by decide +kernel) (Nat.le_of_ble_eq_true rfl) rfl (by trivial) ?_
  have K : jj_Go G m7_field 3 52 [some (.ref 28), some (.int (nI f)), some (.int x), some (.int (nI (j7_sw wl f 5))), none] [] (jj_m s) 0 0 (some (.int (-3))) (jj_m s) := by
    refine jj_iload_n dX7_field_52 rfl ?_
    refine jj_swOut (tgt := 105) dX7_field_53 hx (by decide) ?_
    refine jj_bipush (v := (-3)) dX7_field_105 (by decide) ?_
    exact jj_leaf dX7_field_107 rfl rfl
  have L : ∀ k, k ≤ 5 → jj_Go G m7_field 3 15 [some (.ref 28), some (.int (nI f)), some (.int x), some (.int (nI (j7_sw wl f k))), some (.int (nI k))] [] (jj_m s) 0 0 (some (.int (-3))) (jj_m s) := by
    refine jj_up 5 (fun k hk ih => ?_) ?_
    · have e1 := hw f hf k hk
      rw [j7_sw] at ih
      refine jj_iload dX7_field_15 rfl ?_
      refine jj_iconst (v := 5) dX7_field_17 (by decide) ?_
      refine jj_icmp_ge (tgt := 52) dX7_field_18 (by decide) (fun zz => absurd zz (jb_ge hk (by decide))) (fun _ => ?_)
      refine jj_iload_n dX7_field_21 rfl ?_
      refine jj_aload_n dX7_field_22 rfl ?_
      refine jj_getf dX7_field_23 fl7_13 rfl rfl ?_
      refine jj_iconst (v := nI 5) dX7_field_26 (by decide) ?_
      refine jj_iload_n dX7_field_27 rfl ?_
      refine jj_imul dX7_field_28 (j4_mul 5 f) ?_
      refine jj_iload dX7_field_29 rfl ?_
      refine jj_iadd dX7_field_31 (nI_add (5 * f) k) ?_
      refine jv_zald dX7_field_32 rfl (by omega) (by decide) ?_
      rw [e1]
      refine jj_if_eq (tgt := 43) dX7_field_33 (by decide) (fun c33 => ?_) (fun c33 => ?_)
      · refine jj_iconst (v := 0) dX7_field_43 (by decide) ?_
        first
        | (rw [if_neg (jb_b0 c33)] at ih; refine jj_ior (v := nI (j7_sw wl f k)) dX7_field_44 ((fa_or _ 0).trans (by rw [Nat.or_zero])) ?_; refine jj_istore_n dX7_field_45 rfl (by decide) rfl ?_; refine jj_iinc dX7_field_46 rfl (jb_i k) (by decide) rfl ?_; refine jj_goto (tgt := 15) dX7_field_49 (by decide) ?_; exact ih)
        | (rw [if_pos (jb_b1 c33)] at ih; refine jj_ior dX7_field_44 (fa_or _ _) ?_; refine jj_istore_n dX7_field_45 rfl (by decide) rfl ?_; refine jj_iinc dX7_field_46 rfl (jb_i k) (by decide) rfl ?_; refine jj_goto (tgt := 15) dX7_field_49 (by decide) ?_; exact ih)
      · refine jj_iconst (v := 1) dX7_field_36 (by decide) ?_
        refine jj_iload dX7_field_37 rfl ?_
        refine jj_ishl dX7_field_39 (jb_2k k (by omega)) ?_
        refine jj_goto (tgt := 44) dX7_field_40 (by decide) ?_
        first
        | (rw [if_neg (jb_b0 c33)] at ih; refine jj_ior (v := nI (j7_sw wl f k)) dX7_field_44 ((fa_or _ 0).trans (by rw [Nat.or_zero])) ?_; refine jj_istore_n dX7_field_45 rfl (by decide) rfl ?_; refine jj_iinc dX7_field_46 rfl (jb_i k) (by decide) rfl ?_; refine jj_goto (tgt := 15) dX7_field_49 (by decide) ?_; exact ih)
        | (rw [if_pos (jb_b1 c33)] at ih; refine jj_ior dX7_field_44 (fa_or _ _) ?_; refine jj_istore_n dX7_field_45 rfl (by decide) rfl ?_; refine jj_iinc dX7_field_46 rfl (jb_i k) (by decide) rfl ?_; refine jj_goto (tgt := 15) dX7_field_49 (by decide) ?_; exact ih)
    · refine jj_iload dX7_field_15 rfl ?_
      refine jj_iconst (v := 5) dX7_field_17 (by decide) ?_
      refine jj_icmp_ge (tgt := 52) dX7_field_18 (by decide) (fun _ => ?_) (fun zz => absurd (jb_ge' (n := 5) (by decide)) zz)
      exact jj_keep [true, true, true, true, false] K
  refine jj_iload_n dX7_field_0 rfl ?_
  refine jj_callS (M2 := m7_isField) dX7_field_1 ml7_169 tm7_isField (ev7_isField_v hf) rfl rfl (by omega) (Nat.le_of_ble_eq_true rfl) ?_
  refine jj_if_ne (tgt := 10) dX7_field_4 (by decide) (fun _ => ?_) (fun zz => absurd zz (by decide))
  refine jj_iconst (v := 0) dX7_field_10 (by decide) ?_
  refine jj_istore_n dX7_field_11 rfl (by decide) rfl ?_
  refine jj_iconst (v := 0) dX7_field_12 (by decide) ?_
  refine jj_istore dX7_field_13 (by decide) rfl ?_
  exact L 0 (by decide)
set_option maxRecDepth 100000 in
set_option maxHeartbeats 1500000 in
theorem ev7_as_b {G : jj_G} {s : jj_S} {x y : Int32} (hx : ¬ vF x) : jj_Ev G m7_as 3 [.ref 28, .int x, .int y] (jj_m s) 0 0 (some (.int (-2))) (jj_m s) := by
  refine jj_Ev_of (lo := [some (.ref 28), some (.int x), some (.int y), none, none]) (by decide +kernel) (Nat.le_of_ble_eq_true rfl) rfl (by trivial) ?_
  refine jj_iload_n dX7_as_0 rfl ?_
  refine jj_callS (M2 := m7_isField) dX7_as_1 ml7_169 tm7_isField (ev7_isField x) rfl rfl (by omega) (Nat.le_of_ble_eq_true rfl) ?_
  refine jj_if_ne (tgt := 10) dX7_as_4 (by decide) (fun zz => absurd (jb_bf hx) zz) (fun _ => ?_)
  refine jj_bipush (v := (-2)) dX7_as_7 (by decide) ?_
  exact jj_leaf dX7_as_9 rfl rfl
set_option maxRecDepth 100000 in
set_option maxHeartbeats 1500000 in
theorem ev7_as_c {G : jj_G} {s : jj_S} {f : Nat} {y : Int32} (hf : f < 12) (hy : ¬ (0 ≤ y ∧ y ≤ 4)) : jj_Ev G m7_as 3 [.ref 28, .int (nI f), .int y] (jj_m s) 0 0 (some (.int (-3))) (jj_m s) := by
  refine jj_Ev_of (lo := [some (.ref 28), some (.int (nI f)), some (.int y), none, none]) (by decide +kernel) (Nat.le_of_ble_eq_true rfl) rfl (by trivial) ?_
  refine jj_iload_n dX7_as_0 rfl ?_
  refine jj_callS (M2 := m7_isField) dX7_as_1 ml7_169 tm7_isField (ev7_isField_v hf) rfl rfl (by omega) (Nat.le_of_ble_eq_true rfl) ?_
  refine jj_if_ne (tgt := 10) dX7_as_4 (by decide) (fun _ => ?_) (fun zz => absurd zz (by decide))
  refine jj_iload_n dX7_as_10 rfl ?_
  refine jj_iconst (v := 0) dX7_as_11 (by decide) ?_
  refine jj_iconst (v := 4) dX7_as_12 (by decide) ?_
  refine jj_callS (M2 := m7_in) dX7_as_13 ml7_65 tm7_in (ev7_in y 0 4) rfl rfl (by omega) (Nat.le_of_ble_eq_true rfl) ?_
  refine jj_if_ne (tgt := 22) dX7_as_16 (by decide) (fun zz => absurd (jb_bf hy) zz) (fun _ => ?_)
  refine jj_bipush (v := (-3)) dX7_as_19 (by decide) ?_
  exact jj_leaf dX7_as_21 rfl rfl
set_option maxRecDepth 100000 in
set_option maxHeartbeats 1500000 in
theorem ev7_as {G : jj_G} {s : jj_S} {wl : Nat → Nat → Bool} {f k n : Nat} (hb : mb_ok s) (hw : mw_ok s wl) (hf : f < 12) (hk : mo_kind s f = nI n) (hn : n < 4) (hk5 : k < 5) : jj_Ev G m7_as 3 [.ref 28, .int (nI f), .int (nI k)] (jj_m s) 0 0 (some (.int (if j7_is n k = true then j7_tx n (j7_ct (j7_o wl f) (mo_kind s) 3 12) (j7_ct (j7_o wl f) (mo_kind s) 1 12) else -4))) (jj_m s) := by
  refine jj_Ev_of (lo := [some (.ref 28), some (.int (nI f)), some (.int (nI k)), none, none]) (by decide +kernel) (Nat.le_of_ble_eq_true rfl) rfl (by trivial) ?_
  have ht := ev7_taxOf (G := G) hb hw hf hk hn
  generalize j7_tx n (j7_ct (j7_o wl f) (mo_kind s) 3 12) (j7_ct (j7_o wl f) (mo_kind s) 1 12) = X at ht ⊢
  rcases (show k = 0 ∨ k = 1 ∨ k = 2 ∨ k = 3 ∨ k = 4 by omega) with q | q | q | q | q
  · subst q
    rcases (show n = 0 ∨ n = 1 ∨ n = 2 ∨ n = 3 by omega) with q | q | q | q
    · subst q
      refine jj_iload_n dX7_as_0 rfl ?_
      refine jj_callS (M2 := m7_isField) dX7_as_1 ml7_169 tm7_isField (ev7_isField_v hf) rfl rfl (by omega) (Nat.le_of_ble_eq_true rfl) ?_
      refine jj_if_ne (tgt := 10) dX7_as_4 (by decide) (fun _ => ?_) (fun zz => absurd zz (by decide))
      refine jj_iload_n dX7_as_10 rfl ?_
      refine jj_iconst (v := 0) dX7_as_11 (by decide) ?_
      refine jj_iconst (v := 4) dX7_as_12 (by decide) ?_
      refine jj_callS (M2 := m7_in) dX7_as_13 ml7_65 tm7_in (ev7_in (nI 0) 0 4) rfl rfl (by omega) (Nat.le_of_ble_eq_true rfl) ?_
      refine jj_if_ne (tgt := 22) dX7_as_16 (by decide) (fun _ => ?_) (fun zz => absurd zz (by decide))
      refine jj_aload_n dX7_as_22 rfl ?_
      refine jj_getf dX7_as_23 fl7_20 rfl rfl ?_
      refine jj_iload_n dX7_as_26 rfl ?_
      refine jv_iald dX7_as_27 rfl (hf) (by decide) ?_
      rw [hk]
      refine jj_istore_n dX7_as_28 rfl (by decide) rfl ?_
      refine jj_iload_n dX7_as_29 rfl ?_
      refine jj_if_eq (tgt := 57) dX7_as_30 (by decide) (fun _ => ?_) (fun zz => absurd rfl zz)
      refine jj_iconst (v := 1) dX7_as_57 (by decide) ?_
      refine jj_goto (tgt := 62) dX7_as_58 (by decide) ?_
      refine jj_istore dX7_as_62 (by decide) rfl ?_
      refine jj_iload dX7_as_64 rfl ?_
      refine jj_if_eq (tgt := 77) dX7_as_66 (by decide) (fun zz => absurd zz (by decide)) (fun _ => ?_)
      refine jj_aload_n dX7_as_69 rfl ?_
      refine jj_iload_n dX7_as_70 rfl ?_
      refine jj_callV (M2 := m7_taxOf) dX7_as_71 ml7_191 tm7_taxOf (ht) rfl rfl rfl rfl rfl (by omega) (Nat.le_of_ble_eq_true rfl) ?_
      refine jj_goto (tgt := 79) dX7_as_74 (by decide) ?_
      exact jj_leaf dX7_as_79 rfl rfl
    · subst q
      refine jj_iload_n dX7_as_0 rfl ?_
      refine jj_callS (M2 := m7_isField) dX7_as_1 ml7_169 tm7_isField (ev7_isField_v hf) rfl rfl (by omega) (Nat.le_of_ble_eq_true rfl) ?_
      refine jj_if_ne (tgt := 10) dX7_as_4 (by decide) (fun _ => ?_) (fun zz => absurd zz (by decide))
      refine jj_iload_n dX7_as_10 rfl ?_
      refine jj_iconst (v := 0) dX7_as_11 (by decide) ?_
      refine jj_iconst (v := 4) dX7_as_12 (by decide) ?_
      refine jj_callS (M2 := m7_in) dX7_as_13 ml7_65 tm7_in (ev7_in (nI 0) 0 4) rfl rfl (by omega) (Nat.le_of_ble_eq_true rfl) ?_
      refine jj_if_ne (tgt := 22) dX7_as_16 (by decide) (fun _ => ?_) (fun zz => absurd zz (by decide))
      refine jj_aload_n dX7_as_22 rfl ?_
      refine jj_getf dX7_as_23 fl7_20 rfl rfl ?_
      refine jj_iload_n dX7_as_26 rfl ?_
      refine jv_iald dX7_as_27 rfl (hf) (by decide) ?_
      rw [hk]
      refine jj_istore_n dX7_as_28 rfl (by decide) rfl ?_
      refine jj_iload_n dX7_as_29 rfl ?_
      refine jj_if_eq (tgt := 57) dX7_as_30 (by decide) (fun _ => ?_) (fun zz => absurd rfl zz)
      refine jj_iconst (v := 1) dX7_as_57 (by decide) ?_
      refine jj_goto (tgt := 62) dX7_as_58 (by decide) ?_
      refine jj_istore dX7_as_62 (by decide) rfl ?_
      refine jj_iload dX7_as_64 rfl ?_
      refine jj_if_eq (tgt := 77) dX7_as_66 (by decide) (fun zz => absurd zz (by decide)) (fun _ => ?_)
      refine jj_aload_n dX7_as_69 rfl ?_
      refine jj_iload_n dX7_as_70 rfl ?_
      refine jj_callV (M2 := m7_taxOf) dX7_as_71 ml7_191 tm7_taxOf (ht) rfl rfl rfl rfl rfl (by omega) (Nat.le_of_ble_eq_true rfl) ?_
      refine jj_goto (tgt := 79) dX7_as_74 (by decide) ?_
      exact jj_leaf dX7_as_79 rfl rfl
    · subst q
      refine jj_iload_n dX7_as_0 rfl ?_
      refine jj_callS (M2 := m7_isField) dX7_as_1 ml7_169 tm7_isField (ev7_isField_v hf) rfl rfl (by omega) (Nat.le_of_ble_eq_true rfl) ?_
      refine jj_if_ne (tgt := 10) dX7_as_4 (by decide) (fun _ => ?_) (fun zz => absurd zz (by decide))
      refine jj_iload_n dX7_as_10 rfl ?_
      refine jj_iconst (v := 0) dX7_as_11 (by decide) ?_
      refine jj_iconst (v := 4) dX7_as_12 (by decide) ?_
      refine jj_callS (M2 := m7_in) dX7_as_13 ml7_65 tm7_in (ev7_in (nI 0) 0 4) rfl rfl (by omega) (Nat.le_of_ble_eq_true rfl) ?_
      refine jj_if_ne (tgt := 22) dX7_as_16 (by decide) (fun _ => ?_) (fun zz => absurd zz (by decide))
      refine jj_aload_n dX7_as_22 rfl ?_
      refine jj_getf dX7_as_23 fl7_20 rfl rfl ?_
      refine jj_iload_n dX7_as_26 rfl ?_
      refine jv_iald dX7_as_27 rfl (hf) (by decide) ?_
      rw [hk]
      refine jj_istore_n dX7_as_28 rfl (by decide) rfl ?_
      refine jj_iload_n dX7_as_29 rfl ?_
      refine jj_if_eq (tgt := 57) dX7_as_30 (by decide) (fun _ => ?_) (fun zz => absurd rfl zz)
      refine jj_iconst (v := 1) dX7_as_57 (by decide) ?_
      refine jj_goto (tgt := 62) dX7_as_58 (by decide) ?_
      refine jj_istore dX7_as_62 (by decide) rfl ?_
      refine jj_iload dX7_as_64 rfl ?_
      refine jj_if_eq (tgt := 77) dX7_as_66 (by decide) (fun zz => absurd zz (by decide)) (fun _ => ?_)
      refine jj_aload_n dX7_as_69 rfl ?_
      refine jj_iload_n dX7_as_70 rfl ?_
      refine jj_callV (M2 := m7_taxOf) dX7_as_71 ml7_191 tm7_taxOf (ht) rfl rfl rfl rfl rfl (by omega) (Nat.le_of_ble_eq_true rfl) ?_
      refine jj_goto (tgt := 79) dX7_as_74 (by decide) ?_
      exact jj_leaf dX7_as_79 rfl rfl
    · subst q
      refine jj_iload_n dX7_as_0 rfl ?_
      refine jj_callS (M2 := m7_isField) dX7_as_1 ml7_169 tm7_isField (ev7_isField_v hf) rfl rfl (by omega) (Nat.le_of_ble_eq_true rfl) ?_
      refine jj_if_ne (tgt := 10) dX7_as_4 (by decide) (fun _ => ?_) (fun zz => absurd zz (by decide))
      refine jj_iload_n dX7_as_10 rfl ?_
      refine jj_iconst (v := 0) dX7_as_11 (by decide) ?_
      refine jj_iconst (v := 4) dX7_as_12 (by decide) ?_
      refine jj_callS (M2 := m7_in) dX7_as_13 ml7_65 tm7_in (ev7_in (nI 0) 0 4) rfl rfl (by omega) (Nat.le_of_ble_eq_true rfl) ?_
      refine jj_if_ne (tgt := 22) dX7_as_16 (by decide) (fun _ => ?_) (fun zz => absurd zz (by decide))
      refine jj_aload_n dX7_as_22 rfl ?_
      refine jj_getf dX7_as_23 fl7_20 rfl rfl ?_
      refine jj_iload_n dX7_as_26 rfl ?_
      refine jv_iald dX7_as_27 rfl (hf) (by decide) ?_
      rw [hk]
      refine jj_istore_n dX7_as_28 rfl (by decide) rfl ?_
      refine jj_iload_n dX7_as_29 rfl ?_
      refine jj_if_eq (tgt := 57) dX7_as_30 (by decide) (fun _ => ?_) (fun zz => absurd rfl zz)
      refine jj_iconst (v := 1) dX7_as_57 (by decide) ?_
      refine jj_goto (tgt := 62) dX7_as_58 (by decide) ?_
      refine jj_istore dX7_as_62 (by decide) rfl ?_
      refine jj_iload dX7_as_64 rfl ?_
      refine jj_if_eq (tgt := 77) dX7_as_66 (by decide) (fun zz => absurd zz (by decide)) (fun _ => ?_)
      refine jj_aload_n dX7_as_69 rfl ?_
      refine jj_iload_n dX7_as_70 rfl ?_
      refine jj_callV (M2 := m7_taxOf) dX7_as_71 ml7_191 tm7_taxOf (ht) rfl rfl rfl rfl rfl (by omega) (Nat.le_of_ble_eq_true rfl) ?_
      refine jj_goto (tgt := 79) dX7_as_74 (by decide) ?_
      exact jj_leaf dX7_as_79 rfl rfl
  · subst q
    rcases (show n = 0 ∨ n = 1 ∨ n = 2 ∨ n = 3 by omega) with q | q | q | q
    · subst q
      refine jj_iload_n dX7_as_0 rfl ?_
      refine jj_callS (M2 := m7_isField) dX7_as_1 ml7_169 tm7_isField (ev7_isField_v hf) rfl rfl (by omega) (Nat.le_of_ble_eq_true rfl) ?_
      refine jj_if_ne (tgt := 10) dX7_as_4 (by decide) (fun _ => ?_) (fun zz => absurd zz (by decide))
      refine jj_iload_n dX7_as_10 rfl ?_
      refine jj_iconst (v := 0) dX7_as_11 (by decide) ?_
      refine jj_iconst (v := 4) dX7_as_12 (by decide) ?_
      refine jj_callS (M2 := m7_in) dX7_as_13 ml7_65 tm7_in (ev7_in (nI 1) 0 4) rfl rfl (by omega) (Nat.le_of_ble_eq_true rfl) ?_
      refine jj_if_ne (tgt := 22) dX7_as_16 (by decide) (fun _ => ?_) (fun zz => absurd zz (by decide))
      refine jj_aload_n dX7_as_22 rfl ?_
      refine jj_getf dX7_as_23 fl7_20 rfl rfl ?_
      refine jj_iload_n dX7_as_26 rfl ?_
      refine jv_iald dX7_as_27 rfl (hf) (by decide) ?_
      rw [hk]
      refine jj_istore_n dX7_as_28 rfl (by decide) rfl ?_
      refine jj_iload_n dX7_as_29 rfl ?_
      refine jj_if_eq (tgt := 57) dX7_as_30 (by decide) (fun zz => absurd zz (by decide)) (fun _ => ?_)
      refine jj_iload_n dX7_as_33 rfl ?_
      refine jj_iconst (v := 1) dX7_as_34 (by decide) ?_
      refine jj_icmp_ne (tgt := 50) dX7_as_35 (by decide) (fun zz => absurd rfl zz) (fun _ => ?_)
      refine jj_iload_n dX7_as_38 rfl ?_
      refine jj_iconst (v := 1) dX7_as_39 (by decide) ?_
      refine jj_iconst (v := 2) dX7_as_40 (by decide) ?_
      refine jj_callS (M2 := m7_in) dX7_as_41 ml7_65 tm7_in (ev7_in (nI 0) 1 2) rfl rfl (by omega) (Nat.le_of_ble_eq_true rfl) ?_
      refine jj_if_eq (tgt := 61) dX7_as_44 (by decide) (fun _ => ?_) (fun zz => absurd rfl zz)
      refine jj_iconst (v := 0) dX7_as_61 (by decide) ?_
      refine jj_istore dX7_as_62 (by decide) rfl ?_
      refine jj_iload dX7_as_64 rfl ?_
      refine jj_if_eq (tgt := 77) dX7_as_66 (by decide) (fun _ => ?_) (fun zz => absurd rfl zz)
      refine jj_bipush (v := (-4)) dX7_as_77 (by decide) ?_
      exact jj_leaf dX7_as_79 rfl rfl
    · subst q
      refine jj_iload_n dX7_as_0 rfl ?_
      refine jj_callS (M2 := m7_isField) dX7_as_1 ml7_169 tm7_isField (ev7_isField_v hf) rfl rfl (by omega) (Nat.le_of_ble_eq_true rfl) ?_
      refine jj_if_ne (tgt := 10) dX7_as_4 (by decide) (fun _ => ?_) (fun zz => absurd zz (by decide))
      refine jj_iload_n dX7_as_10 rfl ?_
      refine jj_iconst (v := 0) dX7_as_11 (by decide) ?_
      refine jj_iconst (v := 4) dX7_as_12 (by decide) ?_
      refine jj_callS (M2 := m7_in) dX7_as_13 ml7_65 tm7_in (ev7_in (nI 1) 0 4) rfl rfl (by omega) (Nat.le_of_ble_eq_true rfl) ?_
      refine jj_if_ne (tgt := 22) dX7_as_16 (by decide) (fun _ => ?_) (fun zz => absurd zz (by decide))
      refine jj_aload_n dX7_as_22 rfl ?_
      refine jj_getf dX7_as_23 fl7_20 rfl rfl ?_
      refine jj_iload_n dX7_as_26 rfl ?_
      refine jv_iald dX7_as_27 rfl (hf) (by decide) ?_
      rw [hk]
      refine jj_istore_n dX7_as_28 rfl (by decide) rfl ?_
      refine jj_iload_n dX7_as_29 rfl ?_
      refine jj_if_eq (tgt := 57) dX7_as_30 (by decide) (fun zz => absurd zz (by decide)) (fun _ => ?_)
      refine jj_iload_n dX7_as_33 rfl ?_
      refine jj_iconst (v := 1) dX7_as_34 (by decide) ?_
      refine jj_icmp_ne (tgt := 50) dX7_as_35 (by decide) (fun zz => absurd rfl zz) (fun _ => ?_)
      refine jj_iload_n dX7_as_38 rfl ?_
      refine jj_iconst (v := 1) dX7_as_39 (by decide) ?_
      refine jj_iconst (v := 2) dX7_as_40 (by decide) ?_
      refine jj_callS (M2 := m7_in) dX7_as_41 ml7_65 tm7_in (ev7_in (nI 1) 1 2) rfl rfl (by omega) (Nat.le_of_ble_eq_true rfl) ?_
      refine jj_if_eq (tgt := 61) dX7_as_44 (by decide) (fun zz => absurd zz (by decide)) (fun _ => ?_)
      refine jj_goto (tgt := 57) dX7_as_47 (by decide) ?_
      refine jj_iconst (v := 1) dX7_as_57 (by decide) ?_
      refine jj_goto (tgt := 62) dX7_as_58 (by decide) ?_
      refine jj_istore dX7_as_62 (by decide) rfl ?_
      refine jj_iload dX7_as_64 rfl ?_
      refine jj_if_eq (tgt := 77) dX7_as_66 (by decide) (fun zz => absurd zz (by decide)) (fun _ => ?_)
      refine jj_aload_n dX7_as_69 rfl ?_
      refine jj_iload_n dX7_as_70 rfl ?_
      refine jj_callV (M2 := m7_taxOf) dX7_as_71 ml7_191 tm7_taxOf (ht) rfl rfl rfl rfl rfl (by omega) (Nat.le_of_ble_eq_true rfl) ?_
      refine jj_goto (tgt := 79) dX7_as_74 (by decide) ?_
      exact jj_leaf dX7_as_79 rfl rfl
    · subst q
      refine jj_iload_n dX7_as_0 rfl ?_
      refine jj_callS (M2 := m7_isField) dX7_as_1 ml7_169 tm7_isField (ev7_isField_v hf) rfl rfl (by omega) (Nat.le_of_ble_eq_true rfl) ?_
      refine jj_if_ne (tgt := 10) dX7_as_4 (by decide) (fun _ => ?_) (fun zz => absurd zz (by decide))
      refine jj_iload_n dX7_as_10 rfl ?_
      refine jj_iconst (v := 0) dX7_as_11 (by decide) ?_
      refine jj_iconst (v := 4) dX7_as_12 (by decide) ?_
      refine jj_callS (M2 := m7_in) dX7_as_13 ml7_65 tm7_in (ev7_in (nI 1) 0 4) rfl rfl (by omega) (Nat.le_of_ble_eq_true rfl) ?_
      refine jj_if_ne (tgt := 22) dX7_as_16 (by decide) (fun _ => ?_) (fun zz => absurd zz (by decide))
      refine jj_aload_n dX7_as_22 rfl ?_
      refine jj_getf dX7_as_23 fl7_20 rfl rfl ?_
      refine jj_iload_n dX7_as_26 rfl ?_
      refine jv_iald dX7_as_27 rfl (hf) (by decide) ?_
      rw [hk]
      refine jj_istore_n dX7_as_28 rfl (by decide) rfl ?_
      refine jj_iload_n dX7_as_29 rfl ?_
      refine jj_if_eq (tgt := 57) dX7_as_30 (by decide) (fun zz => absurd zz (by decide)) (fun _ => ?_)
      refine jj_iload_n dX7_as_33 rfl ?_
      refine jj_iconst (v := 1) dX7_as_34 (by decide) ?_
      refine jj_icmp_ne (tgt := 50) dX7_as_35 (by decide) (fun zz => absurd rfl zz) (fun _ => ?_)
      refine jj_iload_n dX7_as_38 rfl ?_
      refine jj_iconst (v := 1) dX7_as_39 (by decide) ?_
      refine jj_iconst (v := 2) dX7_as_40 (by decide) ?_
      refine jj_callS (M2 := m7_in) dX7_as_41 ml7_65 tm7_in (ev7_in (nI 2) 1 2) rfl rfl (by omega) (Nat.le_of_ble_eq_true rfl) ?_
      refine jj_if_eq (tgt := 61) dX7_as_44 (by decide) (fun zz => absurd zz (by decide)) (fun _ => ?_)
      refine jj_goto (tgt := 57) dX7_as_47 (by decide) ?_
      refine jj_iconst (v := 1) dX7_as_57 (by decide) ?_
      refine jj_goto (tgt := 62) dX7_as_58 (by decide) ?_
      refine jj_istore dX7_as_62 (by decide) rfl ?_
      refine jj_iload dX7_as_64 rfl ?_
      refine jj_if_eq (tgt := 77) dX7_as_66 (by decide) (fun zz => absurd zz (by decide)) (fun _ => ?_)
      refine jj_aload_n dX7_as_69 rfl ?_
      refine jj_iload_n dX7_as_70 rfl ?_
      refine jj_callV (M2 := m7_taxOf) dX7_as_71 ml7_191 tm7_taxOf (ht) rfl rfl rfl rfl rfl (by omega) (Nat.le_of_ble_eq_true rfl) ?_
      refine jj_goto (tgt := 79) dX7_as_74 (by decide) ?_
      exact jj_leaf dX7_as_79 rfl rfl
    · subst q
      refine jj_iload_n dX7_as_0 rfl ?_
      refine jj_callS (M2 := m7_isField) dX7_as_1 ml7_169 tm7_isField (ev7_isField_v hf) rfl rfl (by omega) (Nat.le_of_ble_eq_true rfl) ?_
      refine jj_if_ne (tgt := 10) dX7_as_4 (by decide) (fun _ => ?_) (fun zz => absurd zz (by decide))
      refine jj_iload_n dX7_as_10 rfl ?_
      refine jj_iconst (v := 0) dX7_as_11 (by decide) ?_
      refine jj_iconst (v := 4) dX7_as_12 (by decide) ?_
      refine jj_callS (M2 := m7_in) dX7_as_13 ml7_65 tm7_in (ev7_in (nI 1) 0 4) rfl rfl (by omega) (Nat.le_of_ble_eq_true rfl) ?_
      refine jj_if_ne (tgt := 22) dX7_as_16 (by decide) (fun _ => ?_) (fun zz => absurd zz (by decide))
      refine jj_aload_n dX7_as_22 rfl ?_
      refine jj_getf dX7_as_23 fl7_20 rfl rfl ?_
      refine jj_iload_n dX7_as_26 rfl ?_
      refine jv_iald dX7_as_27 rfl (hf) (by decide) ?_
      rw [hk]
      refine jj_istore_n dX7_as_28 rfl (by decide) rfl ?_
      refine jj_iload_n dX7_as_29 rfl ?_
      refine jj_if_eq (tgt := 57) dX7_as_30 (by decide) (fun zz => absurd zz (by decide)) (fun _ => ?_)
      refine jj_iload_n dX7_as_33 rfl ?_
      refine jj_iconst (v := 1) dX7_as_34 (by decide) ?_
      refine jj_icmp_ne (tgt := 50) dX7_as_35 (by decide) (fun zz => absurd rfl zz) (fun _ => ?_)
      refine jj_iload_n dX7_as_38 rfl ?_
      refine jj_iconst (v := 1) dX7_as_39 (by decide) ?_
      refine jj_iconst (v := 2) dX7_as_40 (by decide) ?_
      refine jj_callS (M2 := m7_in) dX7_as_41 ml7_65 tm7_in (ev7_in (nI 3) 1 2) rfl rfl (by omega) (Nat.le_of_ble_eq_true rfl) ?_
      refine jj_if_eq (tgt := 61) dX7_as_44 (by decide) (fun _ => ?_) (fun zz => absurd rfl zz)
      refine jj_iconst (v := 0) dX7_as_61 (by decide) ?_
      refine jj_istore dX7_as_62 (by decide) rfl ?_
      refine jj_iload dX7_as_64 rfl ?_
      refine jj_if_eq (tgt := 77) dX7_as_66 (by decide) (fun _ => ?_) (fun zz => absurd rfl zz)
      refine jj_bipush (v := (-4)) dX7_as_77 (by decide) ?_
      exact jj_leaf dX7_as_79 rfl rfl
  · subst q
    rcases (show n = 0 ∨ n = 1 ∨ n = 2 ∨ n = 3 by omega) with q | q | q | q
    · subst q
      refine jj_iload_n dX7_as_0 rfl ?_
      refine jj_callS (M2 := m7_isField) dX7_as_1 ml7_169 tm7_isField (ev7_isField_v hf) rfl rfl (by omega) (Nat.le_of_ble_eq_true rfl) ?_
      refine jj_if_ne (tgt := 10) dX7_as_4 (by decide) (fun _ => ?_) (fun zz => absurd zz (by decide))
      refine jj_iload_n dX7_as_10 rfl ?_
      refine jj_iconst (v := 0) dX7_as_11 (by decide) ?_
      refine jj_iconst (v := 4) dX7_as_12 (by decide) ?_
      refine jj_callS (M2 := m7_in) dX7_as_13 ml7_65 tm7_in (ev7_in (nI 2) 0 4) rfl rfl (by omega) (Nat.le_of_ble_eq_true rfl) ?_
      refine jj_if_ne (tgt := 22) dX7_as_16 (by decide) (fun _ => ?_) (fun zz => absurd zz (by decide))
      refine jj_aload_n dX7_as_22 rfl ?_
      refine jj_getf dX7_as_23 fl7_20 rfl rfl ?_
      refine jj_iload_n dX7_as_26 rfl ?_
      refine jv_iald dX7_as_27 rfl (hf) (by decide) ?_
      rw [hk]
      refine jj_istore_n dX7_as_28 rfl (by decide) rfl ?_
      refine jj_iload_n dX7_as_29 rfl ?_
      refine jj_if_eq (tgt := 57) dX7_as_30 (by decide) (fun zz => absurd zz (by decide)) (fun _ => ?_)
      refine jj_iload_n dX7_as_33 rfl ?_
      refine jj_iconst (v := 1) dX7_as_34 (by decide) ?_
      refine jj_icmp_ne (tgt := 50) dX7_as_35 (by decide) (fun _ => ?_) (fun zz => absurd zz (by decide))
      refine jj_iload_n dX7_as_50 rfl ?_
      refine jj_iload_n dX7_as_51 rfl ?_
      refine jj_iconst (v := 1) dX7_as_52 (by decide) ?_
      refine jj_isub dX7_as_53 rfl ?_
      refine jj_icmp_ne (tgt := 61) dX7_as_54 (by decide) (fun _ => ?_) (fun zz => absurd zz (by decide))
      refine jj_iconst (v := 0) dX7_as_61 (by decide) ?_
      refine jj_istore dX7_as_62 (by decide) rfl ?_
      refine jj_iload dX7_as_64 rfl ?_
      refine jj_if_eq (tgt := 77) dX7_as_66 (by decide) (fun _ => ?_) (fun zz => absurd rfl zz)
      refine jj_bipush (v := (-4)) dX7_as_77 (by decide) ?_
      exact jj_leaf dX7_as_79 rfl rfl
    · subst q
      refine jj_iload_n dX7_as_0 rfl ?_
      refine jj_callS (M2 := m7_isField) dX7_as_1 ml7_169 tm7_isField (ev7_isField_v hf) rfl rfl (by omega) (Nat.le_of_ble_eq_true rfl) ?_
      refine jj_if_ne (tgt := 10) dX7_as_4 (by decide) (fun _ => ?_) (fun zz => absurd zz (by decide))
      refine jj_iload_n dX7_as_10 rfl ?_
      refine jj_iconst (v := 0) dX7_as_11 (by decide) ?_
      refine jj_iconst (v := 4) dX7_as_12 (by decide) ?_
      refine jj_callS (M2 := m7_in) dX7_as_13 ml7_65 tm7_in (ev7_in (nI 2) 0 4) rfl rfl (by omega) (Nat.le_of_ble_eq_true rfl) ?_
      refine jj_if_ne (tgt := 22) dX7_as_16 (by decide) (fun _ => ?_) (fun zz => absurd zz (by decide))
      refine jj_aload_n dX7_as_22 rfl ?_
      refine jj_getf dX7_as_23 fl7_20 rfl rfl ?_
      refine jj_iload_n dX7_as_26 rfl ?_
      refine jv_iald dX7_as_27 rfl (hf) (by decide) ?_
      rw [hk]
      refine jj_istore_n dX7_as_28 rfl (by decide) rfl ?_
      refine jj_iload_n dX7_as_29 rfl ?_
      refine jj_if_eq (tgt := 57) dX7_as_30 (by decide) (fun zz => absurd zz (by decide)) (fun _ => ?_)
      refine jj_iload_n dX7_as_33 rfl ?_
      refine jj_iconst (v := 1) dX7_as_34 (by decide) ?_
      refine jj_icmp_ne (tgt := 50) dX7_as_35 (by decide) (fun _ => ?_) (fun zz => absurd zz (by decide))
      refine jj_iload_n dX7_as_50 rfl ?_
      refine jj_iload_n dX7_as_51 rfl ?_
      refine jj_iconst (v := 1) dX7_as_52 (by decide) ?_
      refine jj_isub dX7_as_53 rfl ?_
      refine jj_icmp_ne (tgt := 61) dX7_as_54 (by decide) (fun zz => absurd rfl zz) (fun _ => ?_)
      refine jj_iconst (v := 1) dX7_as_57 (by decide) ?_
      refine jj_goto (tgt := 62) dX7_as_58 (by decide) ?_
      refine jj_istore dX7_as_62 (by decide) rfl ?_
      refine jj_iload dX7_as_64 rfl ?_
      refine jj_if_eq (tgt := 77) dX7_as_66 (by decide) (fun zz => absurd zz (by decide)) (fun _ => ?_)
      refine jj_aload_n dX7_as_69 rfl ?_
      refine jj_iload_n dX7_as_70 rfl ?_
      refine jj_callV (M2 := m7_taxOf) dX7_as_71 ml7_191 tm7_taxOf (ht) rfl rfl rfl rfl rfl (by omega) (Nat.le_of_ble_eq_true rfl) ?_
      refine jj_goto (tgt := 79) dX7_as_74 (by decide) ?_
      exact jj_leaf dX7_as_79 rfl rfl
    · subst q
      refine jj_iload_n dX7_as_0 rfl ?_
      refine jj_callS (M2 := m7_isField) dX7_as_1 ml7_169 tm7_isField (ev7_isField_v hf) rfl rfl (by omega) (Nat.le_of_ble_eq_true rfl) ?_
      refine jj_if_ne (tgt := 10) dX7_as_4 (by decide) (fun _ => ?_) (fun zz => absurd zz (by decide))
      refine jj_iload_n dX7_as_10 rfl ?_
      refine jj_iconst (v := 0) dX7_as_11 (by decide) ?_
      refine jj_iconst (v := 4) dX7_as_12 (by decide) ?_
      refine jj_callS (M2 := m7_in) dX7_as_13 ml7_65 tm7_in (ev7_in (nI 2) 0 4) rfl rfl (by omega) (Nat.le_of_ble_eq_true rfl) ?_
      refine jj_if_ne (tgt := 22) dX7_as_16 (by decide) (fun _ => ?_) (fun zz => absurd zz (by decide))
      refine jj_aload_n dX7_as_22 rfl ?_
      refine jj_getf dX7_as_23 fl7_20 rfl rfl ?_
      refine jj_iload_n dX7_as_26 rfl ?_
      refine jv_iald dX7_as_27 rfl (hf) (by decide) ?_
      rw [hk]
      refine jj_istore_n dX7_as_28 rfl (by decide) rfl ?_
      refine jj_iload_n dX7_as_29 rfl ?_
      refine jj_if_eq (tgt := 57) dX7_as_30 (by decide) (fun zz => absurd zz (by decide)) (fun _ => ?_)
      refine jj_iload_n dX7_as_33 rfl ?_
      refine jj_iconst (v := 1) dX7_as_34 (by decide) ?_
      refine jj_icmp_ne (tgt := 50) dX7_as_35 (by decide) (fun _ => ?_) (fun zz => absurd zz (by decide))
      refine jj_iload_n dX7_as_50 rfl ?_
      refine jj_iload_n dX7_as_51 rfl ?_
      refine jj_iconst (v := 1) dX7_as_52 (by decide) ?_
      refine jj_isub dX7_as_53 rfl ?_
      refine jj_icmp_ne (tgt := 61) dX7_as_54 (by decide) (fun _ => ?_) (fun zz => absurd zz (by decide))
      refine jj_iconst (v := 0) dX7_as_61 (by decide) ?_
      refine jj_istore dX7_as_62 (by decide) rfl ?_
      refine jj_iload dX7_as_64 rfl ?_
      refine jj_if_eq (tgt := 77) dX7_as_66 (by decide) (fun _ => ?_) (fun zz => absurd rfl zz)
      refine jj_bipush (v := (-4)) dX7_as_77 (by decide) ?_
      exact jj_leaf dX7_as_79 rfl rfl
    · subst q
      refine jj_iload_n dX7_as_0 rfl ?_
      refine jj_callS (M2 := m7_isField) dX7_as_1 ml7_169 tm7_isField (ev7_isField_v hf) rfl rfl (by omega) (Nat.le_of_ble_eq_true rfl) ?_
      refine jj_if_ne (tgt := 10) dX7_as_4 (by decide) (fun _ => ?_) (fun zz => absurd zz (by decide))
      refine jj_iload_n dX7_as_10 rfl ?_
      refine jj_iconst (v := 0) dX7_as_11 (by decide) ?_
      refine jj_iconst (v := 4) dX7_as_12 (by decide) ?_
      refine jj_callS (M2 := m7_in) dX7_as_13 ml7_65 tm7_in (ev7_in (nI 2) 0 4) rfl rfl (by omega) (Nat.le_of_ble_eq_true rfl) ?_
      refine jj_if_ne (tgt := 22) dX7_as_16 (by decide) (fun _ => ?_) (fun zz => absurd zz (by decide))
      refine jj_aload_n dX7_as_22 rfl ?_
      refine jj_getf dX7_as_23 fl7_20 rfl rfl ?_
      refine jj_iload_n dX7_as_26 rfl ?_
      refine jv_iald dX7_as_27 rfl (hf) (by decide) ?_
      rw [hk]
      refine jj_istore_n dX7_as_28 rfl (by decide) rfl ?_
      refine jj_iload_n dX7_as_29 rfl ?_
      refine jj_if_eq (tgt := 57) dX7_as_30 (by decide) (fun zz => absurd zz (by decide)) (fun _ => ?_)
      refine jj_iload_n dX7_as_33 rfl ?_
      refine jj_iconst (v := 1) dX7_as_34 (by decide) ?_
      refine jj_icmp_ne (tgt := 50) dX7_as_35 (by decide) (fun _ => ?_) (fun zz => absurd zz (by decide))
      refine jj_iload_n dX7_as_50 rfl ?_
      refine jj_iload_n dX7_as_51 rfl ?_
      refine jj_iconst (v := 1) dX7_as_52 (by decide) ?_
      refine jj_isub dX7_as_53 rfl ?_
      refine jj_icmp_ne (tgt := 61) dX7_as_54 (by decide) (fun _ => ?_) (fun zz => absurd zz (by decide))
      refine jj_iconst (v := 0) dX7_as_61 (by decide) ?_
      refine jj_istore dX7_as_62 (by decide) rfl ?_
      refine jj_iload dX7_as_64 rfl ?_
      refine jj_if_eq (tgt := 77) dX7_as_66 (by decide) (fun _ => ?_) (fun zz => absurd rfl zz)
      refine jj_bipush (v := (-4)) dX7_as_77 (by decide) ?_
      exact jj_leaf dX7_as_79 rfl rfl
  · subst q
    rcases (show n = 0 ∨ n = 1 ∨ n = 2 ∨ n = 3 by omega) with q | q | q | q
    · subst q
      refine jj_iload_n dX7_as_0 rfl ?_
      refine jj_callS (M2 := m7_isField) dX7_as_1 ml7_169 tm7_isField (ev7_isField_v hf) rfl rfl (by omega) (Nat.le_of_ble_eq_true rfl) ?_
      refine jj_if_ne (tgt := 10) dX7_as_4 (by decide) (fun _ => ?_) (fun zz => absurd zz (by decide))
      refine jj_iload_n dX7_as_10 rfl ?_
      refine jj_iconst (v := 0) dX7_as_11 (by decide) ?_
      refine jj_iconst (v := 4) dX7_as_12 (by decide) ?_
      refine jj_callS (M2 := m7_in) dX7_as_13 ml7_65 tm7_in (ev7_in (nI 3) 0 4) rfl rfl (by omega) (Nat.le_of_ble_eq_true rfl) ?_
      refine jj_if_ne (tgt := 22) dX7_as_16 (by decide) (fun _ => ?_) (fun zz => absurd zz (by decide))
      refine jj_aload_n dX7_as_22 rfl ?_
      refine jj_getf dX7_as_23 fl7_20 rfl rfl ?_
      refine jj_iload_n dX7_as_26 rfl ?_
      refine jv_iald dX7_as_27 rfl (hf) (by decide) ?_
      rw [hk]
      refine jj_istore_n dX7_as_28 rfl (by decide) rfl ?_
      refine jj_iload_n dX7_as_29 rfl ?_
      refine jj_if_eq (tgt := 57) dX7_as_30 (by decide) (fun zz => absurd zz (by decide)) (fun _ => ?_)
      refine jj_iload_n dX7_as_33 rfl ?_
      refine jj_iconst (v := 1) dX7_as_34 (by decide) ?_
      refine jj_icmp_ne (tgt := 50) dX7_as_35 (by decide) (fun _ => ?_) (fun zz => absurd zz (by decide))
      refine jj_iload_n dX7_as_50 rfl ?_
      refine jj_iload_n dX7_as_51 rfl ?_
      refine jj_iconst (v := 1) dX7_as_52 (by decide) ?_
      refine jj_isub dX7_as_53 rfl ?_
      refine jj_icmp_ne (tgt := 61) dX7_as_54 (by decide) (fun _ => ?_) (fun zz => absurd zz (by decide))
      refine jj_iconst (v := 0) dX7_as_61 (by decide) ?_
      refine jj_istore dX7_as_62 (by decide) rfl ?_
      refine jj_iload dX7_as_64 rfl ?_
      refine jj_if_eq (tgt := 77) dX7_as_66 (by decide) (fun _ => ?_) (fun zz => absurd rfl zz)
      refine jj_bipush (v := (-4)) dX7_as_77 (by decide) ?_
      exact jj_leaf dX7_as_79 rfl rfl
    · subst q
      refine jj_iload_n dX7_as_0 rfl ?_
      refine jj_callS (M2 := m7_isField) dX7_as_1 ml7_169 tm7_isField (ev7_isField_v hf) rfl rfl (by omega) (Nat.le_of_ble_eq_true rfl) ?_
      refine jj_if_ne (tgt := 10) dX7_as_4 (by decide) (fun _ => ?_) (fun zz => absurd zz (by decide))
      refine jj_iload_n dX7_as_10 rfl ?_
      refine jj_iconst (v := 0) dX7_as_11 (by decide) ?_
      refine jj_iconst (v := 4) dX7_as_12 (by decide) ?_
      refine jj_callS (M2 := m7_in) dX7_as_13 ml7_65 tm7_in (ev7_in (nI 3) 0 4) rfl rfl (by omega) (Nat.le_of_ble_eq_true rfl) ?_
      refine jj_if_ne (tgt := 22) dX7_as_16 (by decide) (fun _ => ?_) (fun zz => absurd zz (by decide))
      refine jj_aload_n dX7_as_22 rfl ?_
      refine jj_getf dX7_as_23 fl7_20 rfl rfl ?_
      refine jj_iload_n dX7_as_26 rfl ?_
      refine jv_iald dX7_as_27 rfl (hf) (by decide) ?_
      rw [hk]
      refine jj_istore_n dX7_as_28 rfl (by decide) rfl ?_
      refine jj_iload_n dX7_as_29 rfl ?_
      refine jj_if_eq (tgt := 57) dX7_as_30 (by decide) (fun zz => absurd zz (by decide)) (fun _ => ?_)
      refine jj_iload_n dX7_as_33 rfl ?_
      refine jj_iconst (v := 1) dX7_as_34 (by decide) ?_
      refine jj_icmp_ne (tgt := 50) dX7_as_35 (by decide) (fun _ => ?_) (fun zz => absurd zz (by decide))
      refine jj_iload_n dX7_as_50 rfl ?_
      refine jj_iload_n dX7_as_51 rfl ?_
      refine jj_iconst (v := 1) dX7_as_52 (by decide) ?_
      refine jj_isub dX7_as_53 rfl ?_
      refine jj_icmp_ne (tgt := 61) dX7_as_54 (by decide) (fun _ => ?_) (fun zz => absurd zz (by decide))
      refine jj_iconst (v := 0) dX7_as_61 (by decide) ?_
      refine jj_istore dX7_as_62 (by decide) rfl ?_
      refine jj_iload dX7_as_64 rfl ?_
      refine jj_if_eq (tgt := 77) dX7_as_66 (by decide) (fun _ => ?_) (fun zz => absurd rfl zz)
      refine jj_bipush (v := (-4)) dX7_as_77 (by decide) ?_
      exact jj_leaf dX7_as_79 rfl rfl
    · subst q
      refine jj_iload_n dX7_as_0 rfl ?_
      refine jj_callS (M2 := m7_isField) dX7_as_1 ml7_169 tm7_isField (ev7_isField_v hf) rfl rfl (by omega) (Nat.le_of_ble_eq_true rfl) ?_
      refine jj_if_ne (tgt := 10) dX7_as_4 (by decide) (fun _ => ?_) (fun zz => absurd zz (by decide))
      refine jj_iload_n dX7_as_10 rfl ?_
      refine jj_iconst (v := 0) dX7_as_11 (by decide) ?_
      refine jj_iconst (v := 4) dX7_as_12 (by decide) ?_
      refine jj_callS (M2 := m7_in) dX7_as_13 ml7_65 tm7_in (ev7_in (nI 3) 0 4) rfl rfl (by omega) (Nat.le_of_ble_eq_true rfl) ?_
      refine jj_if_ne (tgt := 22) dX7_as_16 (by decide) (fun _ => ?_) (fun zz => absurd zz (by decide))
      refine jj_aload_n dX7_as_22 rfl ?_
      refine jj_getf dX7_as_23 fl7_20 rfl rfl ?_
      refine jj_iload_n dX7_as_26 rfl ?_
      refine jv_iald dX7_as_27 rfl (hf) (by decide) ?_
      rw [hk]
      refine jj_istore_n dX7_as_28 rfl (by decide) rfl ?_
      refine jj_iload_n dX7_as_29 rfl ?_
      refine jj_if_eq (tgt := 57) dX7_as_30 (by decide) (fun zz => absurd zz (by decide)) (fun _ => ?_)
      refine jj_iload_n dX7_as_33 rfl ?_
      refine jj_iconst (v := 1) dX7_as_34 (by decide) ?_
      refine jj_icmp_ne (tgt := 50) dX7_as_35 (by decide) (fun _ => ?_) (fun zz => absurd zz (by decide))
      refine jj_iload_n dX7_as_50 rfl ?_
      refine jj_iload_n dX7_as_51 rfl ?_
      refine jj_iconst (v := 1) dX7_as_52 (by decide) ?_
      refine jj_isub dX7_as_53 rfl ?_
      refine jj_icmp_ne (tgt := 61) dX7_as_54 (by decide) (fun zz => absurd rfl zz) (fun _ => ?_)
      refine jj_iconst (v := 1) dX7_as_57 (by decide) ?_
      refine jj_goto (tgt := 62) dX7_as_58 (by decide) ?_
      refine jj_istore dX7_as_62 (by decide) rfl ?_
      refine jj_iload dX7_as_64 rfl ?_
      refine jj_if_eq (tgt := 77) dX7_as_66 (by decide) (fun zz => absurd zz (by decide)) (fun _ => ?_)
      refine jj_aload_n dX7_as_69 rfl ?_
      refine jj_iload_n dX7_as_70 rfl ?_
      refine jj_callV (M2 := m7_taxOf) dX7_as_71 ml7_191 tm7_taxOf (ht) rfl rfl rfl rfl rfl (by omega) (Nat.le_of_ble_eq_true rfl) ?_
      refine jj_goto (tgt := 79) dX7_as_74 (by decide) ?_
      exact jj_leaf dX7_as_79 rfl rfl
    · subst q
      refine jj_iload_n dX7_as_0 rfl ?_
      refine jj_callS (M2 := m7_isField) dX7_as_1 ml7_169 tm7_isField (ev7_isField_v hf) rfl rfl (by omega) (Nat.le_of_ble_eq_true rfl) ?_
      refine jj_if_ne (tgt := 10) dX7_as_4 (by decide) (fun _ => ?_) (fun zz => absurd zz (by decide))
      refine jj_iload_n dX7_as_10 rfl ?_
      refine jj_iconst (v := 0) dX7_as_11 (by decide) ?_
      refine jj_iconst (v := 4) dX7_as_12 (by decide) ?_
      refine jj_callS (M2 := m7_in) dX7_as_13 ml7_65 tm7_in (ev7_in (nI 3) 0 4) rfl rfl (by omega) (Nat.le_of_ble_eq_true rfl) ?_
      refine jj_if_ne (tgt := 22) dX7_as_16 (by decide) (fun _ => ?_) (fun zz => absurd zz (by decide))
      refine jj_aload_n dX7_as_22 rfl ?_
      refine jj_getf dX7_as_23 fl7_20 rfl rfl ?_
      refine jj_iload_n dX7_as_26 rfl ?_
      refine jv_iald dX7_as_27 rfl (hf) (by decide) ?_
      rw [hk]
      refine jj_istore_n dX7_as_28 rfl (by decide) rfl ?_
      refine jj_iload_n dX7_as_29 rfl ?_
      refine jj_if_eq (tgt := 57) dX7_as_30 (by decide) (fun zz => absurd zz (by decide)) (fun _ => ?_)
      refine jj_iload_n dX7_as_33 rfl ?_
      refine jj_iconst (v := 1) dX7_as_34 (by decide) ?_
      refine jj_icmp_ne (tgt := 50) dX7_as_35 (by decide) (fun _ => ?_) (fun zz => absurd zz (by decide))
      refine jj_iload_n dX7_as_50 rfl ?_
      refine jj_iload_n dX7_as_51 rfl ?_
      refine jj_iconst (v := 1) dX7_as_52 (by decide) ?_
      refine jj_isub dX7_as_53 rfl ?_
      refine jj_icmp_ne (tgt := 61) dX7_as_54 (by decide) (fun _ => ?_) (fun zz => absurd zz (by decide))
      refine jj_iconst (v := 0) dX7_as_61 (by decide) ?_
      refine jj_istore dX7_as_62 (by decide) rfl ?_
      refine jj_iload dX7_as_64 rfl ?_
      refine jj_if_eq (tgt := 77) dX7_as_66 (by decide) (fun _ => ?_) (fun zz => absurd rfl zz)
      refine jj_bipush (v := (-4)) dX7_as_77 (by decide) ?_
      exact jj_leaf dX7_as_79 rfl rfl
  · subst q
    rcases (show n = 0 ∨ n = 1 ∨ n = 2 ∨ n = 3 by omega) with q | q | q | q
    · subst q
      refine jj_iload_n dX7_as_0 rfl ?_
      refine jj_callS (M2 := m7_isField) dX7_as_1 ml7_169 tm7_isField (ev7_isField_v hf) rfl rfl (by omega) (Nat.le_of_ble_eq_true rfl) ?_
      refine jj_if_ne (tgt := 10) dX7_as_4 (by decide) (fun _ => ?_) (fun zz => absurd zz (by decide))
      refine jj_iload_n dX7_as_10 rfl ?_
      refine jj_iconst (v := 0) dX7_as_11 (by decide) ?_
      refine jj_iconst (v := 4) dX7_as_12 (by decide) ?_
      refine jj_callS (M2 := m7_in) dX7_as_13 ml7_65 tm7_in (ev7_in (nI 4) 0 4) rfl rfl (by omega) (Nat.le_of_ble_eq_true rfl) ?_
      refine jj_if_ne (tgt := 22) dX7_as_16 (by decide) (fun _ => ?_) (fun zz => absurd zz (by decide))
      refine jj_aload_n dX7_as_22 rfl ?_
      refine jj_getf dX7_as_23 fl7_20 rfl rfl ?_
      refine jj_iload_n dX7_as_26 rfl ?_
      refine jv_iald dX7_as_27 rfl (hf) (by decide) ?_
      rw [hk]
      refine jj_istore_n dX7_as_28 rfl (by decide) rfl ?_
      refine jj_iload_n dX7_as_29 rfl ?_
      refine jj_if_eq (tgt := 57) dX7_as_30 (by decide) (fun zz => absurd zz (by decide)) (fun _ => ?_)
      refine jj_iload_n dX7_as_33 rfl ?_
      refine jj_iconst (v := 1) dX7_as_34 (by decide) ?_
      refine jj_icmp_ne (tgt := 50) dX7_as_35 (by decide) (fun _ => ?_) (fun zz => absurd zz (by decide))
      refine jj_iload_n dX7_as_50 rfl ?_
      refine jj_iload_n dX7_as_51 rfl ?_
      refine jj_iconst (v := 1) dX7_as_52 (by decide) ?_
      refine jj_isub dX7_as_53 rfl ?_
      refine jj_icmp_ne (tgt := 61) dX7_as_54 (by decide) (fun _ => ?_) (fun zz => absurd zz (by decide))
      refine jj_iconst (v := 0) dX7_as_61 (by decide) ?_
      refine jj_istore dX7_as_62 (by decide) rfl ?_
      refine jj_iload dX7_as_64 rfl ?_
      refine jj_if_eq (tgt := 77) dX7_as_66 (by decide) (fun _ => ?_) (fun zz => absurd rfl zz)
      refine jj_bipush (v := (-4)) dX7_as_77 (by decide) ?_
      exact jj_leaf dX7_as_79 rfl rfl
    · subst q
      refine jj_iload_n dX7_as_0 rfl ?_
      refine jj_callS (M2 := m7_isField) dX7_as_1 ml7_169 tm7_isField (ev7_isField_v hf) rfl rfl (by omega) (Nat.le_of_ble_eq_true rfl) ?_
      refine jj_if_ne (tgt := 10) dX7_as_4 (by decide) (fun _ => ?_) (fun zz => absurd zz (by decide))
      refine jj_iload_n dX7_as_10 rfl ?_
      refine jj_iconst (v := 0) dX7_as_11 (by decide) ?_
      refine jj_iconst (v := 4) dX7_as_12 (by decide) ?_
      refine jj_callS (M2 := m7_in) dX7_as_13 ml7_65 tm7_in (ev7_in (nI 4) 0 4) rfl rfl (by omega) (Nat.le_of_ble_eq_true rfl) ?_
      refine jj_if_ne (tgt := 22) dX7_as_16 (by decide) (fun _ => ?_) (fun zz => absurd zz (by decide))
      refine jj_aload_n dX7_as_22 rfl ?_
      refine jj_getf dX7_as_23 fl7_20 rfl rfl ?_
      refine jj_iload_n dX7_as_26 rfl ?_
      refine jv_iald dX7_as_27 rfl (hf) (by decide) ?_
      rw [hk]
      refine jj_istore_n dX7_as_28 rfl (by decide) rfl ?_
      refine jj_iload_n dX7_as_29 rfl ?_
      refine jj_if_eq (tgt := 57) dX7_as_30 (by decide) (fun zz => absurd zz (by decide)) (fun _ => ?_)
      refine jj_iload_n dX7_as_33 rfl ?_
      refine jj_iconst (v := 1) dX7_as_34 (by decide) ?_
      refine jj_icmp_ne (tgt := 50) dX7_as_35 (by decide) (fun _ => ?_) (fun zz => absurd zz (by decide))
      refine jj_iload_n dX7_as_50 rfl ?_
      refine jj_iload_n dX7_as_51 rfl ?_
      refine jj_iconst (v := 1) dX7_as_52 (by decide) ?_
      refine jj_isub dX7_as_53 rfl ?_
      refine jj_icmp_ne (tgt := 61) dX7_as_54 (by decide) (fun _ => ?_) (fun zz => absurd zz (by decide))
      refine jj_iconst (v := 0) dX7_as_61 (by decide) ?_
      refine jj_istore dX7_as_62 (by decide) rfl ?_
      refine jj_iload dX7_as_64 rfl ?_
      refine jj_if_eq (tgt := 77) dX7_as_66 (by decide) (fun _ => ?_) (fun zz => absurd rfl zz)
      refine jj_bipush (v := (-4)) dX7_as_77 (by decide) ?_
      exact jj_leaf dX7_as_79 rfl rfl
    · subst q
      refine jj_iload_n dX7_as_0 rfl ?_
      refine jj_callS (M2 := m7_isField) dX7_as_1 ml7_169 tm7_isField (ev7_isField_v hf) rfl rfl (by omega) (Nat.le_of_ble_eq_true rfl) ?_
      refine jj_if_ne (tgt := 10) dX7_as_4 (by decide) (fun _ => ?_) (fun zz => absurd zz (by decide))
      refine jj_iload_n dX7_as_10 rfl ?_
      refine jj_iconst (v := 0) dX7_as_11 (by decide) ?_
      refine jj_iconst (v := 4) dX7_as_12 (by decide) ?_
      refine jj_callS (M2 := m7_in) dX7_as_13 ml7_65 tm7_in (ev7_in (nI 4) 0 4) rfl rfl (by omega) (Nat.le_of_ble_eq_true rfl) ?_
      refine jj_if_ne (tgt := 22) dX7_as_16 (by decide) (fun _ => ?_) (fun zz => absurd zz (by decide))
      refine jj_aload_n dX7_as_22 rfl ?_
      refine jj_getf dX7_as_23 fl7_20 rfl rfl ?_
      refine jj_iload_n dX7_as_26 rfl ?_
      refine jv_iald dX7_as_27 rfl (hf) (by decide) ?_
      rw [hk]
      refine jj_istore_n dX7_as_28 rfl (by decide) rfl ?_
      refine jj_iload_n dX7_as_29 rfl ?_
      refine jj_if_eq (tgt := 57) dX7_as_30 (by decide) (fun zz => absurd zz (by decide)) (fun _ => ?_)
      refine jj_iload_n dX7_as_33 rfl ?_
      refine jj_iconst (v := 1) dX7_as_34 (by decide) ?_
      refine jj_icmp_ne (tgt := 50) dX7_as_35 (by decide) (fun _ => ?_) (fun zz => absurd zz (by decide))
      refine jj_iload_n dX7_as_50 rfl ?_
      refine jj_iload_n dX7_as_51 rfl ?_
      refine jj_iconst (v := 1) dX7_as_52 (by decide) ?_
      refine jj_isub dX7_as_53 rfl ?_
      refine jj_icmp_ne (tgt := 61) dX7_as_54 (by decide) (fun _ => ?_) (fun zz => absurd zz (by decide))
      refine jj_iconst (v := 0) dX7_as_61 (by decide) ?_
      refine jj_istore dX7_as_62 (by decide) rfl ?_
      refine jj_iload dX7_as_64 rfl ?_
      refine jj_if_eq (tgt := 77) dX7_as_66 (by decide) (fun _ => ?_) (fun zz => absurd rfl zz)
      refine jj_bipush (v := (-4)) dX7_as_77 (by decide) ?_
      exact jj_leaf dX7_as_79 rfl rfl
    · subst q
      refine jj_iload_n dX7_as_0 rfl ?_
      refine jj_callS (M2 := m7_isField) dX7_as_1 ml7_169 tm7_isField (ev7_isField_v hf) rfl rfl (by omega) (Nat.le_of_ble_eq_true rfl) ?_
      refine jj_if_ne (tgt := 10) dX7_as_4 (by decide) (fun _ => ?_) (fun zz => absurd zz (by decide))
      refine jj_iload_n dX7_as_10 rfl ?_
      refine jj_iconst (v := 0) dX7_as_11 (by decide) ?_
      refine jj_iconst (v := 4) dX7_as_12 (by decide) ?_
      refine jj_callS (M2 := m7_in) dX7_as_13 ml7_65 tm7_in (ev7_in (nI 4) 0 4) rfl rfl (by omega) (Nat.le_of_ble_eq_true rfl) ?_
      refine jj_if_ne (tgt := 22) dX7_as_16 (by decide) (fun _ => ?_) (fun zz => absurd zz (by decide))
      refine jj_aload_n dX7_as_22 rfl ?_
      refine jj_getf dX7_as_23 fl7_20 rfl rfl ?_
      refine jj_iload_n dX7_as_26 rfl ?_
      refine jv_iald dX7_as_27 rfl (hf) (by decide) ?_
      rw [hk]
      refine jj_istore_n dX7_as_28 rfl (by decide) rfl ?_
      refine jj_iload_n dX7_as_29 rfl ?_
      refine jj_if_eq (tgt := 57) dX7_as_30 (by decide) (fun zz => absurd zz (by decide)) (fun _ => ?_)
      refine jj_iload_n dX7_as_33 rfl ?_
      refine jj_iconst (v := 1) dX7_as_34 (by decide) ?_
      refine jj_icmp_ne (tgt := 50) dX7_as_35 (by decide) (fun _ => ?_) (fun zz => absurd zz (by decide))
      refine jj_iload_n dX7_as_50 rfl ?_
      refine jj_iload_n dX7_as_51 rfl ?_
      refine jj_iconst (v := 1) dX7_as_52 (by decide) ?_
      refine jj_isub dX7_as_53 rfl ?_
      refine jj_icmp_ne (tgt := 61) dX7_as_54 (by decide) (fun zz => absurd rfl zz) (fun _ => ?_)
      refine jj_iconst (v := 1) dX7_as_57 (by decide) ?_
      refine jj_goto (tgt := 62) dX7_as_58 (by decide) ?_
      refine jj_istore dX7_as_62 (by decide) rfl ?_
      refine jj_iload dX7_as_64 rfl ?_
      refine jj_if_eq (tgt := 77) dX7_as_66 (by decide) (fun zz => absurd zz (by decide)) (fun _ => ?_)
      refine jj_aload_n dX7_as_69 rfl ?_
      refine jj_iload_n dX7_as_70 rfl ?_
      refine jj_callV (M2 := m7_taxOf) dX7_as_71 ml7_191 tm7_taxOf (ht) rfl rfl rfl rfl rfl (by omega) (Nat.le_of_ble_eq_true rfl) ?_
      refine jj_goto (tgt := 79) dX7_as_74 (by decide) ?_
      exact jj_leaf dX7_as_79 rfl rfl
set_option maxRecDepth 100000 in
set_option maxHeartbeats 1500000 in
theorem ev7_inside_b {G : jj_G} {s : jj_S} {x : Int32} (hx : ¬ vF x) : jj_Ev G m7_inside 2 [.ref 28, .int x] (jj_m s) 0 0 (some (.int (-2))) (jj_m s) := by
  refine jj_Ev_of (lo := [some (.ref 28), some (.int x)]) (by decide +kernel) (Nat.le_of_ble_eq_true rfl) rfl (by trivial) ?_
  refine jj_iload_n dX7_inside_0 rfl ?_
  refine jj_callS (M2 := m7_isField) dX7_inside_1 ml7_169 tm7_isField (ev7_isField x) rfl rfl (by omega) (Nat.le_of_ble_eq_true rfl) ?_
  refine jj_if_eq (tgt := 15) dX7_inside_4 (by decide) (fun _ => ?_) (fun zz => absurd (jb_bf hx) zz)
  refine jj_bipush (v := (-2)) dX7_inside_15 (by decide) ?_
  exact jj_leaf dX7_inside_17 rfl rfl
set_option maxRecDepth 100000 in
set_option maxHeartbeats 1500000 in
theorem ev7_inside {G : jj_G} {s : jj_S} {wl : Nat → Nat → Bool} {f : Nat} (hb : mb_ok s) (hw : mw_ok s wl) (hf : f < 12) : jj_Ev G m7_inside 2 [.ref 28, .int (nI f)] (jj_m s) 0 0 (some (.int (nI (j7_in (j7_o wl) f 12)))) (jj_m s) := by
  refine jj_Ev_of (lo := [some (.ref 28), some (.int (nI f))]) (by decide +kernel) (Nat.le_of_ble_eq_true rfl) rfl (by trivial) ?_
  refine jj_iload_n dX7_inside_0 rfl ?_
  refine jj_callS (M2 := m7_isField) dX7_inside_1 ml7_169 tm7_isField (ev7_isField_v hf) rfl rfl (by omega) (Nat.le_of_ble_eq_true rfl) ?_
  refine jj_if_eq (tgt := 15) dX7_inside_4 (by decide) (fun zz => absurd zz (by decide)) (fun _ => ?_)
  refine jj_aload_n dX7_inside_7 rfl ?_
  refine jj_iload_n dX7_inside_8 rfl ?_
  refine jj_callV (M2 := m7_insideOf) dX7_inside_9 ml7_203 tm7_insideOf (ev7_insideOf hb hw hf) rfl rfl rfl rfl rfl (by omega) (Nat.le_of_ble_eq_true rfl) ?_
  refine jj_goto (tgt := 17) dX7_inside_12 (by decide) ?_
  exact jj_leaf dX7_inside_17 rfl rfl
