/-! ROUNDS. A search: the row as far as it goes, the first round, how many -/
abbrev j5_T : Type := (Nat → Nat) × (Nat → Int32) × Int32
def j5_sT (s : jj_S) (T : j5_T) : jj_S := wa_rcS (wa_frS (wa_rwS s (fun j => nI (T.1 j))) T.2.1) T.2.2
def j5_end (l : Nat) (T : j5_T) : j5_T := if l.testBit (T.1 11) = true then (T.1, (if T.2.2 = 0 then jF (fun j => nI (T.1 j)) T.2.1 12 else T.2.1), T.2.2 + 1) else T
/-- fields 1 .. m, those of nx, each by a step -/
def j5_lp (f : Nat → j5_T → j5_T) (nx : Nat) : Nat → j5_T → j5_T
  | 0, T => T
  | m + 1, T => if nx.testBit (m + 1) = true then f (m + 1) (j5_lp f nx m T) else j5_lp f nx m T
def j5_gr (o : Nat → Nat) (l : Nat) : Nat → Nat → Nat → j5_T → j5_T
  | 0, _, _, T => j5_end l T
  | n + 1, d, u, T => if l &&& (4095 ^^^ u) = 0 then T else j5_lp (fun k T => j5_gr o l n (d + 1) (u ||| 2 ^ k) (jU T.1 d k, T.2)) (o (T.1 (d - 1)) &&& (4095 ^^^ u)) 11 T
theorem j5_lp_keep {f : Nat → j5_T → j5_T} {nx d : Nat} (hf : ∀ k T, ∀ j, j < d → (f k T).1 j = T.1 j) (T : j5_T) : ∀ m, ∀ j, j < d → (j5_lp f nx m T).1 j = T.1 j := by
  intro m
  induction m with
  | zero => intro j _; rfl
  | succ m ih =>
    intro j hj
    unfold j5_lp
    split
    · rw [hf _ _ j hj]; exact ih j hj
    · exact ih j hj
theorem j5_gr_keep (o : Nat → Nat) (l : Nat) : ∀ n d u T, ∀ j, j < d → (j5_gr o l n d u T).1 j = T.1 j := by
  intro n
  induction n with
  | zero =>
    intro d u T j _
    show (j5_end l T).1 j = T.1 j
    unfold j5_end
    split <;> rfl
  | succ n ih =>
    intro d u T j hj
    unfold j5_gr
    split
    · rfl
    · refine j5_lp_keep (fun k T j hj => ?_) T 11 j hj
      rw [ih (d + 1) _ _ j (by omega)]
      exact jU_ne _ _ (by omega)
theorem j5_nv {a u : Nat} (ha : a < 4096) : nI a &&& (nI u ^^^ (-1)) = nI (a &&& (4095 ^^^ u)) := by
  apply b_ext
  intro i hi
  rw [b_and, b_xor, b_m1 i hi, jb_nb _ _ hi, jb_nb _ _ hi, jb_nb _ _ hi, Nat.testBit_and, Nat.testBit_xor]
  by_cases h12 : i < 12
  · have e : ∀ i, i < 12 → (4095 : Nat).testBit i = true := by decide
    rw [e i h12, Bool.xor_comm]
  · have e : a.testBit i = false := Nat.testBit_lt_two_pow (Nat.lt_of_lt_of_le (show a < 2 ^ 12 from ha) (Nat.pow_le_pow_right (by decide) (show 12 ≤ i by omega)))
    rw [e, Bool.false_and, Bool.false_and]
theorem j5_nv_lt {a u : Nat} (ha : a < 4096) : a &&& (4095 ^^^ u) < 4096 := Nat.lt_of_le_of_lt Nat.and_le_left ha
/-- those of a behind k -/
def j5_la (a k : Nat) : Nat := a &&& (4095 ^^^ (2 ^ (k + 1) - 1))
theorem j5_la1 : ∀ k, k < 12 → ∀ i, i < 32 → bt (-((2 : Int32) <<< (nI k &&& 31))) i = decide (k + 1 ≤ i) := by decide +kernel
theorem j5_la2 : ∀ k, k < 12 → ∀ i, i < 12 → (4095 ^^^ (2 ^ (k + 1) - 1)).testBit i = decide (k + 1 ≤ i) := by decide +kernel
theorem j5_lav {a k : Nat} (ha : a < 4096) (hk : k < 12) : nI a &&& (-((2 : Int32) <<< (nI k &&& 31))) = nI (j5_la a k) := by
  apply b_ext
  intro i hi
  rw [b_and, j5_la1 k hk i hi, jb_nb _ _ hi, jb_nb _ _ hi, j5_la, Nat.testBit_and]
  by_cases h12 : i < 12
  · rw [j5_la2 k hk i h12]
  · have e : a.testBit i = false := Nat.testBit_lt_two_pow (Nat.lt_of_lt_of_le (show a < 2 ^ 12 from ha) (Nat.pow_le_pow_right (by decide) (show 12 ≤ i by omega)))
    rw [e, Bool.false_and, Bool.false_and]
theorem j5_rU (s : jj_S) (T : j5_T) (d k : Nat) : wa_rwS (j5_sT s T) (jU (wa_rw (j5_sT s T)) d (nI k)) = j5_sT s (jU T.1 d k, T.2) := by
  have e : jU (wa_rw (j5_sT s T)) d (nI k) = fun j => nI (jU T.1 d k j) := by
    funext j
    by_cases h : j = d
    · subst h; rw [jU_at, jU_at]
    · rw [jU_ne _ _ h, jU_ne _ _ h]; rfl
  rw [e]
  unfold j5_sT wa_rcS wa_frS wa_rwS
  congr 1
  simp only [wa_rw]
  congr 1
  funext j
  unfold jU
  by_cases h1 : j = 8
  · simp [h1]
  · by_cases h2 : j = 7
    · simp [h2]
    · simp [h1, h2]
set_option maxRecDepth 100000 in
set_option maxHeartbeats 4000000 in
theorem ev5_putInRow {G : jj_G} {s : jj_S} {k : Nat} (x : Int32) (hk : k < 12) : jj_Ev G m5_putInRow 0 [.ref 9, .int (nI k), .int x] (jj_m s) 0 0 (none) (jj_m (wa_rwS s (jU (wa_rw s) k x))) := by
  refine jj_Ev_of (lo := [some (.ref 9), some (.int (nI k)), some (.int x)]) (by decide +kernel) (Nat.le_of_ble_eq_true rfl) rfl (by trivial) ?_
  refine jj_iload_n dX5_putInRow_0 rfl ?_
  refine jj_if_lt (tgt := 20) dX5_putInRow_1 (by decide) (fun zz => absurd zz (jb_lt0 (by omega))) (fun _ => ?_)
  refine jj_iload_n dX5_putInRow_4 rfl ?_
  refine jj_aload_n dX5_putInRow_5 rfl ?_
  refine jj_getf dX5_putInRow_6 fl5_15 rfl rfl ?_
  refine jv_alen_i (v := 12) dX5_putInRow_9 rfl rfl ?_
  refine jj_icmp_ge (tgt := 20) dX5_putInRow_10 (by decide) (fun zz => absurd zz (jb_ge hk (by decide))) (fun _ => ?_)
  refine jj_aload_n dX5_putInRow_13 rfl ?_
  refine jj_getf dX5_putInRow_14 fl5_15 rfl rfl ?_
  refine jj_iload_n dX5_putInRow_17 rfl ?_
  refine jj_iload_n dX5_putInRow_18 rfl ?_
  refine jv_iast dX5_putInRow_19 rfl (hk) (by decide) rfl ?_
  exact jj_leaf dX5_putInRow_20 rfl rfl
theorem ev5_putInRow_n {G : jj_G} {s : jj_S} {T : j5_T} {k : Nat} (x : Nat) (hk : k < 12) : jj_Ev G m5_putInRow 0 [.ref 9, .int (nI k), .int (nI x)] (jj_m (j5_sT s T)) 0 0 (none) (jj_m (j5_sT s (jU T.1 k x, T.2))) := by
  have := ev5_putInRow (G := G) (s := j5_sT s T) (nI x) hk
  rwa [j5_rU] at this
set_option maxRecDepth 100000 in
set_option maxHeartbeats 4000000 in
theorem ev5_inRow {G : jj_G} {s : jj_S} {k : Nat} (hk : k < 12) : jj_Ev G m5_inRow 0 [.ref 9, .int (nI k)] (jj_m s) 0 0 (some (.int (wa_rw s k))) (jj_m s) := by
  refine jj_Ev_of (lo := [some (.ref 9), some (.int (nI k))]) (by decide +kernel) (Nat.le_of_ble_eq_true rfl) rfl (by trivial) ?_
  refine jj_iload_n dX5_inRow_0 rfl ?_
  refine jj_if_lt (tgt := 22) dX5_inRow_1 (by decide) (fun zz => absurd zz (jb_lt0 (by omega))) (fun _ => ?_)
  refine jj_iload_n dX5_inRow_4 rfl ?_
  refine jj_aload_n dX5_inRow_5 rfl ?_
  refine jj_getf dX5_inRow_6 fl5_15 rfl rfl ?_
  refine jv_alen_i (v := 12) dX5_inRow_9 rfl rfl ?_
  refine jj_icmp_ge (tgt := 22) dX5_inRow_10 (by decide) (fun zz => absurd zz (jb_ge hk (by decide))) (fun _ => ?_)
  refine jj_aload_n dX5_inRow_13 rfl ?_
  refine jj_getf dX5_inRow_14 fl5_15 rfl rfl ?_
  refine jj_iload_n dX5_inRow_17 rfl ?_
  refine jv_iald dX5_inRow_18 rfl (hk) (by decide) ?_
  refine jj_goto (tgt := 23) dX5_inRow_19 (by decide) ?_
  exact jj_leaf dX5_inRow_23 rfl rfl
theorem ev5_inRow_n {G : jj_G} {s : jj_S} {T : j5_T} {k : Nat} (hk : k < 12) : jj_Ev G m5_inRow 0 [.ref 9, .int (nI k)] (jj_m (j5_sT s T)) 0 0 (some (.int (nI (T.1 k)))) (jj_m (j5_sT s T)) := ev5_inRow (G := G) (s := j5_sT s T) hk
set_option maxRecDepth 100000 in
set_option maxHeartbeats 4000000 in
theorem ev5_endRound {G : jj_G} {s : jj_S} {T : j5_T} {l : Nat} (hl : l < 4096) (hr : T.1 11 < 12) : jj_Ev G m5_endRound 2 [.ref 9, .int (nI l)] (jj_m (j5_sT s T)) 0 0 (none) (jj_m (j5_sT s (j5_end l T))) := by
  refine jj_Ev_of (lo := [some (.ref 9), some (.int (nI l)), none]) (by decide +kernel) (Nat.le_of_ble_eq_true rfl) rfl (by trivial) ?_
  unfold j5_end
  by_cases hb : l.testBit (T.1 11) = true
  · rw [if_pos hb]
    by_cases hz : T.2.2 = 0
    · rw [if_pos hz]
      have L : ∀ k, k ≤ 12 → jj_Go G m5_endRound 2 23 [some (.ref 9), some (.int (nI l)), some (.int (nI k))] [] (jj_m (wa_frS (j5_sT s T) (jF (fun j => nI (T.1 j)) T.2.1 k))) 0 0 (none) (jj_m (j5_sT s (T.1, jF (fun j => nI (T.1 j)) T.2.1 12, T.2.2 + 1))) := by
        refine jj_up 12 (fun k hk ih => ?_) ?_
        · refine jj_iload_n dX5_endRound_23 rfl ?_
          refine jj_aload_n dX5_endRound_24 rfl ?_
          refine jj_getf dX5_endRound_25 fl5_18 rfl rfl ?_
          refine jv_alen_i (v := 12) dX5_endRound_28 rfl rfl ?_
          refine jj_icmp_ge (tgt := 59) dX5_endRound_29 (by decide) (fun zz => absurd zz (jb_ge hk (by decide))) (fun _ => ?_)
          refine jj_iload_n dX5_endRound_32 rfl ?_
          refine jj_aload_n dX5_endRound_33 rfl ?_
          refine jj_getf dX5_endRound_34 fl5_15 rfl rfl ?_
          refine jv_alen_i (v := 12) dX5_endRound_37 rfl rfl ?_
          refine jj_icmp_ge (tgt := 59) dX5_endRound_38 (by decide) (fun zz => absurd zz (jb_ge hk (by decide))) (fun _ => ?_)
          refine jj_aload_n dX5_endRound_41 rfl ?_
          refine jj_getf dX5_endRound_42 fl5_18 rfl rfl ?_
          refine jj_iload_n dX5_endRound_45 rfl ?_
          refine jj_aload_n dX5_endRound_46 rfl ?_
          refine jj_getf dX5_endRound_47 fl5_15 rfl rfl ?_
          refine jj_iload_n dX5_endRound_50 rfl ?_
          refine jv_iald dX5_endRound_51 rfl (hk) (by decide) ?_
          refine jv_iast dX5_endRound_52 rfl (hk) (by decide) rfl ?_
          refine jj_iinc dX5_endRound_53 rfl (jb_i k) (by decide) rfl ?_
          refine jj_goto (tgt := 23) dX5_endRound_56 (by decide) ?_
          exact jj_eq rfl rfl rfl (by rw [← jF_s' (f := fun j => nI (T.1 j)) rfl]; rfl) ih
        · refine jj_iload_n dX5_endRound_23 rfl ?_
          refine jj_aload_n dX5_endRound_24 rfl ?_
          refine jj_getf dX5_endRound_25 fl5_18 rfl rfl ?_
          refine jv_alen_i (v := 12) dX5_endRound_28 rfl rfl ?_
          refine jj_icmp_ge (tgt := 59) dX5_endRound_29 (by decide) (fun _ => ?_) (fun zz => absurd (jb_ge' (n := 12) (by decide)) zz)
          refine jj_aload_n dX5_endRound_59 rfl ?_
          refine jj_dup dX5_endRound_60 rfl ?_
          refine jj_getf dX5_endRound_61 fl5_95 rfl rfl ?_
          refine jj_iconst (v := 1) dX5_endRound_64 (by decide) ?_
          refine jj_iadd dX5_endRound_65 rfl ?_
          refine jj_putf dX5_endRound_66 (fw5_95 _) rfl (Nat.le_of_ble_eq_true rfl) rfl rfl rfl ?_
          exact jj_leaf dX5_endRound_69 rfl rfl
      refine jj_iload_n dX5_endRound_0 rfl ?_
      refine jj_aload_n dX5_endRound_1 rfl ?_
      refine jj_bipush (v := nI 11) dX5_endRound_2 (by decide) ?_
      refine jj_callV (M2 := m5_inRow) dX5_endRound_4 ml5_109 tm5_inRow (ev5_inRow_n (s := s) (T := T) (by decide : 11 < 12)) rfl rfl rfl rfl rfl (by omega) (Nat.le_of_ble_eq_true rfl) ?_
      refine jj_callS (M2 := m0_holds) dX5_endRound_7 ml5_54 tm0_holds (ev0_holds (a := l) (by omega) hr) rfl rfl (by omega) (Nat.le_of_ble_eq_true rfl) ?_
      refine jj_if_ne (tgt := 14) dX5_endRound_10 (by decide) (fun _ => ?_) (fun zz => absurd zz (by rw [jb_bt hb]; decide))
      refine jj_aload_n dX5_endRound_14 rfl ?_
      refine jj_getf dX5_endRound_15 fl5_95 rfl rfl ?_
      refine jj_if_ne (tgt := 59) dX5_endRound_18 (by decide) (fun zz => absurd hz zz) (fun _ => ?_)
      refine jj_iconst (v := 0) dX5_endRound_21 (by decide) ?_
      refine jj_istore_n dX5_endRound_22 rfl (by decide) rfl ?_
      exact jj_eq rfl rfl rfl (by rw [jF_0]; rfl) (L 0 (by decide))
    · rw [if_neg hz]
      refine jj_iload_n dX5_endRound_0 rfl ?_
      refine jj_aload_n dX5_endRound_1 rfl ?_
      refine jj_bipush (v := nI 11) dX5_endRound_2 (by decide) ?_
      refine jj_callV (M2 := m5_inRow) dX5_endRound_4 ml5_109 tm5_inRow (ev5_inRow_n (s := s) (T := T) (by decide : 11 < 12)) rfl rfl rfl rfl rfl (by omega) (Nat.le_of_ble_eq_true rfl) ?_
      refine jj_callS (M2 := m0_holds) dX5_endRound_7 ml5_54 tm0_holds (ev0_holds (a := l) (by omega) hr) rfl rfl (by omega) (Nat.le_of_ble_eq_true rfl) ?_
      refine jj_if_ne (tgt := 14) dX5_endRound_10 (by decide) (fun _ => ?_) (fun zz => absurd zz (by rw [jb_bt hb]; decide))
      refine jj_aload_n dX5_endRound_14 rfl ?_
      refine jj_getf dX5_endRound_15 fl5_95 rfl rfl ?_
      refine jj_if_ne (tgt := 59) dX5_endRound_18 (by decide) (fun _ => ?_) (fun zz => absurd zz hz)
      refine jj_aload_n dX5_endRound_59 rfl ?_
      refine jj_dup dX5_endRound_60 rfl ?_
      refine jj_getf dX5_endRound_61 fl5_95 rfl rfl ?_
      refine jj_iconst (v := 1) dX5_endRound_64 (by decide) ?_
      refine jj_iadd dX5_endRound_65 rfl ?_
      refine jj_putf dX5_endRound_66 (fw5_95 _) rfl (Nat.le_of_ble_eq_true rfl) rfl rfl rfl ?_
      exact jj_leaf dX5_endRound_69 rfl rfl
  · rw [if_neg hb]
    refine jj_iload_n dX5_endRound_0 rfl ?_
    refine jj_aload_n dX5_endRound_1 rfl ?_
    refine jj_bipush (v := nI 11) dX5_endRound_2 (by decide) ?_
    refine jj_callV (M2 := m5_inRow) dX5_endRound_4 ml5_109 tm5_inRow (ev5_inRow_n (s := s) (T := T) (by decide : 11 < 12)) rfl rfl rfl rfl rfl (by omega) (Nat.le_of_ble_eq_true rfl) ?_
    refine jj_callS (M2 := m0_holds) dX5_endRound_7 ml5_54 tm0_holds (ev0_holds (a := l) (by omega) hr) rfl rfl (by omega) (Nat.le_of_ble_eq_true rfl) ?_
    refine jj_if_ne (tgt := 14) dX5_endRound_10 (by decide) (fun zz => absurd (jb_bf hb) zz) (fun _ => ?_)
    exact jj_leaf dX5_endRound_13 rfl rfl
theorem jb_gt1 {d : Nat} (h : 1 ≤ d) (h2 : d < 2 ^ 31) : ¬ nI d < 1 := nI_nlt (a := d) (b := 1) h h2
set_option maxRecDepth 100000 in
set_option maxHeartbeats 4000000 in
theorem ev5_goRound {G : jj_G} {s : jj_S} {o : Nat → Nat} {l : Nat} (ho : j5_ok s o) (hl : l < 4096) : ∀ n d u T, d + n = 12 → 1 ≤ d → (∀ j, j < d → T.1 j < 12) → u < 4096 → jj_Ev G m5_goRound (n + 3) [.ref 9, .int (nI d), .int (nI u), .int (nI l)] (jj_m (j5_sT s T)) 0 0 none (jj_m (j5_sT s (j5_gr o l n d u T))) := by
  intro n
  induction n with
  | zero =>
    intro d u T hd h1 hT hu
    have hd2 : d = 12 := by omega
    subst hd2
    refine jj_Ev_of (lo := [some (.ref 9), some (.int (nI 12)), some (.int (nI u)), some (.int (nI l)), none, none]) (by decide +kernel) (Nat.le_of_ble_eq_true rfl) rfl (by trivial) ?_
    refine jj_iload_n dX5_goRound_0 rfl ?_
    refine jj_bipush (v := 12) dX5_goRound_1 (by decide) ?_
    refine jj_icmp_lt (tgt := 12) dX5_goRound_3 (by decide) (fun zz => absurd zz (by decide)) (fun _ => ?_)
    refine jj_aload_n dX5_goRound_6 rfl ?_
    refine jj_iload_n dX5_goRound_7 rfl ?_
    refine jj_callV (M2 := m5_endRound) dX5_goRound_8 ml5_105 tm5_endRound (ev5_endRound (s := s) (T := T) hl (hT 11 (by decide))) rfl rfl rfl rfl rfl (by omega) (Nat.le_of_ble_eq_true rfl) ?_
    exact jj_leaf dX5_goRound_11 rfl rfl
  | succ n ihn =>
    intro d u T hd h1 hT hu
    unfold j5_gr
    refine jj_Ev_of (lo := [some (.ref 9), some (.int (nI d)), some (.int (nI u)), some (.int (nI l)), none, none]) (by decide +kernel) (Nat.le_of_ble_eq_true rfl) rfl (by trivial) ?_
    have hlt := j5_nv_lt (a := l) (u := u) hl
    by_cases hz : l &&& (4095 ^^^ u) = 0
    · rw [if_pos hz]
      refine jj_iload_n dX5_goRound_0 rfl ?_
      refine jj_bipush (v := 12) dX5_goRound_1 (by decide) ?_
      refine jj_icmp_lt (tgt := 12) dX5_goRound_3 (by decide) (fun _ => ?_) (fun zz => absurd (nI_lt (a := d) (b := 12) (by omega) (by decide)) zz)
      refine jj_iload_n dX5_goRound_12 rfl ?_
      refine jj_iload_n dX5_goRound_13 rfl ?_
      refine jj_iconst (v := (-1)) dX5_goRound_14 (by decide) ?_
      refine jj_ixor dX5_goRound_15 rfl ?_
      refine jj_iand dX5_goRound_16 (j5_nv hl) ?_
      refine jj_if_ne (tgt := 21) dX5_goRound_17 (by decide) (fun zz => absurd (by rw [hz]; rfl) zz) (fun _ => ?_)
      exact jj_leaf dX5_goRound_20 rfl rfl
    · rw [if_neg hz]
      have hr := hT (d - 1) (by omega)
      have hnx := j5_nv_lt (a := o (T.1 (d - 1))) (u := u) (ho _ hr).2
      generalize hnxe : o (T.1 (d - 1)) &&& (4095 ^^^ u) = nx at hnx ⊢
      generalize hfe : (fun k (T : j5_T) => j5_gr o l n (d + 1) (u ||| 2 ^ k) (jU T.1 d k, T.2)) = f
      have hfk : ∀ k T, ∀ j, j < d → (f k T).1 j = T.1 j := by
        intro k T j hj
        rw [← hfe]
        show (j5_gr o l n (d + 1) (u ||| 2 ^ k) (jU T.1 d k, T.2)).1 j = T.1 j
        rw [j5_gr_keep o l n (d + 1) _ _ j (by omega)]
        exact jU_ne _ _ (by omega)
      have L : ∀ k, k ≤ 11 → jj_Go G m5_goRound (n + 1 + 3) 41 [some (.ref 9), some (.int (nI d)), some (.int (nI u)), some (.int (nI l)), some (.int (nI nx)), some (.int (nI (k + 1)))] [] (jj_m (j5_sT s (j5_lp f nx k T))) 0 0 (none) (jj_m (j5_sT s (j5_lp f nx 11 T))) := by
        refine jj_up 11 (fun k hk ih => ?_) ?_
        · have hk1 := j5_lp_keep (nx := nx) hfk T k
          generalize hTk : j5_lp f nx k T = Tk at hk1 ⊢
          have hT2 : ∀ j, j < d + 1 → jU Tk.1 d (k + 1) j < 12 := by
            intro j hj
            by_cases e : j = d
            · subst e; rw [jU_at]; omega
            · rw [jU_ne _ _ e, hk1 j (by omega)]; exact hT j (by omega)
          have hu2 : u ||| 2 ^ (k + 1) < 4096 := Nat.or_lt_two_pow (n := 12) hu (Nat.pow_lt_pow_right (by decide) (by omega))
          have E := ihn (d + 1) (u ||| 2 ^ (k + 1)) (jU Tk.1 d (k + 1), Tk.2) (by omega) (by omega) hT2 hu2
          have ef : f (k + 1) Tk = j5_gr o l n (d + 1) (u ||| 2 ^ (k + 1)) (jU Tk.1 d (k + 1), Tk.2) := by rw [← hfe]
          rw [j5_lp, hTk, ef] at ih
          refine jj_iload dX5_goRound_41 rfl ?_
          refine jj_bipush (v := 12) dX5_goRound_43 (by decide) ?_
          refine jj_icmp_ge (tgt := 85) dX5_goRound_45 (by decide) (fun zz => absurd zz (jb_ge (k := k + 1) (n := 12) (by omega) (by decide))) (fun _ => ?_)
          refine jj_iload dX5_goRound_48 rfl ?_
          refine jj_iload dX5_goRound_50 rfl ?_
          refine jj_ishr dX5_goRound_52 rfl ?_
          refine jj_iconst (v := 1) dX5_goRound_53 (by decide) ?_
          refine jj_iand dX5_goRound_54 (jb_sh (by omega) (by omega)) ?_
          refine jj_if_eq (tgt := 79) dX5_goRound_55 (by decide) (fun c55 => ?_) (fun c55 => ?_)
          · refine jj_iinc dX5_goRound_79 rfl (jb_i (k + 1)) (by decide) rfl ?_
            refine jj_goto (tgt := 41) dX5_goRound_82 (by decide) ?_
            first | (rw [if_neg (jb_b0 c55)] at ih; exact ih) | (rw [if_pos (jb_b1 c55)] at ih; exact ih)
          · refine jj_aload_n dX5_goRound_58 rfl ?_
            refine jj_iload_n dX5_goRound_59 rfl ?_
            refine jj_iload dX5_goRound_60 rfl ?_
            refine jj_callV (M2 := m5_putInRow) dX5_goRound_62 ml5_98 tm5_putInRow (ev5_putInRow_n (s := s) (T := Tk) (k + 1) (by omega)) rfl rfl rfl rfl rfl (by omega) (Nat.le_of_ble_eq_true rfl) ?_
            refine jj_aload_n dX5_goRound_65 rfl ?_
            refine jj_iload_n dX5_goRound_66 rfl ?_
            refine jj_iconst (v := 1) dX5_goRound_67 (by decide) ?_
            refine jj_iadd dX5_goRound_68 (nI_add d 1) ?_
            refine jj_iload_n dX5_goRound_69 rfl ?_
            refine jj_iconst (v := 1) dX5_goRound_70 (by decide) ?_
            refine jj_iload dX5_goRound_71 rfl ?_
            refine jj_ishl dX5_goRound_73 (jb_2k (k + 1) (by omega)) ?_
            refine jj_ior dX5_goRound_74 (fa_or _ _) ?_
            refine jj_iload_n dX5_goRound_75 rfl ?_
            refine jj_callS (M2 := m5_goRound) dX5_goRound_76 ml5_101 tm5_goRound (E) rfl rfl (by omega) (Nat.le_of_ble_eq_true rfl) ?_
            refine jj_iinc dX5_goRound_79 rfl (jb_i (k + 1)) (by decide) rfl ?_
            refine jj_goto (tgt := 41) dX5_goRound_82 (by decide) ?_
            first | (rw [if_neg (jb_b0 c55)] at ih; exact ih) | (rw [if_pos (jb_b1 c55)] at ih; exact ih)
        · refine jj_iload dX5_goRound_41 rfl ?_
          refine jj_bipush (v := 12) dX5_goRound_43 (by decide) ?_
          refine jj_icmp_ge (tgt := 85) dX5_goRound_45 (by decide) (fun _ => ?_) (fun zz => absurd (jb_ge' (n := 12) (by decide)) zz)
          exact jj_leaf dX5_goRound_85 rfl rfl
      refine jj_iload_n dX5_goRound_0 rfl ?_
      refine jj_bipush (v := 12) dX5_goRound_1 (by decide) ?_
      refine jj_icmp_lt (tgt := 12) dX5_goRound_3 (by decide) (fun _ => ?_) (fun zz => absurd (nI_lt (a := d) (b := 12) (by omega) (by decide)) zz)
      refine jj_iload_n dX5_goRound_12 rfl ?_
      refine jj_iload_n dX5_goRound_13 rfl ?_
      refine jj_iconst (v := (-1)) dX5_goRound_14 (by decide) ?_
      refine jj_ixor dX5_goRound_15 rfl ?_
      refine jj_iand dX5_goRound_16 (j5_nv hl) ?_
      refine jj_if_ne (tgt := 21) dX5_goRound_17 (by decide) (fun _ => ?_) (fun zz => absurd zz (fun q => hz ((jb_inj (by omega) (by decide)).mp q)))
      refine jj_aload_n dX5_goRound_21 rfl ?_
      refine jj_aload_n dX5_goRound_22 rfl ?_
      refine jj_iload_n dX5_goRound_23 rfl ?_
      refine jj_iconst (v := 1) dX5_goRound_24 (by decide) ?_
      refine jj_isub dX5_goRound_25 (pk_sub (a := d) (b := 1) h1) ?_
      refine jj_callV (M2 := m5_inRow) dX5_goRound_26 ml5_109 tm5_inRow (ev5_inRow_n (s := s) (T := T) (k := d - 1) (by omega)) rfl rfl rfl rfl rfl (by omega) (Nat.le_of_ble_eq_true rfl) ?_
      refine jj_callV (M2 := m5_openTo) dX5_goRound_29 ml5_44 tm5_openTo (ev5_openTo_n (s := j5_sT s T) ho hr) rfl rfl rfl rfl rfl (by omega) (Nat.le_of_ble_eq_true rfl) ?_
      refine jj_iload_n dX5_goRound_32 rfl ?_
      refine jj_iconst (v := (-1)) dX5_goRound_33 (by decide) ?_
      refine jj_ixor dX5_goRound_34 rfl ?_
      refine jj_iand dX5_goRound_35 ((j5_nv (ho _ hr).2).trans (by rw [hnxe])) ?_
      refine jj_istore dX5_goRound_36 (by decide) rfl ?_
      refine jj_iconst (v := 1) dX5_goRound_38 (by decide) ?_
      refine jj_istore dX5_goRound_39 (by decide) rfl ?_
      exact L 0 (by decide)
/-- the search over the seconds 1 .. m -/
def j5_fs (o : Nat → Nat) : Nat → j5_T → j5_T
  | 0, T => T
  | m + 1, T => if (o 0).testBit (m + 1) = true then j5_gr o (j5_la (o 0) (m + 1)) 10 2 (1 ||| 2 ^ (m + 1)) (jU (j5_fs o m T).1 1 (m + 1), (j5_fs o m T).2) else j5_fs o m T
theorem j5_fs_keep (o : Nat → Nat) (T : j5_T) : ∀ m, (j5_fs o m T).1 0 = T.1 0 := by
  intro m
  induction m with
  | zero => rfl
  | succ m ih =>
    unfold j5_fs
    split
    · rw [j5_gr_keep o _ 10 2 _ _ 0 (by decide)]
      show jU (j5_fs o m T).1 1 (m + 1) 0 = T.1 0
      rw [jU_ne _ _ (by decide)]
      exact ih
    · exact ih
/-- what findRounds does -/
def j5_fr (s : jj_S) (T : j5_T) : jj_S := if wa_rf s = 0 then wa_rfS (j5_sT s T) 1 else s
set_option maxRecDepth 100000 in
set_option maxHeartbeats 4000000 in
theorem ev5_findRounds {G : jj_G} {s : jj_S} {o : Nat → Nat} {r0 : Nat → Nat} {T : j5_T} (ho : j5_ok s o) (hr : wa_rw s = fun j => nI (r0 j)) (hT : j5_fs o 11 (jU r0 0 0, wa_fr s, 0) = T) : jj_Ev G m5_findRounds 15 [.ref 9] (jj_m s) 0 0 (none) (jj_m (j5_fr s T)) := by
  refine jj_Ev_of (lo := [some (.ref 9), none, none]) (by decide +kernel) (Nat.le_of_ble_eq_true rfl) rfl (by trivial) ?_
  unfold j5_fr
  by_cases hw : wa_rf s = 0
  · rw [if_pos hw]
    have L : ∀ k, k ≤ 11 → jj_Go G m5_findRounds 15 21 [some (.ref 9), some (.int (nI (k + 1))), none] [] (jj_m (j5_sT s (j5_fs o k (jU r0 0 0, wa_fr s, 0)))) 0 0 (none) (jj_m (wa_rfS (j5_sT s T) 1)) := by
      refine jj_up 11 (fun k hk ih => ?_) ?_
      · have h0 := j5_fs_keep o (jU r0 0 0, wa_fr s, 0) k
        have hrow0 : (j5_fs o k (jU r0 0 0, wa_fr s, 0)).1 0 < 12 := by rw [h0]; show jU r0 0 0 0 < 12; rw [jU_at]; decide
        rw [j5_fs] at ih
        generalize hTk : j5_fs o k (jU r0 0 0, wa_fr s, 0) = Tk at ih hrow0 ⊢
        have hT2 : ∀ j, j < 2 → jU Tk.1 1 (k + 1) j < 12 := by
          intro j hj
          by_cases e : j = 1
          · subst e; rw [jU_at]; omega
          · rw [jU_ne _ _ e, show j = 0 by omega]; exact hrow0
        have hu2 : 1 ||| 2 ^ (k + 1) < 4096 := Nat.or_lt_two_pow (n := 12) (by decide) (Nat.pow_lt_pow_right (by decide) (by omega))
        have hl : j5_la (o 0) (k + 1) < 4096 := Nat.lt_of_le_of_lt Nat.and_le_left (ho 0 (by decide)).2
        have E := ev5_goRound (G := G) (s := s) (o := o) ho hl 10 2 (1 ||| 2 ^ (k + 1)) (jU Tk.1 1 (k + 1), Tk.2) (by decide) (by decide) hT2 hu2
        by_cases hb : (o 0).testBit (k + 1) = true
        · rw [if_pos hb] at ih
          refine jj_iload_n dX5_findRounds_21 rfl ?_
          refine jj_bipush (v := 12) dX5_findRounds_22 (by decide) ?_
          refine jj_icmp_ge (tgt := 73) dX5_findRounds_24 (by decide) (fun zz => absurd zz (jb_ge (k := k + 1) (n := 12) (by omega) (by decide))) (fun _ => ?_)
          refine jj_aload_n dX5_findRounds_27 rfl ?_
          refine jj_iconst (v := nI 0) dX5_findRounds_28 (by decide) ?_
          refine jj_callV (M2 := m5_openTo) dX5_findRounds_29 ml5_44 tm5_openTo (ev5_openTo_n (s := j5_sT s Tk) (k := 0) ho (by decide)) rfl rfl rfl rfl rfl (by omega) (Nat.le_of_ble_eq_true rfl) ?_
          refine jj_iload_n dX5_findRounds_32 rfl ?_
          refine jj_callS (M2 := m0_holds) dX5_findRounds_33 ml5_54 tm0_holds (ev0_holds (a := o 0) (by have := (ho 0 (by decide)).2; omega) (by omega : k + 1 < 12)) rfl rfl (by omega) (Nat.le_of_ble_eq_true rfl) ?_
          refine jj_if_eq (tgt := 67) dX5_findRounds_36 (by decide) (fun zz => absurd zz (by rw [jb_bt hb]; decide)) (fun _ => ?_)
          refine jj_aload_n dX5_findRounds_39 rfl ?_
          refine jj_iconst (v := nI 1) dX5_findRounds_40 (by decide) ?_
          refine jj_iload_n dX5_findRounds_41 rfl ?_
          refine jj_callV (M2 := m5_putInRow) dX5_findRounds_42 ml5_98 tm5_putInRow (ev5_putInRow_n (s := s) (T := Tk) (k + 1) (by decide : 1 < 12)) rfl rfl rfl rfl rfl (by omega) (Nat.le_of_ble_eq_true rfl) ?_
          refine jj_aload_n dX5_findRounds_45 rfl ?_
          refine jj_iconst (v := nI 0) dX5_findRounds_46 (by decide) ?_
          refine jj_callV (M2 := m5_openTo) dX5_findRounds_47 ml5_44 tm5_openTo (ev5_openTo_n (s := j5_sT s (jU Tk.1 1 (k + 1), Tk.2)) (k := 0) ho (by decide)) rfl rfl rfl rfl rfl (by omega) (Nat.le_of_ble_eq_true rfl) ?_
          refine jj_iconst (v := 2) dX5_findRounds_50 (by decide) ?_
          refine jj_iload_n dX5_findRounds_51 rfl ?_
          refine jj_ishl dX5_findRounds_52 rfl ?_
          refine jj_ineg dX5_findRounds_53 rfl ?_
          refine jj_iand dX5_findRounds_54 (j5_lav (ho 0 (by decide)).2 (by omega : k + 1 < 12)) ?_
          refine jj_istore_n dX5_findRounds_55 rfl (by decide) rfl ?_
          refine jj_aload_n dX5_findRounds_56 rfl ?_
          refine jj_iconst (v := nI 2) dX5_findRounds_57 (by decide) ?_
          refine jj_iconst (v := nI 1) dX5_findRounds_58 (by decide) ?_
          refine jj_iconst (v := 1) dX5_findRounds_59 (by decide) ?_
          refine jj_iload_n dX5_findRounds_60 rfl ?_
          refine jj_ishl dX5_findRounds_61 (jb_2k (k + 1) (by omega)) ?_
          refine jj_ior dX5_findRounds_62 (fa_or 1 _) ?_
          refine jj_iload_n dX5_findRounds_63 rfl ?_
          refine jj_callS (M2 := m5_goRound) dX5_findRounds_64 ml5_101 tm5_goRound (E) rfl rfl (by omega) (Nat.le_of_ble_eq_true rfl) ?_
          refine jj_iinc dX5_findRounds_67 rfl (jb_i (k + 1)) (by decide) rfl ?_
          refine jj_goto (tgt := 21) dX5_findRounds_70 (by decide) ?_
          refine jj_less (lo' := [some (.ref 9), some (.int (nI (k + 2))), none]) (fun j v hj => ?_) (jj_eq rfl rfl rfl rfl (ih))
          match j, hj with
          | 0, hj => exact hj
          | 1, hj => exact hj
          | 2, hj => exact absurd hj (by simp)
          | j + 3, hj => exact absurd hj (by simp)
        · rw [if_neg hb] at ih
          refine jj_iload_n dX5_findRounds_21 rfl ?_
          refine jj_bipush (v := 12) dX5_findRounds_22 (by decide) ?_
          refine jj_icmp_ge (tgt := 73) dX5_findRounds_24 (by decide) (fun zz => absurd zz (jb_ge (k := k + 1) (n := 12) (by omega) (by decide))) (fun _ => ?_)
          refine jj_aload_n dX5_findRounds_27 rfl ?_
          refine jj_iconst (v := nI 0) dX5_findRounds_28 (by decide) ?_
          refine jj_callV (M2 := m5_openTo) dX5_findRounds_29 ml5_44 tm5_openTo (ev5_openTo_n (s := j5_sT s Tk) (k := 0) ho (by decide)) rfl rfl rfl rfl rfl (by omega) (Nat.le_of_ble_eq_true rfl) ?_
          refine jj_iload_n dX5_findRounds_32 rfl ?_
          refine jj_callS (M2 := m0_holds) dX5_findRounds_33 ml5_54 tm0_holds (ev0_holds (a := o 0) (by have := (ho 0 (by decide)).2; omega) (by omega : k + 1 < 12)) rfl rfl (by omega) (Nat.le_of_ble_eq_true rfl) ?_
          refine jj_if_eq (tgt := 67) dX5_findRounds_36 (by decide) (fun _ => ?_) (fun zz => absurd (jb_bf hb) zz)
          refine jj_iinc dX5_findRounds_67 rfl (jb_i (k + 1)) (by decide) rfl ?_
          refine jj_goto (tgt := 21) dX5_findRounds_70 (by decide) ?_
          refine jj_less (lo' := [some (.ref 9), some (.int (nI (k + 2))), none]) (fun j v hj => ?_) (jj_eq rfl rfl rfl rfl (ih))
          match j, hj with
          | 0, hj => exact hj
          | 1, hj => exact hj
          | 2, hj => exact absurd hj (by simp)
          | j + 3, hj => exact absurd hj (by simp)
      · rw [hT]
        refine jj_iload_n dX5_findRounds_21 rfl ?_
        refine jj_bipush (v := 12) dX5_findRounds_22 (by decide) ?_
        refine jj_icmp_ge (tgt := 73) dX5_findRounds_24 (by decide) (fun _ => ?_) (fun zz => absurd (jb_ge' (n := 12) (by decide)) zz)
        refine jj_aload_n dX5_findRounds_73 rfl ?_
        refine jj_iconst (v := 1) dX5_findRounds_74 (by decide) ?_
        refine jj_putf dX5_findRounds_75 (fw5_33 _) rfl (Nat.le_of_ble_eq_true rfl) rfl rfl rfl ?_
        exact jj_leaf dX5_findRounds_78 rfl rfl
    have e0 : jU (wa_rw s) 0 0 = fun j => nI (jU r0 0 0 j) := by
      funext j
      rw [hr]
      by_cases h : j = 0
      · subst h; rw [jU_at, jU_at]; rfl
      · rw [jU_ne _ _ h, jU_ne _ _ h]
    refine jj_aload_n dX5_findRounds_0 rfl ?_
    refine jj_getf dX5_findRounds_1 fl5_33 rfl rfl ?_
    refine jj_if_eq (tgt := 8) dX5_findRounds_4 (by decide) (fun _ => ?_) (fun zz => absurd hw zz)
    refine jj_aload_n dX5_findRounds_8 rfl ?_
    refine jj_iconst (v := 0) dX5_findRounds_9 (by decide) ?_
    refine jj_putf dX5_findRounds_10 (fw5_95 _) rfl (Nat.le_of_ble_eq_true rfl) rfl rfl rfl ?_
    refine jj_aload_n dX5_findRounds_13 rfl ?_
    refine jj_iconst (v := nI 0) dX5_findRounds_14 (by decide) ?_
    refine jj_iconst (v := 0) dX5_findRounds_15 (by decide) ?_
    refine jj_callV (M2 := m5_putInRow) dX5_findRounds_16 ml5_98 tm5_putInRow (ev5_putInRow (s := wa_rcS s 0) (k := 0) 0 (by decide)) rfl rfl rfl rfl rfl (by omega) (Nat.le_of_ble_eq_true rfl) ?_
    refine jj_iconst (v := 1) dX5_findRounds_19 (by decide) ?_
    refine jj_istore_n dX5_findRounds_20 rfl (by decide) rfl ?_
    refine jj_less (lo' := [some (.ref 9), some (.int (nI 1)), none]) (fun j v hj => ?_) (jj_eq rfl rfl rfl (by show _ = jj_m (wa_rcS (wa_frS (wa_rwS s (fun j => nI (jU r0 0 0 j))) (wa_fr s)) 0); rw [← e0]; rfl) (L 0 (by decide)))
    match j, hj with
    | 0, hj => exact hj
    | 1, hj => exact hj
    | 2, hj => exact absurd hj (by simp)
    | j + 3, hj => exact absurd hj (by simp)
  · rw [if_neg hw]
    refine jj_aload_n dX5_findRounds_0 rfl ?_
    refine jj_getf dX5_findRounds_1 fl5_33 rfl rfl ?_
    refine jj_if_eq (tgt := 8) dX5_findRounds_4 (by decide) (fun zz => absurd zz hw) (fun _ => ?_)
    exact jj_leaf dX5_findRounds_7 rfl rfl
set_option maxRecDepth 100000 in
set_option maxHeartbeats 4000000 in
theorem ev5_roundCount {G : jj_G} {s : jj_S} {o : Nat → Nat} {r0 : Nat → Nat} {T : j5_T} (ho : j5_ok s o) (hr : wa_rw s = fun j => nI (r0 j)) (hT : j5_fs o 11 (jU r0 0 0, wa_fr s, 0) = T) : jj_Ev G m5_roundCount 16 [.ref 9] (jj_m s) 0 0 (some (.int (wa_rc (j5_fr s T)))) (jj_m (j5_fr s T)) := by
  refine jj_Ev_of (lo := [some (.ref 9)]) (by decide +kernel) (Nat.le_of_ble_eq_true rfl) rfl (by trivial) ?_
  refine jj_aload_n dX5_roundCount_0 rfl ?_
  refine jj_callV (M2 := m5_findRounds) dX5_roundCount_1 ml5_92 tm5_findRounds (ev5_findRounds ho hr hT) rfl rfl rfl rfl rfl (by omega) (Nat.le_of_ble_eq_true rfl) ?_
  refine jj_aload_n dX5_roundCount_4 rfl ?_
  refine jj_getf dX5_roundCount_5 fl5_95 rfl rfl ?_
  exact jj_leaf dX5_roundCount_8 rfl rfl
set_option maxRecDepth 100000 in
set_option maxHeartbeats 4000000 in
theorem ev5_inFirstRound {G : jj_G} {s : jj_S} {o : Nat → Nat} {r0 : Nat → Nat} {i : Nat} {T : j5_T} (ho : j5_ok s o) (hr : wa_rw s = fun j => nI (r0 j)) (hT : j5_fs o 11 (jU r0 0 0, wa_fr s, 0) = T) (hi : i < 12) : jj_Ev G m5_inFirstRound 16 [.ref 9, .int (nI i)] (jj_m s) 0 0 (some (.int (if wa_rc (j5_fr s T) ≤ 0 then -1 else wa_fr (j5_fr s T) i))) (jj_m (j5_fr s T)) := by
  refine jj_Ev_of (lo := [some (.ref 9), some (.int (nI i))]) (by decide +kernel) (Nat.le_of_ble_eq_true rfl) rfl (by trivial) ?_
  refine jj_aload_n dX5_inFirstRound_0 rfl ?_
  refine jj_callV (M2 := m5_findRounds) dX5_inFirstRound_1 ml5_92 tm5_findRounds (ev5_findRounds ho hr hT) rfl rfl rfl rfl rfl (by omega) (Nat.le_of_ble_eq_true rfl) ?_
  refine jj_aload_n dX5_inFirstRound_4 rfl ?_
  refine jj_getf dX5_inFirstRound_5 fl5_95 rfl rfl ?_
  refine jj_if_le (tgt := 33) dX5_inFirstRound_8 (by decide) (fun c8 => ?_) (fun c8 => ?_)
  · refine jj_iconst (v := (-1)) dX5_inFirstRound_33 (by decide) ?_
    exact jj_leaf dX5_inFirstRound_34 (by rw [if_pos c8]; rfl) rfl
  · refine jj_iload_n dX5_inFirstRound_11 rfl ?_
    refine jj_if_lt (tgt := 33) dX5_inFirstRound_12 (by decide) (fun zz => absurd zz (jb_lt0 (by omega))) (fun _ => ?_)
    refine jj_iload_n dX5_inFirstRound_15 rfl ?_
    refine jj_aload_n dX5_inFirstRound_16 rfl ?_
    refine jj_getf dX5_inFirstRound_17 fl5_18 rfl rfl ?_
    refine jv_alen_i (v := 12) dX5_inFirstRound_20 rfl rfl ?_
    refine jj_icmp_ge (tgt := 33) dX5_inFirstRound_21 (by decide) (fun zz => absurd zz (jb_ge hi (by decide))) (fun _ => ?_)
    refine jj_aload_n dX5_inFirstRound_24 rfl ?_
    refine jj_getf dX5_inFirstRound_25 fl5_18 rfl rfl ?_
    refine jj_iload_n dX5_inFirstRound_28 rfl ?_
    refine jv_iald dX5_inFirstRound_29 rfl (hi) (by decide) ?_
    refine jj_goto (tgt := 34) dX5_inFirstRound_30 (by decide) ?_
    exact jj_leaf dX5_inFirstRound_34 (by rw [if_neg c8]; rfl) rfl
