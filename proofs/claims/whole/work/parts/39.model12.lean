/-! THE MODEL: the first round told; what is spread -/
def j7_sN (s : jj_S) (P : j2_P) : jj_S := mo_thenS (mo_nowS s P.1) P.2
def j7_ws (gl : Nat → Nat) (sv : Nat → Int64 → Int64) (P : j2_P) : j2_P := (jF (j2_rw gl sv (P.1, jF (fun _ => 0) P.2 12) 12) P.1 12, j2_rw gl sv (P.1, jF (fun _ => 0) P.2 12) 12)
def j7_wk (gl : Nat → Nat) (sv : Nat → Int64 → Int64) (P : j2_P) : Nat → j2_P
  | 0 => P
  | n + 1 => j7_ws gl sv (j7_wk gl sv P n)
def j7_so (s : jj_S) (x : Nat) : j2_P := (jF (fun f => if f = x then 1 else 0) (mo_now s) 12, mo_then s)
def j7_sv1 (o : Nat → Nat) (k : Nat) (v : Int64) : Int64 := v * (nI (j2_sh (jb_pc (j2_gl o k)))).toInt64
theorem jU_0 (th : Nat → Int64) (f : Nat) : jU th f (th f + 0) = th := by
  funext j
  by_cases h : j = f
  · subst h; rw [jU_at, Int64.add_zero]
  · exact jU_ne _ _ h
theorem j7_u0 (s : jj_S) (nw th : Nat → Int64) (f : Nat) : jj_m (mo_thenS (j7_sN s (nw, th)) (jU th f (th f + 0))) = jj_m (j7_sN s (nw, th)) := by
  rw [jU_0]
  rfl
theorem j2_gv1 (th : Nat → Int64) (f : Nat) (v : Int64) : ∀ k, j2_gv (2 ^ f) v th k = if f < k then jU th f (th f + v) else th := by
  intro k
  induction k with
  | zero => exact (if_neg (Nat.not_lt_zero f)).symm
  | succ k ih =>
    rw [j2_gv, ih, Nat.testBit_two_pow]
    by_cases h : f = k
    · subst h
      rw [if_pos (decide_eq_true rfl), if_neg (Nat.lt_irrefl f), if_pos (Nat.lt_succ_self f)]
    · rw [if_neg (by simpa using h)]
      by_cases h2 : f < k
      · rw [if_pos h2, if_pos (by omega)]
      · rw [if_neg h2, if_neg (by omega)]
theorem j7_w1 : ∀ f, f < 12 → (nI (j2_sh (jb_pc (2 ^ f)))).toInt64 = 60 := by decide +kernel
theorem j7_w2 : ∀ c, c < 13 → 1 ≤ c → 60 / (nI c).toInt64 = (nI (j2_sh c)).toInt64 := by decide +kernel
theorem j7_w3 : ∀ c, c < 13 → 1 ≤ c → ¬ (nI c).toInt64 = 0 := by decide +kernel
theorem j7_w4 : ∀ c, c < 13 → 1 ≤ c → ¬ nI c = 0 := by decide +kernel
theorem jb_pcn0 {a : Nat} : ∀ k, jb_pcn a k = 0 → ∀ i, i < k → a.testBit i = false := by
  intro k
  induction k with
  | zero => intro _ i hi; exact absurd hi (Nat.not_lt_zero i)
  | succ k ih =>
    intro h i hi
    rw [jb_pcn] at h
    rcases Nat.lt_or_ge i k with q | q
    · exact ih (by omega) i q
    · obtain rfl : i = k := by omega
      by_cases z : a.testBit i = true
      · rw [if_pos z] at h
        omega
      · simpa using z
theorem jb_pc0 {a : Nat} (ha : a < 4096) (h : jb_pc a = 0) : a = 0 := by
  apply Nat.eq_of_testBit_eq
  intro i
  rw [Nat.zero_testBit]
  rcases Nat.lt_or_ge i 12 with q | q
  · exact jb_pcn0 12 h i q
  · exact Nat.testBit_lt_two_pow (Nat.lt_of_lt_of_le (show a < 2 ^ 12 from ha) (Nat.pow_le_pow_right (by decide) q))
theorem jb_pc_pos {a : Nat} (ha : a < 4096) (h : ¬ a = 0) : 1 ≤ jb_pc a := by
  rcases Nat.eq_zero_or_pos (jb_pc a) with q | q
  · exact absurd (jb_pc0 ha q) h
  · exact q
set_option maxRecDepth 100000 in
set_option maxHeartbeats 1500000 in
theorem ev7_rounds_b {G : jj_G} {s : jj_S} {x : Int32} (hx : ¬ (-1 ≤ x ∧ x ≤ 11)) : jj_Ev G m7_rounds 2 [.ref 28, .int x] (jj_m s) 0 0 (some (.int (-3))) (jj_m s) := by
  refine jj_Ev_of (lo := [some (.ref 28), some (.int x), none]) (by decide +kernel) (Nat.le_of_ble_eq_true rfl) rfl (by trivial) ?_
  refine jj_iload_n dX7_rounds_0 rfl ?_
  refine jj_iconst (v := (-1)) dX7_rounds_1 (by decide) ?_
  refine jj_bipush (v := 11) dX7_rounds_2 (by decide) ?_
  refine jj_callS (M2 := m7_in) dX7_rounds_4 ml7_65 tm7_in (ev7_in x (-1) 11) rfl rfl (by omega) (Nat.le_of_ble_eq_true rfl) ?_
  refine jj_if_ne (tgt := 13) dX7_rounds_7 (by decide) (fun zz => absurd (jb_bf hx) zz) (fun _ => ?_)
  refine jj_bipush (v := (-3)) dX7_rounds_10 (by decide) ?_
  exact jj_leaf dX7_rounds_12 rfl rfl
set_option maxRecDepth 100000 in
set_option maxHeartbeats 1500000 in
theorem ev7_rounds_n {G : jj_G} {s : jj_S} {wl : Nat → Nat → Bool} {r0 : Nat → Nat} {E : j5_T} (hb : mb_ok s) (hw : mw_ok s wl) (hr : mo_row s = fun j => nI (r0 j)) (hE : j7_gr (j7_o wl) 10 1 1 (jU (jU r0 0 0) 1 0, mo_fst s, 0) = E) : jj_Ev G m7_rounds 2 [.ref 28, .int (-1)] (jj_m s) 0 0 (some (.int E.2.2)) (jj_m (j7_sT s E)) := by
  refine jj_Ev_of (lo := [some (.ref 28), some (.int (-1)), none]) (by decide +kernel) (Nat.le_of_ble_eq_true rfl) rfl (by trivial) ?_
  have hL := ev7_layRounds (G := G) hb hw hr
  rw [hE] at hL
  refine jj_iload_n dX7_rounds_0 rfl ?_
  refine jj_iconst (v := (-1)) dX7_rounds_1 (by decide) ?_
  refine jj_bipush (v := 11) dX7_rounds_2 (by decide) ?_
  refine jj_callS (M2 := m7_in) dX7_rounds_4 ml7_65 tm7_in (ev7_in (-1) (-1) 11) rfl rfl (by omega) (Nat.le_of_ble_eq_true rfl) ?_
  refine jj_if_ne (tgt := 13) dX7_rounds_7 (by decide) (fun _ => ?_) (fun zz => absurd zz (by decide))
  refine jj_aload_n dX7_rounds_13 rfl ?_
  refine jj_callV (M2 := m7_layRounds) dX7_rounds_14 ml7_206 tm7_layRounds (hL) rfl rfl rfl rfl rfl (by omega) (Nat.le_of_ble_eq_true rfl) ?_
  refine jj_istore_n dX7_rounds_17 rfl (by decide) rfl ?_
  refine jj_iload_n dX7_rounds_18 rfl ?_
  refine jj_iconst (v := (-1)) dX7_rounds_19 (by decide) ?_
  refine jj_icmp_ne (tgt := 27) dX7_rounds_20 (by decide) (fun zz => absurd rfl zz) (fun _ => ?_)
  refine jj_iload_n dX7_rounds_23 rfl ?_
  refine jj_goto (tgt := 41) dX7_rounds_24 (by decide) ?_
  exact jj_leaf dX7_rounds_41 rfl rfl
theorem j7_i11 : ∀ i, i < 12 → (-1 : Int32) ≤ nI i ∧ nI i ≤ 11 := by decide +kernel
theorem j7_im1 : ∀ i, i < 12 → ¬ nI i = -1 := by decide +kernel
set_option maxRecDepth 100000 in
set_option maxHeartbeats 1500000 in
theorem ev7_rounds {G : jj_G} {s : jj_S} {wl : Nat → Nat → Bool} {r0 : Nat → Nat} {E : j5_T} {i : Nat} (hb : mb_ok s) (hw : mw_ok s wl) (hr : mo_row s = fun j => nI (r0 j)) (hE : j7_gr (j7_o wl) 10 1 1 (jU (jU r0 0 0) 1 0, mo_fst s, 0) = E) (hi : i < 12) : jj_Ev G m7_rounds 2 [.ref 28, .int (nI i)] (jj_m s) 0 0 (some (.int (if E.2.2 = 0 then -1 else E.2.1 i))) (jj_m (j7_sT s E)) := by
  refine jj_Ev_of (lo := [some (.ref 28), some (.int (nI i)), none]) (by decide +kernel) (Nat.le_of_ble_eq_true rfl) rfl (by trivial) ?_
  have hL := ev7_layRounds (G := G) hb hw hr
  rw [hE] at hL
  by_cases z : E.2.2 = 0
  · rw [if_pos z]
    refine jj_iload_n dX7_rounds_0 rfl ?_
    refine jj_iconst (v := (-1)) dX7_rounds_1 (by decide) ?_
    refine jj_bipush (v := 11) dX7_rounds_2 (by decide) ?_
    refine jj_callS (M2 := m7_in) dX7_rounds_4 ml7_65 tm7_in (ev7_in (nI i) (-1) 11) rfl rfl (by omega) (Nat.le_of_ble_eq_true rfl) ?_
    refine jj_if_ne (tgt := 13) dX7_rounds_7 (by decide) (fun _ => ?_) (fun zz => absurd zz (by rw [jb_bt (j7_i11 i hi)]; decide))
    refine jj_aload_n dX7_rounds_13 rfl ?_
    refine jj_callV (M2 := m7_layRounds) dX7_rounds_14 ml7_206 tm7_layRounds (hL) rfl rfl rfl rfl rfl (by omega) (Nat.le_of_ble_eq_true rfl) ?_
    refine jj_istore_n dX7_rounds_17 rfl (by decide) rfl ?_
    refine jj_iload_n dX7_rounds_18 rfl ?_
    refine jj_iconst (v := (-1)) dX7_rounds_19 (by decide) ?_
    refine jj_icmp_ne (tgt := 27) dX7_rounds_20 (by decide) (fun _ => ?_) (fun zz => absurd zz (j7_im1 i hi))
    refine jj_iload_n dX7_rounds_27 rfl ?_
    refine jj_if_ne (tgt := 35) dX7_rounds_28 (by decide) (fun zz => absurd z zz) (fun _ => ?_)
    refine jj_iconst (v := (-1)) dX7_rounds_31 (by decide) ?_
    refine jj_goto (tgt := 41) dX7_rounds_32 (by decide) ?_
    exact jj_leaf dX7_rounds_41 rfl rfl
  · rw [if_neg z]
    refine jj_iload_n dX7_rounds_0 rfl ?_
    refine jj_iconst (v := (-1)) dX7_rounds_1 (by decide) ?_
    refine jj_bipush (v := 11) dX7_rounds_2 (by decide) ?_
    refine jj_callS (M2 := m7_in) dX7_rounds_4 ml7_65 tm7_in (ev7_in (nI i) (-1) 11) rfl rfl (by omega) (Nat.le_of_ble_eq_true rfl) ?_
    refine jj_if_ne (tgt := 13) dX7_rounds_7 (by decide) (fun _ => ?_) (fun zz => absurd zz (by rw [jb_bt (j7_i11 i hi)]; decide))
    refine jj_aload_n dX7_rounds_13 rfl ?_
    refine jj_callV (M2 := m7_layRounds) dX7_rounds_14 ml7_206 tm7_layRounds (hL) rfl rfl rfl rfl rfl (by omega) (Nat.le_of_ble_eq_true rfl) ?_
    refine jj_istore_n dX7_rounds_17 rfl (by decide) rfl ?_
    refine jj_iload_n dX7_rounds_18 rfl ?_
    refine jj_iconst (v := (-1)) dX7_rounds_19 (by decide) ?_
    refine jj_icmp_ne (tgt := 27) dX7_rounds_20 (by decide) (fun _ => ?_) (fun zz => absurd zz (j7_im1 i hi))
    refine jj_iload_n dX7_rounds_27 rfl ?_
    refine jj_if_ne (tgt := 35) dX7_rounds_28 (by decide) (fun _ => ?_) (fun zz => absurd zz z)
    refine jj_aload_n dX7_rounds_35 rfl ?_
    refine jj_getf dX7_rounds_36 fl7_51 rfl rfl ?_
    refine jj_iload_n dX7_rounds_39 rfl ?_
    refine jv_iald dX7_rounds_40 rfl (hi) (by decide) ?_
    exact jj_leaf dX7_rounds_41 rfl rfl
set_option maxRecDepth 100000 in
set_option maxHeartbeats 1500000 in
theorem ev7_spread_0 {G : jj_G} {s : jj_S} {wl : Nat → Nat → Bool} {x n : Nat} (hb : mb_ok s) (hw : mw_ok s wl) (hx : x < 12) (hn : n < 100) : jj_Ev G m7_spread 1 [.ref 28, .int (nI x), .int (nI n), .int 0] (jj_m s) 0 0 (none) (jj_m (j7_sN s (j7_wk (j7_o wl) (fun _ v => v) (j7_so s x) n))) := by
  refine jj_Ev_of (lo := [some (.ref 28), some (.int (nI x)), some (.int (nI n)), some (.int 0), none, none, none, none, none]) (by decide +kernel) (Nat.le_of_ble_eq_true rfl) rfl (by trivial) ?_
  have hbN : ∀ P, mb_ok (j7_sN s P) := fun P => hb
  have hwN : ∀ P, mw_ok (j7_sN s P) wl := fun P => hw
  have hol : ∀ f, f < 12 → j7_o wl f < 4096 := fun f hf => j7_o_lt wl hf
  have hgl : ∀ f, f < 12 → (j7_o wl) f < 4096 := hol
  generalize hE : j7_wk (j7_o wl) (fun _ v => v) (j7_so s x) n = E
  have LG : ∀ (i f a c : Nat) (nw th : Nat → Int64), f < 12 → a < 4096 → jj_Go G m7_spread 1 191 [some (.ref 28), some (.int (nI x)), some (.int (nI n)), some (.int 0), some (.int (nI i)), some (.int (nI f)), some (.int (nI a)), some (.int (nI c)), none] [] (jj_m (j7_sN s (nw, j2_gv a (nw f) th 12))) 0 0 (none) (jj_m (j7_sN s E)) → ∀ k, k ≤ 12 → jj_Go G m7_spread 1 129 [some (.ref 28), some (.int (nI x)), some (.int (nI n)), some (.int 0), some (.int (nI i)), some (.int (nI f)), some (.int (nI a)), some (.int (nI c)), some (.int (nI k))] [] (jj_m (j7_sN s (nw, j2_gv a (nw f) th k))) 0 0 (none) (jj_m (j7_sN s E)) := by
    intro i f a c nw th hf ha K
    generalize hv : nw f = v at K ⊢
    refine jj_up 12 (fun k hk ih => ?_) ?_
    · have e1 : j2_gv a v th (k + 1) = if a.testBit k = true then jU (j2_gv a v th k) k (j2_gv a v th k k + v) else j2_gv a v th k := rfl
      rw [e1] at ih
      refine jj_iload dX7_spread_129 rfl ?_
      refine jj_bipush (v := 12) dX7_spread_131 (by decide) ?_
      refine jj_icmp_ge (tgt := 191) dX7_spread_133 (by decide) (fun zz => absurd zz (jb_ge hk (by decide))) (fun _ => ?_)
      refine jj_iload dX7_spread_136 rfl ?_
      refine jj_iload dX7_spread_138 rfl ?_
      refine jj_callS (M2 := m7_has) dX7_spread_140 ml7_175 tm7_has (ev7_has (a := a) (by omega) hk) rfl rfl (by omega) (Nat.le_of_ble_eq_true rfl) ?_
      refine jj_if_eq (tgt := 185) dX7_spread_143 (by decide) (fun c143 => ?_) (fun c143 => ?_)
      · refine jj_iinc dX7_spread_185 rfl (jb_i k) (by decide) rfl ?_
        refine jj_goto (tgt := 129) dX7_spread_188 (by decide) ?_
        first
        | (rw [if_neg (jb_b0 c143)] at ih; exact ih)
        | (rw [if_pos (jb_b1 c143), ← hv] at ih; rw [← hv]; exact ih)
      · refine jj_aload_n dX7_spread_146 rfl ?_
        refine jj_getf dX7_spread_147 fl7_48 rfl rfl ?_
        refine jj_iload dX7_spread_150 rfl ?_
        refine jj_dup2 dX7_spread_152 rfl rfl ?_
        refine jv_lald dX7_spread_153 rfl (hk) (by decide) ?_
        refine jj_iload_n dX7_spread_154 rfl ?_
        refine jj_if_eq (tgt := 176) dX7_spread_155 (by decide) (fun _ => ?_) (fun zz => absurd rfl zz)
        refine jj_aload_n dX7_spread_176 rfl ?_
        refine jj_getf dX7_spread_177 fl7_44 rfl rfl ?_
        refine jj_iload dX7_spread_180 rfl ?_
        refine jv_lald dX7_spread_182 rfl (hf) (by decide) ?_
        refine jj_ladd dX7_spread_183 rfl ?_
        refine jv_last dX7_spread_184 rfl (hk) (by decide) rfl ?_
        refine jj_iinc dX7_spread_185 rfl (jb_i k) (by decide) rfl ?_
        refine jj_goto (tgt := 129) dX7_spread_188 (by decide) ?_
        first
        | (rw [if_neg (jb_b0 c143)] at ih; exact ih)
        | (rw [if_pos (jb_b1 c143), ← hv] at ih; rw [← hv]; exact ih)
    · skip
      refine jj_iload dX7_spread_129 rfl ?_
      refine jj_bipush (v := 12) dX7_spread_131 (by decide) ?_
      refine jj_icmp_ge (tgt := 191) dX7_spread_133 (by decide) (fun _ => ?_) (fun zz => absurd (jb_ge' (n := 12) (by decide)) zz)
      exact jj_keep [true, true, true, true, true, true, true, true, false] K
  have LF : ∀ (i : Nat) (nw th0 : Nat → Int64), jj_Go G m7_spread 1 197 [some (.ref 28), some (.int (nI x)), some (.int (nI n)), some (.int 0), some (.int (nI i)), none, none, none, none] [] (jj_m (j7_sN s (nw, (j2_rw (j7_o wl) (fun _ v => v) (nw, th0) 12)))) 0 0 (none) (jj_m (j7_sN s E)) → ∀ k, k ≤ 12 → jj_Go G m7_spread 1 70 [some (.ref 28), some (.int (nI x)), some (.int (nI n)), some (.int 0), some (.int (nI i)), some (.int (nI k)), none, none, none] [] (jj_m (j7_sN s (nw, (j2_rw (j7_o wl) (fun _ v => v) (nw, th0) k)))) 0 0 (none) (jj_m (j7_sN s E)) := by
    intro i nw th0 K
    refine jj_up 12 (fun f hf ih => ?_) ?_
    · have ho := hol f hf
      have hp := jb_pc_le (j7_o wl f)
      rw [j2_rw] at ih
      generalize (j2_rw (j7_o wl) (fun _ v => v) (nw, th0) f) = th at ih ⊢
      refine jj_iload dX7_spread_70 rfl ?_
      refine jj_bipush (v := 12) dX7_spread_72 (by decide) ?_
      refine jj_icmp_ge (tgt := 197) dX7_spread_74 (by decide) (fun zz => absurd zz (jb_ge hf (by decide))) (fun _ => ?_)
      refine jj_aload_n dX7_spread_77 rfl ?_
      refine jj_iload dX7_spread_78 rfl ?_
      refine jj_callV (M2 := m7_openOf) dX7_spread_80 ml7_184 tm7_openOf (ev7_openOf (s := j7_sN s (nw, th)) (hbN _) (hwN _) hf) rfl rfl rfl rfl rfl (by omega) (Nat.le_of_ble_eq_true rfl) ?_
      refine jj_istore dX7_spread_83 (by decide) rfl ?_
      refine jj_iload dX7_spread_85 rfl ?_
      refine jj_callS (M2 := m7_bits) dX7_spread_87 ml7_200 tm7_bits (ev7_bits ho) rfl rfl (by omega) (Nat.le_of_ble_eq_true rfl) ?_
      refine jj_istore dX7_spread_90 (by decide) rfl ?_
      refine jj_aload_n dX7_spread_92 rfl ?_
      refine jj_getf dX7_spread_93 fl7_48 rfl rfl ?_
      refine jj_iload dX7_spread_96 rfl ?_
      refine jj_dup2 dX7_spread_98 rfl rfl ?_
      refine jv_lald dX7_spread_99 rfl (hf) (by decide) ?_
      refine jj_iload_n dX7_spread_100 rfl ?_
      refine jj_if_eq (tgt := 123) dX7_spread_101 (by decide) (fun _ => ?_) (fun zz => absurd rfl zz)
      refine jj_lconst (v := 0) dX7_spread_123 (by decide) ?_
      refine jj_ladd dX7_spread_124 rfl ?_
      refine jv_last dX7_spread_125 rfl (hf) (by decide) rfl ?_
      refine jj_eq rfl rfl rfl (j7_u0 s nw th f) ?_
      refine jj_iconst (v := 0) dX7_spread_126 (by decide) ?_
      refine jj_istore dX7_spread_127 (by decide) rfl ?_
      exact LG i f (j7_o wl f) (jb_pc (j7_o wl f)) nw th hf ho (by
        refine jj_iinc dX7_spread_191 rfl (jb_i f) (by decide) rfl ?_
        refine jj_goto (tgt := 70) dX7_spread_194 (by decide) ?_
        exact jj_keep [true, true, true, true, true, true, false, false, false] ih) 0 (by decide)
    · skip
      refine jj_iload dX7_spread_70 rfl ?_
      refine jj_bipush (v := 12) dX7_spread_72 (by decide) ?_
      refine jj_icmp_ge (tgt := 197) dX7_spread_74 (by decide) (fun _ => ?_) (fun zz => absurd (jb_ge' (n := 12) (by decide)) zz)
      exact jj_keep [true, true, true, true, true, false, false, false, false] K
  have LC : ∀ (i : Nat) (nw th : Nat → Int64), i < n → jj_Go G m7_spread 1 37 [some (.ref 28), some (.int (nI x)), some (.int (nI n)), some (.int 0), some (.int (nI (i + 1))), none, none, none, none] [] (jj_m (j7_sN s (jF th nw 12, th))) 0 0 (none) (jj_m (j7_sN s E)) → ∀ k, k ≤ 12 → jj_Go G m7_spread 1 200 [some (.ref 28), some (.int (nI x)), some (.int (nI n)), some (.int 0), some (.int (nI i)), some (.int (nI k)), none, none, none] [] (jj_m (j7_sN s (jF th nw k, th))) 0 0 (none) (jj_m (j7_sN s E)) := by
    intro i nw th hi K
    refine jj_up 12 (fun k hk ih => ?_) ?_
    · skip
      refine jj_iload dX7_spread_200 rfl ?_
      refine jj_bipush (v := 12) dX7_spread_202 (by decide) ?_
      refine jj_icmp_ge (tgt := 227) dX7_spread_204 (by decide) (fun zz => absurd zz (jb_ge hk (by decide))) (fun _ => ?_)
      refine jj_aload_n dX7_spread_207 rfl ?_
      refine jj_getf dX7_spread_208 fl7_44 rfl rfl ?_
      refine jj_iload dX7_spread_211 rfl ?_
      refine jj_aload_n dX7_spread_213 rfl ?_
      refine jj_getf dX7_spread_214 fl7_48 rfl rfl ?_
      refine jj_iload dX7_spread_217 rfl ?_
      refine jv_lald dX7_spread_219 rfl (hk) (by decide) ?_
      refine jv_last dX7_spread_220 rfl (hk) (by decide) rfl ?_
      refine jj_iinc dX7_spread_221 rfl (jb_i k) (by decide) rfl ?_
      refine jj_goto (tgt := 200) dX7_spread_224 (by decide) ?_
      exact jj_eq rfl rfl rfl (by rw [← jF_s' (f := th) rfl]; rfl) ih
    · skip
      refine jj_iload dX7_spread_200 rfl ?_
      refine jj_bipush (v := 12) dX7_spread_202 (by decide) ?_
      refine jj_icmp_ge (tgt := 227) dX7_spread_204 (by decide) (fun _ => ?_) (fun zz => absurd (jb_ge' (n := 12) (by decide)) zz)
      refine jj_iinc dX7_spread_227 rfl (jb_i i) (by decide) rfl ?_
      refine jj_goto (tgt := 37) dX7_spread_230 (by decide) ?_
      exact jj_keep [true, true, true, true, true, false, false, false, false] K
  have LO : ∀ (i : Nat) (nw th : Nat → Int64), jj_Go G m7_spread 1 67 [some (.ref 28), some (.int (nI x)), some (.int (nI n)), some (.int 0), some (.int (nI i)), none, none, none, none] [] (jj_m (j7_sN s (nw, jF (fun _ => 0) th 12))) 0 0 (none) (jj_m (j7_sN s E)) → ∀ k, k ≤ 12 → jj_Go G m7_spread 1 46 [some (.ref 28), some (.int (nI x)), some (.int (nI n)), some (.int 0), some (.int (nI i)), some (.int (nI k)), none, none, none] [] (jj_m (j7_sN s (nw, jF (fun _ => 0) th k))) 0 0 (none) (jj_m (j7_sN s E)) := by
    intro i nw th K
    refine jj_up 12 (fun k hk ih => ?_) ?_
    · skip
      refine jj_iload dX7_spread_46 rfl ?_
      refine jj_bipush (v := 12) dX7_spread_48 (by decide) ?_
      refine jj_icmp_ge (tgt := 67) dX7_spread_50 (by decide) (fun zz => absurd zz (jb_ge hk (by decide))) (fun _ => ?_)
      refine jj_aload_n dX7_spread_53 rfl ?_
      refine jj_getf dX7_spread_54 fl7_48 rfl rfl ?_
      refine jj_iload dX7_spread_57 rfl ?_
      refine jj_lconst (v := 0) dX7_spread_59 (by decide) ?_
      refine jv_last dX7_spread_60 rfl (hk) (by decide) rfl ?_
      refine jj_iinc dX7_spread_61 rfl (jb_i k) (by decide) rfl ?_
      refine jj_goto (tgt := 46) dX7_spread_64 (by decide) ?_
      exact jj_eq rfl rfl rfl (by rw [← jF_s' (f := fun _ => (0 : Int64)) rfl]; rfl) ih
    · skip
      refine jj_iload dX7_spread_46 rfl ?_
      refine jj_bipush (v := 12) dX7_spread_48 (by decide) ?_
      refine jj_icmp_ge (tgt := 67) dX7_spread_50 (by decide) (fun _ => ?_) (fun zz => absurd (jb_ge' (n := 12) (by decide)) zz)
      exact jj_keep [true, true, true, true, true, false, false, false, false] K
  have LK : ∀ k, k ≤ n → jj_Go G m7_spread 1 37 [some (.ref 28), some (.int (nI x)), some (.int (nI n)), some (.int 0), some (.int (nI k)), none, none, none, none] [] (jj_m (j7_sN s (j7_wk (j7_o wl) (fun _ v => v) (j7_so s x) k))) 0 0 (none) (jj_m (j7_sN s E)) := by
    refine jj_up n (fun i hi ih => ?_) ?_
    · have e1 : (j7_wk (j7_o wl) (fun _ v => v) (j7_so s x) (i + 1)) = j7_ws (j7_o wl) (fun _ v => v) (j7_wk (j7_o wl) (fun _ v => v) (j7_so s x) i) := rfl
      rw [e1] at ih
      generalize (j7_wk (j7_o wl) (fun _ v => v) (j7_so s x) i) = P at ih ⊢
      obtain ⟨nw, th⟩ := P
      have ih2 := LC i nw (j2_rw (j7_o wl) (fun _ v => v) (nw, jF (fun _ => 0) th 12) 12) hi ih 0 (by decide)
      rw [jF_0] at ih2
      have ih3 := LF i nw (jF (fun _ => 0) th 12) (by
        refine jj_iconst (v := nI 0) dX7_spread_197 (by decide) ?_
        refine jj_istore dX7_spread_198 (by decide) rfl ?_
        exact ih2) 0 (by decide)
      have ih4 := LO i nw th (by
        refine jj_iconst (v := nI 0) dX7_spread_67 (by decide) ?_
        refine jj_istore dX7_spread_68 (by decide) rfl ?_
        exact ih3) 0 (by decide)
      rw [jF_0] at ih4
      refine jj_iload dX7_spread_37 rfl ?_
      refine jj_iload_n dX7_spread_39 rfl ?_
      refine jj_icmp_ge (tgt := 233) dX7_spread_40 (by decide) (fun zz => absurd zz (nI_ge (a := i) (b := n) hi (by omega))) (fun _ => ?_)
      refine jj_iconst (v := nI 0) dX7_spread_43 (by decide) ?_
      refine jj_istore dX7_spread_44 (by decide) rfl ?_
      exact ih4
    · rw [hE]
      refine jj_iload dX7_spread_37 rfl ?_
      refine jj_iload_n dX7_spread_39 rfl ?_
      refine jj_icmp_ge (tgt := 233) dX7_spread_40 (by decide) (fun _ => ?_) (fun zz => absurd (nI_le (a := n) (b := n) (Nat.le_refl n) (by omega)) zz)
      exact jj_leaf dX7_spread_233 rfl rfl
  have L : ∀ k, k ≤ 12 → jj_Go G m7_spread 1 3 [some (.ref 28), some (.int (nI x)), some (.int (nI n)), some (.int 0), some (.int (nI k)), none, none, none, none] [] (jj_m (mo_nowS s (jF (fun f => if f = x then 1 else 0) (mo_now s) k))) 0 0 (none) (jj_m (j7_sN s E)) := by
    refine jj_up 12 (fun k hk ih => ?_) ?_
    · refine jj_iload dX7_spread_3 rfl ?_
      refine jj_bipush (v := 12) dX7_spread_5 (by decide) ?_
      refine jj_icmp_ge (tgt := 34) dX7_spread_7 (by decide) (fun zz => absurd zz (jb_ge hk (by decide))) (fun _ => ?_)
      refine jj_aload_n dX7_spread_10 rfl ?_
      refine jj_getf dX7_spread_11 fl7_44 rfl rfl ?_
      refine jj_iload dX7_spread_14 rfl ?_
      refine jj_iload dX7_spread_16 rfl ?_
      refine jj_iload_n dX7_spread_18 rfl ?_
      refine jj_icmp_ne (tgt := 26) dX7_spread_19 (by decide) (fun c19 => ?_) (fun c19 => ?_)
      · refine jj_lconst (v := 0) dX7_spread_26 (by decide) ?_
        refine jv_last dX7_spread_27 rfl (hk) (by decide) rfl ?_
        refine jj_iinc dX7_spread_28 rfl (jb_i k) (by decide) rfl ?_
        refine jj_goto (tgt := 3) dX7_spread_31 (by decide) ?_
        first
        | (refine jj_eq rfl rfl rfl ?_ ih; rw [← jF_s' (f := fun f => if f = x then (1 : Int64) else 0) (if_neg (fun q => c19 (by rw [q])))]; rfl)
        | (refine jj_eq rfl rfl rfl ?_ ih; rw [← jF_s' (f := fun f => if f = x then (1 : Int64) else 0) (if_pos ((jb_inj (by omega) (by omega)).mp c19))]; rfl)
      · refine jj_lconst (v := 1) dX7_spread_22 (by decide) ?_
        refine jj_goto (tgt := 27) dX7_spread_23 (by decide) ?_
        refine jv_last dX7_spread_27 rfl (hk) (by decide) rfl ?_
        refine jj_iinc dX7_spread_28 rfl (jb_i k) (by decide) rfl ?_
        refine jj_goto (tgt := 3) dX7_spread_31 (by decide) ?_
        first
        | (refine jj_eq rfl rfl rfl ?_ ih; rw [← jF_s' (f := fun f => if f = x then (1 : Int64) else 0) (if_neg (fun q => c19 (by rw [q])))]; rfl)
        | (refine jj_eq rfl rfl rfl ?_ ih; rw [← jF_s' (f := fun f => if f = x then (1 : Int64) else 0) (if_pos ((jb_inj (by omega) (by omega)).mp c19))]; rfl)
    · refine jj_iload dX7_spread_3 rfl ?_
      refine jj_bipush (v := 12) dX7_spread_5 (by decide) ?_
      refine jj_icmp_ge (tgt := 34) dX7_spread_7 (by decide) (fun _ => ?_) (fun zz => absurd (jb_ge' (n := 12) (by decide)) zz)
      refine jj_iconst (v := nI 0) dX7_spread_34 (by decide) ?_
      refine jj_istore dX7_spread_35 (by decide) rfl ?_
      exact jj_eq rfl rfl rfl rfl (LK 0 (Nat.zero_le n))
  refine jj_iconst (v := nI 0) dX7_spread_0 (by decide) ?_
  refine jj_istore dX7_spread_1 (by decide) rfl ?_
  exact jj_eq rfl rfl rfl (by rw [jF_0]; rfl) (L 0 (by decide))
set_option maxRecDepth 100000 in
set_option maxHeartbeats 1500000 in
theorem ev7_spread_1 {G : jj_G} {s : jj_S} {wl : Nat → Nat → Bool} {x n : Nat} (hb : mb_ok s) (hw : mw_ok s wl) (hx : x < 12) (hn : n < 100) : jj_Ev G m7_spread 1 [.ref 28, .int (nI x), .int (nI n), .int 1] (jj_m s) 0 0 (none) (jj_m (j7_sN s (j7_wk (j2_gl (j7_o wl)) (j7_sv1 (j7_o wl)) (j7_so s x) n))) := by
  refine jj_Ev_of (lo := [some (.ref 28), some (.int (nI x)), some (.int (nI n)), some (.int 1), none, none, none, none, none]) (by decide +kernel) (Nat.le_of_ble_eq_true rfl) rfl (by trivial) ?_
  have hbN : ∀ P, mb_ok (j7_sN s P) := fun P => hb
  have hwN : ∀ P, mw_ok (j7_sN s P) wl := fun P => hw
  have hol : ∀ f, f < 12 → j7_o wl f < 4096 := fun f hf => j7_o_lt wl hf
  have hgl : ∀ f, f < 12 → (j2_gl (j7_o wl)) f < 4096 := fun f hf => j2_gl_lt hol hf
  generalize hE : j7_wk (j2_gl (j7_o wl)) (j7_sv1 (j7_o wl)) (j7_so s x) n = E
  have LG : ∀ (i f a c : Nat) (nw th : Nat → Int64), f < 12 → a < 4096 → 1 ≤ c → c < 13 → jj_Go G m7_spread 1 191 [some (.ref 28), some (.int (nI x)), some (.int (nI n)), some (.int 1), some (.int (nI i)), some (.int (nI f)), some (.int (nI a)), some (.int (nI c)), none] [] (jj_m (j7_sN s (nw, j2_gv a (60 / (nI c).toInt64 * nw f) th 12))) 0 0 (none) (jj_m (j7_sN s E)) → ∀ k, k ≤ 12 → jj_Go G m7_spread 1 129 [some (.ref 28), some (.int (nI x)), some (.int (nI n)), some (.int 1), some (.int (nI i)), some (.int (nI f)), some (.int (nI a)), some (.int (nI c)), some (.int (nI k))] [] (jj_m (j7_sN s (nw, j2_gv a (60 / (nI c).toInt64 * nw f) th k))) 0 0 (none) (jj_m (j7_sN s E)) := by
    intro i f a c nw th hf ha hc1 hc2 K
    generalize hv : 60 / (nI c).toInt64 * nw f = v at K ⊢
    refine jj_up 12 (fun k hk ih => ?_) ?_
    · have e1 : j2_gv a v th (k + 1) = if a.testBit k = true then jU (j2_gv a v th k) k (j2_gv a v th k k + v) else j2_gv a v th k := rfl
      rw [e1] at ih
      refine jj_iload dX7_spread_129 rfl ?_
      refine jj_bipush (v := 12) dX7_spread_131 (by decide) ?_
      refine jj_icmp_ge (tgt := 191) dX7_spread_133 (by decide) (fun zz => absurd zz (jb_ge hk (by decide))) (fun _ => ?_)
      refine jj_iload dX7_spread_136 rfl ?_
      refine jj_iload dX7_spread_138 rfl ?_
      refine jj_callS (M2 := m7_has) dX7_spread_140 ml7_175 tm7_has (ev7_has (a := a) (by omega) hk) rfl rfl (by omega) (Nat.le_of_ble_eq_true rfl) ?_
      refine jj_if_eq (tgt := 185) dX7_spread_143 (by decide) (fun c143 => ?_) (fun c143 => ?_)
      · refine jj_iinc dX7_spread_185 rfl (jb_i k) (by decide) rfl ?_
        refine jj_goto (tgt := 129) dX7_spread_188 (by decide) ?_
        first
        | (rw [if_neg (jb_b0 c143)] at ih; exact ih)
        | (rw [if_pos (jb_b1 c143), ← hv] at ih; rw [← hv]; exact ih)
      · refine jj_aload_n dX7_spread_146 rfl ?_
        refine jj_getf dX7_spread_147 fl7_48 rfl rfl ?_
        refine jj_iload dX7_spread_150 rfl ?_
        refine jj_dup2 dX7_spread_152 rfl rfl ?_
        refine jv_lald dX7_spread_153 rfl (hk) (by decide) ?_
        refine jj_iload_n dX7_spread_154 rfl ?_
        refine jj_if_eq (tgt := 176) dX7_spread_155 (by decide) (fun zz => absurd zz (by decide)) (fun _ => ?_)
        refine jj_ldc2 dX7_spread_158 kc7_198 ?_
        refine jj_iload dX7_spread_161 rfl ?_
        refine jj_i2l dX7_spread_163 rfl ?_
        refine jj_ldiv dX7_spread_164 (j7_w3 c hc2 hc1) rfl ?_
        refine jj_aload_n dX7_spread_165 rfl ?_
        refine jj_getf dX7_spread_166 fl7_44 rfl rfl ?_
        refine jj_iload dX7_spread_169 rfl ?_
        refine jv_lald dX7_spread_171 rfl (hf) (by decide) ?_
        refine jj_lmul dX7_spread_172 rfl ?_
        refine jj_goto (tgt := 183) dX7_spread_173 (by decide) ?_
        refine jj_ladd dX7_spread_183 rfl ?_
        refine jv_last dX7_spread_184 rfl (hk) (by decide) rfl ?_
        refine jj_iinc dX7_spread_185 rfl (jb_i k) (by decide) rfl ?_
        refine jj_goto (tgt := 129) dX7_spread_188 (by decide) ?_
        first
        | (rw [if_neg (jb_b0 c143)] at ih; exact ih)
        | (rw [if_pos (jb_b1 c143), ← hv] at ih; rw [← hv]; exact ih)
    · skip
      refine jj_iload dX7_spread_129 rfl ?_
      refine jj_bipush (v := 12) dX7_spread_131 (by decide) ?_
      refine jj_icmp_ge (tgt := 191) dX7_spread_133 (by decide) (fun _ => ?_) (fun zz => absurd (jb_ge' (n := 12) (by decide)) zz)
      exact jj_keep [true, true, true, true, true, true, true, true, false] K
  have LZ : ∀ (i f c : Nat) (nw th : Nat → Int64), jj_Go G m7_spread 1 191 [some (.ref 28), some (.int (nI x)), some (.int (nI n)), some (.int 1), some (.int (nI i)), some (.int (nI f)), some (.int (nI 0)), some (.int (nI c)), none] [] (jj_m (j7_sN s (nw, th))) 0 0 (none) (jj_m (j7_sN s E)) → ∀ k, k ≤ 12 → jj_Go G m7_spread 1 129 [some (.ref 28), some (.int (nI x)), some (.int (nI n)), some (.int 1), some (.int (nI i)), some (.int (nI f)), some (.int (nI 0)), some (.int (nI c)), some (.int (nI k))] [] (jj_m (j7_sN s (nw, th))) 0 0 (none) (jj_m (j7_sN s E)) := by
    intro i f c nw th K
    refine jj_up 12 (fun k hk ih => ?_) ?_
    · skip
      refine jj_iload dX7_spread_129 rfl ?_
      refine jj_bipush (v := 12) dX7_spread_131 (by decide) ?_
      refine jj_icmp_ge (tgt := 191) dX7_spread_133 (by decide) (fun zz => absurd zz (jb_ge hk (by decide))) (fun _ => ?_)
      refine jj_iload dX7_spread_136 rfl ?_
      refine jj_iload dX7_spread_138 rfl ?_
      refine jj_callS (M2 := m7_has) dX7_spread_140 ml7_175 tm7_has (ev7_has (a := 0) (by omega) hk) rfl rfl (by omega) (Nat.le_of_ble_eq_true rfl) ?_
      refine jj_if_eq (tgt := 185) dX7_spread_143 (by decide) (fun _ => ?_) (fun zz => absurd (jb_bf (by rw [Nat.zero_testBit]; decide)) zz)
      refine jj_iinc dX7_spread_185 rfl (jb_i k) (by decide) rfl ?_
      refine jj_goto (tgt := 129) dX7_spread_188 (by decide) ?_
      exact ih
    · skip
      refine jj_iload dX7_spread_129 rfl ?_
      refine jj_bipush (v := 12) dX7_spread_131 (by decide) ?_
      refine jj_icmp_ge (tgt := 191) dX7_spread_133 (by decide) (fun _ => ?_) (fun zz => absurd (jb_ge' (n := 12) (by decide)) zz)
      exact jj_keep [true, true, true, true, true, true, true, true, false] K
  have LF : ∀ (i : Nat) (nw th0 : Nat → Int64), jj_Go G m7_spread 1 197 [some (.ref 28), some (.int (nI x)), some (.int (nI n)), some (.int 1), some (.int (nI i)), none, none, none, none] [] (jj_m (j7_sN s (nw, (j2_rw (j2_gl (j7_o wl)) (j7_sv1 (j7_o wl)) (nw, th0) 12)))) 0 0 (none) (jj_m (j7_sN s E)) → ∀ k, k ≤ 12 → jj_Go G m7_spread 1 70 [some (.ref 28), some (.int (nI x)), some (.int (nI n)), some (.int 1), some (.int (nI i)), some (.int (nI k)), none, none, none] [] (jj_m (j7_sN s (nw, (j2_rw (j2_gl (j7_o wl)) (j7_sv1 (j7_o wl)) (nw, th0) k)))) 0 0 (none) (jj_m (j7_sN s E)) := by
    intro i nw th0 K
    refine jj_up 12 (fun f hf ih => ?_) ?_
    · have ho := hol f hf
      have hp := jb_pc_le (j7_o wl f)
      rw [j2_rw] at ih
      generalize (j2_rw (j2_gl (j7_o wl)) (j7_sv1 (j7_o wl)) (nw, th0) f) = th at ih ⊢
      by_cases z : j7_o wl f = 0
      · have e1 : j2_gv (j2_gl (j7_o wl) f) (j7_sv1 (j7_o wl) f (((nw, th0) : j2_P).1 f)) th 12 = jU th f (th f + 60 * nw f) := by
          show j2_gv (j2_gl (j7_o wl) f) (nw f * (nI (j2_sh (jb_pc (j2_gl (j7_o wl) f)))).toInt64) th 12 = _
          rw [show j2_gl (j7_o wl) f = 2 ^ f from if_pos z, j7_w1 f hf, j2_gv1, if_pos hf, Int64.mul_comm]
        rw [e1] at ih
        refine jj_iload dX7_spread_70 rfl ?_
        refine jj_bipush (v := 12) dX7_spread_72 (by decide) ?_
        refine jj_icmp_ge (tgt := 197) dX7_spread_74 (by decide) (fun zz => absurd zz (jb_ge hf (by decide))) (fun _ => ?_)
        refine jj_aload_n dX7_spread_77 rfl ?_
        refine jj_iload dX7_spread_78 rfl ?_
        refine jj_callV (M2 := m7_openOf) dX7_spread_80 ml7_184 tm7_openOf (ev7_openOf (s := j7_sN s (nw, th)) (hbN _) (hwN _) hf) rfl rfl rfl rfl rfl (by omega) (Nat.le_of_ble_eq_true rfl) ?_
        refine jj_istore dX7_spread_83 (by decide) rfl ?_
        refine jj_iload dX7_spread_85 rfl ?_
        refine jj_callS (M2 := m7_bits) dX7_spread_87 ml7_200 tm7_bits (ev7_bits ho) rfl rfl (by omega) (Nat.le_of_ble_eq_true rfl) ?_
        refine jj_istore dX7_spread_90 (by decide) rfl ?_
        refine jj_aload_n dX7_spread_92 rfl ?_
        refine jj_getf dX7_spread_93 fl7_48 rfl rfl ?_
        refine jj_iload dX7_spread_96 rfl ?_
        refine jj_dup2 dX7_spread_98 rfl rfl ?_
        refine jv_lald dX7_spread_99 rfl (hf) (by decide) ?_
        refine jj_iload_n dX7_spread_100 rfl ?_
        refine jj_if_eq (tgt := 123) dX7_spread_101 (by decide) (fun zz => absurd zz (by decide)) (fun _ => ?_)
        refine jj_iload dX7_spread_104 rfl ?_
        refine jj_if_ne (tgt := 123) dX7_spread_106 (by decide) (fun zz => absurd (by rw [z]; rfl) zz) (fun _ => ?_)
        refine jj_ldc2 dX7_spread_109 kc7_198 ?_
        refine jj_aload_n dX7_spread_112 rfl ?_
        refine jj_getf dX7_spread_113 fl7_44 rfl rfl ?_
        refine jj_iload dX7_spread_116 rfl ?_
        refine jv_lald dX7_spread_118 rfl (hf) (by decide) ?_
        refine jj_lmul dX7_spread_119 rfl ?_
        refine jj_goto (tgt := 124) dX7_spread_120 (by decide) ?_
        refine jj_ladd dX7_spread_124 rfl ?_
        refine jv_last dX7_spread_125 rfl (hf) (by decide) rfl ?_
        rw [z]
        refine jj_iconst (v := 0) dX7_spread_126 (by decide) ?_
        refine jj_istore dX7_spread_127 (by decide) rfl ?_
        exact LZ i f (jb_pc 0) nw (jU th f (th f + 60 * nw f)) (by
          refine jj_iinc dX7_spread_191 rfl (jb_i f) (by decide) rfl ?_
          refine jj_goto (tgt := 70) dX7_spread_194 (by decide) ?_
          exact jj_keep [true, true, true, true, true, true, false, false, false] ih) 0 (by decide)
      · have h1 := jb_pc_pos ho z
        have e1 : j7_sv1 (j7_o wl) f (((nw, th0) : j2_P).1 f) = 60 / (nI (jb_pc (j7_o wl f))).toInt64 * nw f := by
          show nw f * (nI (j2_sh (jb_pc (j2_gl (j7_o wl) f)))).toInt64 = _
          rw [show j2_gl (j7_o wl) f = j7_o wl f from if_neg z, j7_w2 _ (by omega) h1, Int64.mul_comm]
        rw [e1, show j2_gl (j7_o wl) f = j7_o wl f from if_neg z] at ih
        refine jj_iload dX7_spread_70 rfl ?_
        refine jj_bipush (v := 12) dX7_spread_72 (by decide) ?_
        refine jj_icmp_ge (tgt := 197) dX7_spread_74 (by decide) (fun zz => absurd zz (jb_ge hf (by decide))) (fun _ => ?_)
        refine jj_aload_n dX7_spread_77 rfl ?_
        refine jj_iload dX7_spread_78 rfl ?_
        refine jj_callV (M2 := m7_openOf) dX7_spread_80 ml7_184 tm7_openOf (ev7_openOf (s := j7_sN s (nw, th)) (hbN _) (hwN _) hf) rfl rfl rfl rfl rfl (by omega) (Nat.le_of_ble_eq_true rfl) ?_
        refine jj_istore dX7_spread_83 (by decide) rfl ?_
        refine jj_iload dX7_spread_85 rfl ?_
        refine jj_callS (M2 := m7_bits) dX7_spread_87 ml7_200 tm7_bits (ev7_bits ho) rfl rfl (by omega) (Nat.le_of_ble_eq_true rfl) ?_
        refine jj_istore dX7_spread_90 (by decide) rfl ?_
        refine jj_aload_n dX7_spread_92 rfl ?_
        refine jj_getf dX7_spread_93 fl7_48 rfl rfl ?_
        refine jj_iload dX7_spread_96 rfl ?_
        refine jj_dup2 dX7_spread_98 rfl rfl ?_
        refine jv_lald dX7_spread_99 rfl (hf) (by decide) ?_
        refine jj_iload_n dX7_spread_100 rfl ?_
        refine jj_if_eq (tgt := 123) dX7_spread_101 (by decide) (fun zz => absurd zz (by decide)) (fun _ => ?_)
        refine jj_iload dX7_spread_104 rfl ?_
        refine jj_if_ne (tgt := 123) dX7_spread_106 (by decide) (fun _ => ?_) (fun zz => absurd zz (j7_w4 _ (by omega) h1))
        refine jj_lconst (v := 0) dX7_spread_123 (by decide) ?_
        refine jj_ladd dX7_spread_124 rfl ?_
        refine jv_last dX7_spread_125 rfl (hf) (by decide) rfl ?_
        refine jj_eq rfl rfl rfl (j7_u0 s nw th f) ?_
        refine jj_iconst (v := 0) dX7_spread_126 (by decide) ?_
        refine jj_istore dX7_spread_127 (by decide) rfl ?_
        exact LG i f (j7_o wl f) (jb_pc (j7_o wl f)) nw th hf ho h1 (by omega) (by
          refine jj_iinc dX7_spread_191 rfl (jb_i f) (by decide) rfl ?_
          refine jj_goto (tgt := 70) dX7_spread_194 (by decide) ?_
          exact jj_keep [true, true, true, true, true, true, false, false, false] ih) 0 (by decide)
    · skip
      refine jj_iload dX7_spread_70 rfl ?_
      refine jj_bipush (v := 12) dX7_spread_72 (by decide) ?_
      refine jj_icmp_ge (tgt := 197) dX7_spread_74 (by decide) (fun _ => ?_) (fun zz => absurd (jb_ge' (n := 12) (by decide)) zz)
      exact jj_keep [true, true, true, true, true, false, false, false, false] K
  have LC : ∀ (i : Nat) (nw th : Nat → Int64), i < n → jj_Go G m7_spread 1 37 [some (.ref 28), some (.int (nI x)), some (.int (nI n)), some (.int 1), some (.int (nI (i + 1))), none, none, none, none] [] (jj_m (j7_sN s (jF th nw 12, th))) 0 0 (none) (jj_m (j7_sN s E)) → ∀ k, k ≤ 12 → jj_Go G m7_spread 1 200 [some (.ref 28), some (.int (nI x)), some (.int (nI n)), some (.int 1), some (.int (nI i)), some (.int (nI k)), none, none, none] [] (jj_m (j7_sN s (jF th nw k, th))) 0 0 (none) (jj_m (j7_sN s E)) := by
    intro i nw th hi K
    refine jj_up 12 (fun k hk ih => ?_) ?_
    · skip
      refine jj_iload dX7_spread_200 rfl ?_
      refine jj_bipush (v := 12) dX7_spread_202 (by decide) ?_
      refine jj_icmp_ge (tgt := 227) dX7_spread_204 (by decide) (fun zz => absurd zz (jb_ge hk (by decide))) (fun _ => ?_)
      refine jj_aload_n dX7_spread_207 rfl ?_
      refine jj_getf dX7_spread_208 fl7_44 rfl rfl ?_
      refine jj_iload dX7_spread_211 rfl ?_
      refine jj_aload_n dX7_spread_213 rfl ?_
      refine jj_getf dX7_spread_214 fl7_48 rfl rfl ?_
      refine jj_iload dX7_spread_217 rfl ?_
      refine jv_lald dX7_spread_219 rfl (hk) (by decide) ?_
      refine jv_last dX7_spread_220 rfl (hk) (by decide) rfl ?_
      refine jj_iinc dX7_spread_221 rfl (jb_i k) (by decide) rfl ?_
      refine jj_goto (tgt := 200) dX7_spread_224 (by decide) ?_
      exact jj_eq rfl rfl rfl (by rw [← jF_s' (f := th) rfl]; rfl) ih
    · skip
      refine jj_iload dX7_spread_200 rfl ?_
      refine jj_bipush (v := 12) dX7_spread_202 (by decide) ?_
      refine jj_icmp_ge (tgt := 227) dX7_spread_204 (by decide) (fun _ => ?_) (fun zz => absurd (jb_ge' (n := 12) (by decide)) zz)
      refine jj_iinc dX7_spread_227 rfl (jb_i i) (by decide) rfl ?_
      refine jj_goto (tgt := 37) dX7_spread_230 (by decide) ?_
      exact jj_keep [true, true, true, true, true, false, false, false, false] K
  have LO : ∀ (i : Nat) (nw th : Nat → Int64), jj_Go G m7_spread 1 67 [some (.ref 28), some (.int (nI x)), some (.int (nI n)), some (.int 1), some (.int (nI i)), none, none, none, none] [] (jj_m (j7_sN s (nw, jF (fun _ => 0) th 12))) 0 0 (none) (jj_m (j7_sN s E)) → ∀ k, k ≤ 12 → jj_Go G m7_spread 1 46 [some (.ref 28), some (.int (nI x)), some (.int (nI n)), some (.int 1), some (.int (nI i)), some (.int (nI k)), none, none, none] [] (jj_m (j7_sN s (nw, jF (fun _ => 0) th k))) 0 0 (none) (jj_m (j7_sN s E)) := by
    intro i nw th K
    refine jj_up 12 (fun k hk ih => ?_) ?_
    · skip
      refine jj_iload dX7_spread_46 rfl ?_
      refine jj_bipush (v := 12) dX7_spread_48 (by decide) ?_
      refine jj_icmp_ge (tgt := 67) dX7_spread_50 (by decide) (fun zz => absurd zz (jb_ge hk (by decide))) (fun _ => ?_)
      refine jj_aload_n dX7_spread_53 rfl ?_
      refine jj_getf dX7_spread_54 fl7_48 rfl rfl ?_
      refine jj_iload dX7_spread_57 rfl ?_
      refine jj_lconst (v := 0) dX7_spread_59 (by decide) ?_
      refine jv_last dX7_spread_60 rfl (hk) (by decide) rfl ?_
      refine jj_iinc dX7_spread_61 rfl (jb_i k) (by decide) rfl ?_
      refine jj_goto (tgt := 46) dX7_spread_64 (by decide) ?_
      exact jj_eq rfl rfl rfl (by rw [← jF_s' (f := fun _ => (0 : Int64)) rfl]; rfl) ih
    · skip
      refine jj_iload dX7_spread_46 rfl ?_
      refine jj_bipush (v := 12) dX7_spread_48 (by decide) ?_
      refine jj_icmp_ge (tgt := 67) dX7_spread_50 (by decide) (fun _ => ?_) (fun zz => absurd (jb_ge' (n := 12) (by decide)) zz)
      exact jj_keep [true, true, true, true, true, false, false, false, false] K
  have LK : ∀ k, k ≤ n → jj_Go G m7_spread 1 37 [some (.ref 28), some (.int (nI x)), some (.int (nI n)), some (.int 1), some (.int (nI k)), none, none, none, none] [] (jj_m (j7_sN s (j7_wk (j2_gl (j7_o wl)) (j7_sv1 (j7_o wl)) (j7_so s x) k))) 0 0 (none) (jj_m (j7_sN s E)) := by
    refine jj_up n (fun i hi ih => ?_) ?_
    · have e1 : (j7_wk (j2_gl (j7_o wl)) (j7_sv1 (j7_o wl)) (j7_so s x) (i + 1)) = j7_ws (j2_gl (j7_o wl)) (j7_sv1 (j7_o wl)) (j7_wk (j2_gl (j7_o wl)) (j7_sv1 (j7_o wl)) (j7_so s x) i) := rfl
      rw [e1] at ih
      generalize (j7_wk (j2_gl (j7_o wl)) (j7_sv1 (j7_o wl)) (j7_so s x) i) = P at ih ⊢
      obtain ⟨nw, th⟩ := P
      have ih2 := LC i nw (j2_rw (j2_gl (j7_o wl)) (j7_sv1 (j7_o wl)) (nw, jF (fun _ => 0) th 12) 12) hi ih 0 (by decide)
      rw [jF_0] at ih2
      have ih3 := LF i nw (jF (fun _ => 0) th 12) (by
        refine jj_iconst (v := nI 0) dX7_spread_197 (by decide) ?_
        refine jj_istore dX7_spread_198 (by decide) rfl ?_
        exact ih2) 0 (by decide)
      have ih4 := LO i nw th (by
        refine jj_iconst (v := nI 0) dX7_spread_67 (by decide) ?_
        refine jj_istore dX7_spread_68 (by decide) rfl ?_
        exact ih3) 0 (by decide)
      rw [jF_0] at ih4
      refine jj_iload dX7_spread_37 rfl ?_
      refine jj_iload_n dX7_spread_39 rfl ?_
      refine jj_icmp_ge (tgt := 233) dX7_spread_40 (by decide) (fun zz => absurd zz (nI_ge (a := i) (b := n) hi (by omega))) (fun _ => ?_)
      refine jj_iconst (v := nI 0) dX7_spread_43 (by decide) ?_
      refine jj_istore dX7_spread_44 (by decide) rfl ?_
      exact ih4
    · rw [hE]
      refine jj_iload dX7_spread_37 rfl ?_
      refine jj_iload_n dX7_spread_39 rfl ?_
      refine jj_icmp_ge (tgt := 233) dX7_spread_40 (by decide) (fun _ => ?_) (fun zz => absurd (nI_le (a := n) (b := n) (Nat.le_refl n) (by omega)) zz)
      exact jj_leaf dX7_spread_233 rfl rfl
  have L : ∀ k, k ≤ 12 → jj_Go G m7_spread 1 3 [some (.ref 28), some (.int (nI x)), some (.int (nI n)), some (.int 1), some (.int (nI k)), none, none, none, none] [] (jj_m (mo_nowS s (jF (fun f => if f = x then 1 else 0) (mo_now s) k))) 0 0 (none) (jj_m (j7_sN s E)) := by
    refine jj_up 12 (fun k hk ih => ?_) ?_
    · refine jj_iload dX7_spread_3 rfl ?_
      refine jj_bipush (v := 12) dX7_spread_5 (by decide) ?_
      refine jj_icmp_ge (tgt := 34) dX7_spread_7 (by decide) (fun zz => absurd zz (jb_ge hk (by decide))) (fun _ => ?_)
      refine jj_aload_n dX7_spread_10 rfl ?_
      refine jj_getf dX7_spread_11 fl7_44 rfl rfl ?_
      refine jj_iload dX7_spread_14 rfl ?_
      refine jj_iload dX7_spread_16 rfl ?_
      refine jj_iload_n dX7_spread_18 rfl ?_
      refine jj_icmp_ne (tgt := 26) dX7_spread_19 (by decide) (fun c19 => ?_) (fun c19 => ?_)
      · refine jj_lconst (v := 0) dX7_spread_26 (by decide) ?_
        refine jv_last dX7_spread_27 rfl (hk) (by decide) rfl ?_
        refine jj_iinc dX7_spread_28 rfl (jb_i k) (by decide) rfl ?_
        refine jj_goto (tgt := 3) dX7_spread_31 (by decide) ?_
        first
        | (refine jj_eq rfl rfl rfl ?_ ih; rw [← jF_s' (f := fun f => if f = x then (1 : Int64) else 0) (if_neg (fun q => c19 (by rw [q])))]; rfl)
        | (refine jj_eq rfl rfl rfl ?_ ih; rw [← jF_s' (f := fun f => if f = x then (1 : Int64) else 0) (if_pos ((jb_inj (by omega) (by omega)).mp c19))]; rfl)
      · refine jj_lconst (v := 1) dX7_spread_22 (by decide) ?_
        refine jj_goto (tgt := 27) dX7_spread_23 (by decide) ?_
        refine jv_last dX7_spread_27 rfl (hk) (by decide) rfl ?_
        refine jj_iinc dX7_spread_28 rfl (jb_i k) (by decide) rfl ?_
        refine jj_goto (tgt := 3) dX7_spread_31 (by decide) ?_
        first
        | (refine jj_eq rfl rfl rfl ?_ ih; rw [← jF_s' (f := fun f => if f = x then (1 : Int64) else 0) (if_neg (fun q => c19 (by rw [q])))]; rfl)
        | (refine jj_eq rfl rfl rfl ?_ ih; rw [← jF_s' (f := fun f => if f = x then (1 : Int64) else 0) (if_pos ((jb_inj (by omega) (by omega)).mp c19))]; rfl)
    · refine jj_iload dX7_spread_3 rfl ?_
      refine jj_bipush (v := 12) dX7_spread_5 (by decide) ?_
      refine jj_icmp_ge (tgt := 34) dX7_spread_7 (by decide) (fun _ => ?_) (fun zz => absurd (jb_ge' (n := 12) (by decide)) zz)
      refine jj_iconst (v := nI 0) dX7_spread_34 (by decide) ?_
      refine jj_istore dX7_spread_35 (by decide) rfl ?_
      exact jj_eq rfl rfl rfl rfl (LK 0 (Nat.zero_le n))
  refine jj_iconst (v := nI 0) dX7_spread_0 (by decide) ?_
  refine jj_istore dX7_spread_1 (by decide) rfl ?_
  exact jj_eq rfl rfl rfl (by rw [jF_0]; rfl) (L 0 (by decide))
