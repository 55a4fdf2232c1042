/-! THE MODEL: rounds, by a search that goes back -/
def j7_sT (s : jj_S) (T : j5_T) : jj_S := mo_fstS (mo_rowS s (fun j => nI (T.1 j))) T.2.1
def j7_en (o : Nat → Nat) (k : Nat) (T : j5_T) : j5_T := if T.1 1 < k ∧ (o k).testBit 0 = true then (T.1, (if T.2.2 = 0 then jF (fun j => nI (T.1 j)) T.2.1 12 else T.2.1), T.2.2 + 1) else T
def j7_lp (f : Nat → j5_T → j5_T) : Nat → Nat → j5_T → j5_T
  | 0, _, T => T
  | m + 1, k, T => j7_lp f m (k + 1) (f k T)
def j7_v (o : Nat → Nat) (f : Nat → j5_T → j5_T) (u q k : Nat) (T : j5_T) : j5_T := if u.testBit k = true ∨ ¬ (o (T.1 q)).testBit k = true then T else f k T
def j7_fin (d : Nat) (T : j5_T) : j5_T := (jU T.1 d 0, T.2)
def j7_gr (o : Nat → Nat) : Nat → Nat → Nat → j5_T → j5_T
  | 0, d, u, T => j7_fin d (j7_lp (j7_v o (fun k T => j7_en o k (jU T.1 d k, T.2)) u (d - 1)) 11 1 T)
  | n + 1, d, u, T => j7_fin d (j7_lp (j7_v o (fun k T => j7_gr o n (d + 1) (u ||| 2 ^ k) (jU (jU T.1 d k) (d + 1) 0, T.2)) u (d - 1)) 11 1 T)
theorem j7_en_1 (o : Nat → Nat) (k : Nat) (T : j5_T) : (j7_en o k T).1 = T.1 := by
  unfold j7_en
  split <;> rfl
theorem j7_lp_keep {f : Nat → j5_T → j5_T} {d : Nat} (hf : ∀ k T j, j < d → (f k T).1 j = T.1 j) : ∀ m k T j, j < d → (j7_lp f m k T).1 j = T.1 j := by
  intro m
  induction m with
  | zero => intro k T j _; rfl
  | succ m ih =>
    intro k T j hj
    unfold j7_lp
    rw [ih (k + 1) _ j hj, hf k T j hj]
theorem j7_v_keep {o : Nat → Nat} {f : Nat → j5_T → j5_T} {u q d : Nat} (hf : ∀ k T j, j < d → (f k T).1 j = T.1 j) : ∀ k T j, j < d → (j7_v o f u q k T).1 j = T.1 j := by
  intro k T j hj
  unfold j7_v
  split
  · rfl
  · exact hf k T j hj
theorem j7_fin_keep {d : Nat} (T : j5_T) {j : Nat} (hj : j < d) : (j7_fin d T).1 j = T.1 j := jU_ne _ _ (by omega)
theorem j7_gr_keep (o : Nat → Nat) : ∀ n d u T j, j < d → (j7_gr o n d u T).1 j = T.1 j := by
  intro n
  induction n with
  | zero =>
    intro d u T j hj
    unfold j7_gr
    rw [j7_fin_keep _ hj]
    refine j7_lp_keep (j7_v_keep fun k T j hj => ?_) 11 1 T j hj
    rw [j7_en_1]
    exact jU_ne _ _ (by omega)
  | succ n ih =>
    intro d u T j hj
    unfold j7_gr
    rw [j7_fin_keep _ hj]
    refine j7_lp_keep (j7_v_keep fun k T j hj => ?_) 11 1 T j hj
    rw [ih (d + 1) _ _ j (by omega)]
    show jU (jU T.1 d k) (d + 1) 0 j = T.1 j
    rw [jU_ne _ _ (by omega), jU_ne _ _ (by omega)]
theorem j7_rU (s : jj_S) (T : j5_T) (d k : Nat) : jj_m (mo_rowS (j7_sT s T) (jU (mo_row (j7_sT s T)) d (nI k))) = jj_m (j7_sT s (jU T.1 d k, T.2)) := by
  have e : jU (mo_row (j7_sT s T)) d (nI k) = fun j => nI (jU T.1 d k j) := by
    funext j
    by_cases h : j = d
    · subst h; rw [jU_at, jU_at]
    · rw [jU_ne _ _ h, jU_ne _ _ h]; rfl
  rw [e]
  rfl
theorem j7_clr {u c : Nat} (h : u.testBit c = false) (hu : u < 4096) (hc : c < 12) : j5_cl (u ||| 2 ^ c) c = u := by
  unfold j5_cl
  apply Nat.eq_of_testBit_eq
  intro i
  rw [Nat.testBit_and, Nat.testBit_or, Nat.testBit_xor, Nat.testBit_two_pow]
  by_cases hi : c = i
  · subst hi
    have e : ∀ i, i < 12 → (4095 : Nat).testBit i = true := by decide
    rw [h, e c hc]
    simp
  · by_cases h12 : i < 12
    · have e : ∀ i, i < 12 → (4095 : Nat).testBit i = true := by decide
      rw [e i h12]
      simp [hi]
    · have e : u.testBit i = false := Nat.testBit_lt_two_pow (Nat.lt_of_lt_of_le (show u < 2 ^ 12 from hu) (Nat.pow_le_pow_right (by decide) (show 12 ≤ i by omega)))
      rw [e]
      simp [hi]
theorem jd_dec : ∀ d, d < 12 → 1 ≤ d → nI d + Int32.ofInt (-1) = nI (d - 1) := by decide +kernel
theorem jd_sub : ∀ d, d < 12 → 1 ≤ d → nI d - 1 = nI (d - 1) := by decide +kernel
theorem jd_pos : ∀ d, d < 13 → 1 ≤ d → ¬ nI d ≤ 0 := by decide +kernel
theorem jd_ne : ∀ d, d < 12 → ∀ e, e < 13 → ¬ d = e → ¬ nI d = nI e := by decide +kernel
theorem jor_lt {u k : Nat} (hu : u < 4096) (hk : k < 12) : u ||| 2 ^ k < 4096 := Nat.or_lt_two_pow (n := 12) hu (Nat.pow_lt_pow_right (by decide) hk)
set_option maxRecDepth 100000 in
set_option maxHeartbeats 1500000 in
theorem ev7_layRounds {G : jj_G} {s : jj_S} {wl : Nat → Nat → Bool} {r0 : Nat → Nat} (hb : mb_ok s) (hw : mw_ok s wl) (hr : mo_row s = fun j => nI (r0 j)) : jj_Ev G m7_layRounds 1 [.ref 28] (jj_m s) 0 0 (some (.int (j7_gr (j7_o wl) 10 1 1 (jU (jU r0 0 0) 1 0, mo_fst s, 0)).2.2)) (jj_m (j7_sT s (j7_gr (j7_o wl) 10 1 1 (jU (jU r0 0 0) 1 0, mo_fst s, 0)))) := by
  refine jj_Ev_of (lo := [some (.ref 28), none, none, none, none, none]) (by decide +kernel) (Nat.le_of_ble_eq_true rfl) rfl (by trivial) ?_
  have hbT : ∀ T, mb_ok (j7_sT s T) := fun T => hb
  have hwT : ∀ T, mw_ok (j7_sT s T) wl := fun T => hw
  have hol : ∀ f, f < 12 → j7_o wl f < 4096 := fun f hf => j7_o_lt wl hf
  generalize hE : (j7_gr (j7_o wl) 10 1 1 (jU (jU r0 0 0) 1 0, mo_fst s, 0)) = E
  have H : ∀ d c u T, 1 ≤ d → d < 12 → c < 12 → T.1 d = c → u < 4096 → (¬ c = 0 → u.testBit c = false) → jj_Go G m7_layRounds 1 56 [some (.ref 28), some (.int T.2.2), some (.int (nI d)), some (.int (nI u)), some (.int (nI (c + 1))), none] [] (jj_m (j7_sT s T)) 0 0 (some (.int E.2.2)) (jj_m (j7_sT s E)) → jj_Go G m7_layRounds 1 20 [some (.ref 28), some (.int T.2.2), some (.int (nI d)), some (.int (nI (if c = 0 then u else u ||| 2 ^ c))), none, none] [] (jj_m (j7_sT s T)) 0 0 (some (.int E.2.2)) (jj_m (j7_sT s E)) := by
    intro d c u T hd1 hd2 hc hT hu hbit K
    by_cases z : c = 0
    · subst z
      rw [if_pos rfl]
      refine jj_iload_n dX7_layRounds_20 rfl ?_
      refine jj_if_le (tgt := 231) dX7_layRounds_21 (by decide) (fun zz => absurd zz (jd_pos d (by omega) hd1)) (fun _ => ?_)
      refine jj_aload_n dX7_layRounds_24 rfl ?_
      refine jj_getf dX7_layRounds_25 fl7_41 rfl rfl ?_
      refine jj_iload_n dX7_layRounds_28 rfl ?_
      refine jv_iald dX7_layRounds_29 rfl (hd2) (by decide) ?_
      rw [show mo_row (j7_sT s T) d = nI 0 from congrArg nI hT]
      refine jj_iconst (v := 1) dX7_layRounds_30 (by decide) ?_
      refine jj_iadd (v := nI (0 + 1)) dX7_layRounds_31 (nI_add 0 1) ?_
      refine jj_istore dX7_layRounds_32 (by decide) rfl ?_
      refine jj_aload_n dX7_layRounds_34 rfl ?_
      refine jj_getf dX7_layRounds_35 fl7_41 rfl rfl ?_
      refine jj_iload_n dX7_layRounds_38 rfl ?_
      refine jv_iald dX7_layRounds_39 rfl (hd2) (by decide) ?_
      rw [show mo_row (j7_sT s T) d = nI 0 from congrArg nI hT]
      refine jj_if_le (tgt := 56) dX7_layRounds_40 (by decide) (fun _ => ?_) (fun zz => absurd (by decide) zz)
      exact K
    · rw [if_neg z]
      refine jj_iload_n dX7_layRounds_20 rfl ?_
      refine jj_if_le (tgt := 231) dX7_layRounds_21 (by decide) (fun zz => absurd zz (jd_pos d (by omega) hd1)) (fun _ => ?_)
      refine jj_aload_n dX7_layRounds_24 rfl ?_
      refine jj_getf dX7_layRounds_25 fl7_41 rfl rfl ?_
      refine jj_iload_n dX7_layRounds_28 rfl ?_
      refine jv_iald dX7_layRounds_29 rfl (hd2) (by decide) ?_
      rw [show mo_row (j7_sT s T) d = nI c from congrArg nI hT]
      refine jj_iconst (v := 1) dX7_layRounds_30 (by decide) ?_
      refine jj_iadd (v := nI (c + 1)) dX7_layRounds_31 (nI_add c 1) ?_
      refine jj_istore dX7_layRounds_32 (by decide) rfl ?_
      refine jj_aload_n dX7_layRounds_34 rfl ?_
      refine jj_getf dX7_layRounds_35 fl7_41 rfl rfl ?_
      refine jj_iload_n dX7_layRounds_38 rfl ?_
      refine jv_iald dX7_layRounds_39 rfl (hd2) (by decide) ?_
      rw [show mo_row (j7_sT s T) d = nI c from congrArg nI hT]
      refine jj_if_le (tgt := 56) dX7_layRounds_40 (by decide) (fun zz => absurd zz (jd_pos c (by omega) (by omega))) (fun _ => ?_)
      refine jj_iload_n dX7_layRounds_43 rfl ?_
      refine jj_iconst (v := 1) dX7_layRounds_44 (by decide) ?_
      refine jj_aload_n dX7_layRounds_45 rfl ?_
      refine jj_getf dX7_layRounds_46 fl7_41 rfl rfl ?_
      refine jj_iload_n dX7_layRounds_49 rfl ?_
      refine jv_iald dX7_layRounds_50 rfl (hd2) (by decide) ?_
      rw [show mo_row (j7_sT s T) d = nI c from congrArg nI hT]
      refine jj_ishl dX7_layRounds_51 (jb_2k c (by omega)) ?_
      refine jj_iconst (v := (-1)) dX7_layRounds_52 (by decide) ?_
      refine jj_ixor dX7_layRounds_53 rfl ?_
      refine jj_iand dX7_layRounds_54 (by rw [j5_clv (jor_lt hu hc) hc, j7_clr (hbit z) hu hc]) ?_
      refine jj_istore_n dX7_layRounds_55 rfl (by decide) rfl ?_
      exact K
  have PV : ∀ d u (f : Nat → j5_T → j5_T), 1 ≤ d → d < 12 → u < 4096 → (∀ k T j, j < d → (f k T).1 j = T.1 j) → (∀ k (T : j5_T), 1 ≤ k → k < 12 → (∀ j, j < d → T.1 j < 12) → u.testBit k = false → jj_Go G m7_layRounds 1 56 [some (.ref 28), some (.int (f k T).2.2), some (.int (nI d)), some (.int (nI u)), some (.int (nI (k + 1))), none] [] (jj_m (j7_sT s (f k T))) 0 0 (some (.int E.2.2)) (jj_m (j7_sT s E)) → jj_Go G m7_layRounds 1 98 [some (.ref 28), some (.int T.2.2), some (.int (nI d)), some (.int (nI u)), some (.int (nI k)), none] [] (jj_m (j7_sT s T)) 0 0 (some (.int E.2.2)) (jj_m (j7_sT s E))) → ∀ m k (T : j5_T), k + m = 12 → 1 ≤ k → (∀ j, j < d → T.1 j < 12) → jj_Go G m7_layRounds 1 20 [some (.ref 28), some (.int (j7_lp (j7_v (j7_o wl) f u (d - 1)) m k T).2.2), some (.int (nI (d - 1))), some (.int (nI u)), none, none] [] (jj_m (j7_sT s (j7_fin d (j7_lp (j7_v (j7_o wl) f u (d - 1)) m k T)))) 0 0 (some (.int E.2.2)) (jj_m (j7_sT s E)) → jj_Go G m7_layRounds 1 56 [some (.ref 28), some (.int T.2.2), some (.int (nI d)), some (.int (nI u)), some (.int (nI k)), none] [] (jj_m (j7_sT s T)) 0 0 (some (.int E.2.2)) (jj_m (j7_sT s E)) := by
    intro d u f hd1 hd2 hu hf hv m
    induction m with
    | zero =>
      intro k T hk hk1 hT K
      obtain rfl : k = 12 := hk
      refine jj_iload dX7_layRounds_56 rfl ?_
      refine jj_bipush (v := 12) dX7_layRounds_58 (by decide) ?_
      refine jj_icmp_ge (tgt := 98) dX7_layRounds_60 (by decide) (fun _ => ?_) (fun zz => absurd (jb_ge' (n := 12) (by decide)) zz)
      refine jj_iload dX7_layRounds_98 rfl ?_
      refine jj_bipush (v := 12) dX7_layRounds_100 (by decide) ?_
      refine jj_icmp_ne (tgt := 118) dX7_layRounds_102 (by decide) (fun zz => absurd rfl zz) (fun _ => ?_)
      refine jj_aload_n dX7_layRounds_105 rfl ?_
      refine jj_getf dX7_layRounds_106 fl7_41 rfl rfl ?_
      refine jj_iload_n dX7_layRounds_109 rfl ?_
      refine jj_iconst (v := 0) dX7_layRounds_110 (by decide) ?_
      refine jv_iast dX7_layRounds_111 rfl (hd2) (by decide) rfl ?_
      refine jj_iinc dX7_layRounds_112 rfl (jd_dec d hd2 hd1) (by decide) rfl ?_
      refine jj_goto (tgt := 228) dX7_layRounds_115 (by decide) ?_
      refine jj_goto (tgt := 20) dX7_layRounds_228 (by decide) ?_
      exact jj_keep [true, true, true, true, false, false] (jj_eq rfl rfl rfl (j7_rU s T d 0) K)
    | succ m ihm =>
      intro k T hk hk1 hT K
      have hk3 : k < 12 := by omega
      have hq : T.1 (d - 1) < 12 := hT (d - 1) (by omega)
      have hoq := hol _ hq
      rw [j7_lp] at K
      by_cases z : u.testBit k = true ∨ ¬ (j7_o wl (T.1 (d - 1))).testBit k = true
      · rw [show j7_v (j7_o wl) f u (d - 1) k T = T from if_pos z] at K
        have ih := ihm (k + 1) T (by omega) (by omega) hT K
        refine jj_iload dX7_layRounds_56 rfl ?_
        refine jj_bipush (v := 12) dX7_layRounds_58 (by decide) ?_
        refine jj_icmp_ge (tgt := 98) dX7_layRounds_60 (by decide) (fun zz => absurd zz (jb_ge hk3 (by decide))) (fun _ => ?_)
        refine jj_iload_n dX7_layRounds_63 rfl ?_
        refine jj_iload dX7_layRounds_64 rfl ?_
        refine jj_callS (M2 := m7_has) dX7_layRounds_66 ml7_175 tm7_has (ev7_has (a := u) (by omega) hk3) rfl rfl (by omega) (Nat.le_of_ble_eq_true rfl) ?_
        refine jj_if_ne (tgt := 92) dX7_layRounds_69 (by decide) (fun c69 => ?_) (fun c69 => ?_)
        · refine jj_iinc dX7_layRounds_92 rfl (jb_i k) (by decide) rfl ?_
          refine jj_goto (tgt := 56) dX7_layRounds_95 (by decide) ?_
          exact ih
        · refine jj_aload_n dX7_layRounds_72 rfl ?_
          refine jj_aload_n dX7_layRounds_73 rfl ?_
          refine jj_getf dX7_layRounds_74 fl7_41 rfl rfl ?_
          refine jj_iload_n dX7_layRounds_77 rfl ?_
          refine jj_iconst (v := 1) dX7_layRounds_78 (by decide) ?_
          refine jj_isub dX7_layRounds_79 (jd_sub d hd2 hd1) ?_
          refine jv_iald dX7_layRounds_80 rfl (by omega) (by decide) ?_
          rw [show mo_row (j7_sT s T) (d - 1) = nI (T.1 (d - 1)) from rfl]
          refine jj_callV (M2 := m7_openOf) dX7_layRounds_81 ml7_184 tm7_openOf (ev7_openOf (s := j7_sT s T) (hbT T) (hwT T) hq) rfl rfl rfl rfl rfl (by omega) (Nat.le_of_ble_eq_true rfl) ?_
          refine jj_iload dX7_layRounds_84 rfl ?_
          refine jj_callS (M2 := m7_has) dX7_layRounds_86 ml7_175 tm7_has (ev7_has (a := j7_o wl (T.1 (d - 1))) (by omega) hk3) rfl rfl (by omega) (Nat.le_of_ble_eq_true rfl) ?_
          refine jj_if_ne (tgt := 98) dX7_layRounds_89 (by decide) (fun c89 => ?_) (fun c89 => ?_)
          · exact absurd z (fun zz => zz.elim (fun a => jb_b0 c69 a) (fun b => b (jb_b1 c89)))
          · refine jj_iinc dX7_layRounds_92 rfl (jb_i k) (by decide) rfl ?_
            refine jj_goto (tgt := 56) dX7_layRounds_95 (by decide) ?_
            exact ih
      · rw [show j7_v (j7_o wl) f u (d - 1) k T = f k T from if_neg z] at K
        have z1 : ¬ u.testBit k = true := fun q => z (.inl q)
        have z2 : (j7_o wl (T.1 (d - 1))).testBit k = true := Classical.byContradiction fun q => z (.inr q)
        have ih := ihm (k + 1) (f k T) (by omega) (by omega) (fun j hj => by rw [hf k T j hj]; exact hT j hj) K
        have ih2 := hv k T hk1 hk3 hT (by simpa using z1) ih
        refine jj_iload dX7_layRounds_56 rfl ?_
        refine jj_bipush (v := 12) dX7_layRounds_58 (by decide) ?_
        refine jj_icmp_ge (tgt := 98) dX7_layRounds_60 (by decide) (fun zz => absurd zz (jb_ge hk3 (by decide))) (fun _ => ?_)
        refine jj_iload_n dX7_layRounds_63 rfl ?_
        refine jj_iload dX7_layRounds_64 rfl ?_
        refine jj_callS (M2 := m7_has) dX7_layRounds_66 ml7_175 tm7_has (ev7_has (a := u) (by omega) hk3) rfl rfl (by omega) (Nat.le_of_ble_eq_true rfl) ?_
        refine jj_if_ne (tgt := 92) dX7_layRounds_69 (by decide) (fun zz => absurd (jb_bf z1) zz) (fun _ => ?_)
        refine jj_aload_n dX7_layRounds_72 rfl ?_
        refine jj_aload_n dX7_layRounds_73 rfl ?_
        refine jj_getf dX7_layRounds_74 fl7_41 rfl rfl ?_
        refine jj_iload_n dX7_layRounds_77 rfl ?_
        refine jj_iconst (v := 1) dX7_layRounds_78 (by decide) ?_
        refine jj_isub dX7_layRounds_79 (jd_sub d hd2 hd1) ?_
        refine jv_iald dX7_layRounds_80 rfl (by omega) (by decide) ?_
        rw [show mo_row (j7_sT s T) (d - 1) = nI (T.1 (d - 1)) from rfl]
        refine jj_callV (M2 := m7_openOf) dX7_layRounds_81 ml7_184 tm7_openOf (ev7_openOf (s := j7_sT s T) (hbT T) (hwT T) hq) rfl rfl rfl rfl rfl (by omega) (Nat.le_of_ble_eq_true rfl) ?_
        refine jj_iload dX7_layRounds_84 rfl ?_
        refine jj_callS (M2 := m7_has) dX7_layRounds_86 ml7_175 tm7_has (ev7_has (a := j7_o wl (T.1 (d - 1))) (by omega) hk3) rfl rfl (by omega) (Nat.le_of_ble_eq_true rfl) ?_
        refine jj_if_ne (tgt := 98) dX7_layRounds_89 (by decide) (fun _ => ?_) (fun zz => absurd zz (by rw [jb_bt z2]; decide))
        exact ih2
  have D : ∀ n d u (T : j5_T), d + n = 11 → 1 ≤ d → u < 4096 → T.1 d = 0 → (∀ j, j < d → T.1 j < 12) → jj_Go G m7_layRounds 1 20 [some (.ref 28), some (.int (j7_gr (j7_o wl) n d u T).2.2), some (.int (nI (d - 1))), some (.int (nI u)), none, none] [] (jj_m (j7_sT s (j7_gr (j7_o wl) n d u T))) 0 0 (some (.int E.2.2)) (jj_m (j7_sT s E)) → jj_Go G m7_layRounds 1 20 [some (.ref 28), some (.int T.2.2), some (.int (nI d)), some (.int (nI u)), none, none] [] (jj_m (j7_sT s T)) 0 0 (some (.int E.2.2)) (jj_m (j7_sT s E)) := by
    intro n
    induction n with
    | zero =>
      intro d u T hd hd1 hu hT0 hT K
      obtain rfl : d = 11 := hd
      unfold j7_gr at K
      refine H 11 0 u T (by decide) (by decide) (by decide) hT0 hu (fun q => absurd rfl q) ?_
      refine PV 11 u _ (by decide) (by decide) hu (fun k T j hj => ?_) ?_ 11 1 T rfl (by decide) hT K
      · show (j7_en (j7_o wl) k (jU T.1 11 k, T.2)).1 j = T.1 j
        rw [j7_en_1]
        exact jU_ne _ _ (by omega)
      · intro k T hk1 hk hT hb1 K
        have hok := hol k hk
        have K2 := H 11 k u (j7_en (j7_o wl) k (jU T.1 11 k, T.2)) (by decide) (by decide) hk (by rw [j7_en_1]; exact jU_at T.1 11 k) hu (fun _ => hb1) K
        rw [if_neg (by omega)] at K2
        have h1 : T.1 1 < 12 := hT 1 (by decide)
        have e1 : (jU T.1 11 k) 1 = T.1 1 := jU_ne _ _ (by decide)
        by_cases z1 : T.1 1 < k
        · by_cases z2 : (j7_o wl k).testBit 0 = true
          · have e2 : j7_en (j7_o wl) k (jU T.1 11 k, T.2) = (jU T.1 11 k, (if T.2.2 = 0 then jF (fun j => nI (jU T.1 11 k j)) T.2.1 12 else T.2.1), T.2.2 + 1) := if_pos ⟨by show jU T.1 11 k 1 < k; rw [e1]; exact z1, z2⟩
            rw [e2] at K2
            have C : jj_Go G m7_layRounds 1 163 [some (.ref 28), some (.int T.2.2), some (.int (nI 11)), some (.int (nI (u ||| 2 ^ k))), some (.int (nI k)), none] [] (jj_m (j7_sT s (jU T.1 11 k, T.2))) 0 0 (some (.int E.2.2)) (jj_m (j7_sT s E)) := by
              by_cases z3 : T.2.2 = 0
              · rw [if_pos z3] at K2
                have z4 : T.2.2 + 1 = T.2.2 + 1 := rfl
                have L : ∀ i, i ≤ 12 → jj_Go G m7_layRounds 1 166 [some (.ref 28), some (.int T.2.2), some (.int (nI 11)), some (.int (nI (u ||| 2 ^ k))), some (.int (nI k)), some (.int (nI i))] [] (jj_m (mo_fstS (j7_sT s (jU T.1 11 k, T.2)) (jF (fun j => nI (jU T.1 11 k j)) T.2.1 i))) 0 0 (some (.int E.2.2)) (jj_m (j7_sT s E)) := by
                  refine jj_up 12 (fun i hi ih => ?_) ?_
                  · skip
                    refine jj_iload dX7_layRounds_166 rfl ?_
                    refine jj_bipush (v := 12) dX7_layRounds_168 (by decide) ?_
                    refine jj_icmp_ge (tgt := 197) dX7_layRounds_170 (by decide) (fun zz => absurd zz (jb_ge hi (by decide))) (fun _ => ?_)
                    refine jj_iload_n dX7_layRounds_173 rfl ?_
                    refine jj_if_ne (tgt := 197) dX7_layRounds_174 (by decide) (fun zz => absurd z3 zz) (fun _ => ?_)
                    refine jj_aload_n dX7_layRounds_177 rfl ?_
                    refine jj_getf dX7_layRounds_178 fl7_51 rfl rfl ?_
                    refine jj_iload dX7_layRounds_181 rfl ?_
                    refine jj_aload_n dX7_layRounds_183 rfl ?_
                    refine jj_getf dX7_layRounds_184 fl7_41 rfl rfl ?_
                    refine jj_iload dX7_layRounds_187 rfl ?_
                    refine jv_iald dX7_layRounds_189 rfl (hi) (by decide) ?_
                    refine jv_iast dX7_layRounds_190 rfl (hi) (by decide) rfl ?_
                    refine jj_iinc dX7_layRounds_191 rfl (jb_i i) (by decide) rfl ?_
                    refine jj_goto (tgt := 166) dX7_layRounds_194 (by decide) ?_
                    exact jj_eq rfl rfl rfl (by rw [← jF_s' (f := fun j => nI (jU T.1 11 k j)) rfl]; rfl) ih
                  · skip
                    refine jj_iload dX7_layRounds_166 rfl ?_
                    refine jj_bipush (v := 12) dX7_layRounds_168 (by decide) ?_
                    refine jj_icmp_ge (tgt := 197) dX7_layRounds_170 (by decide) (fun _ => ?_) (fun zz => absurd (jb_ge' (n := 12) (by decide)) zz)
                    refine jj_iinc dX7_layRounds_197 rfl rfl (by decide) rfl ?_
                    refine jj_goto (tgt := 228) dX7_layRounds_200 (by decide) ?_
                    refine jj_goto (tgt := 20) dX7_layRounds_228 (by decide) ?_
                    exact jj_keep [true, true, true, true, false, false] (jj_eq rfl rfl rfl rfl K2)
                refine jj_iconst (v := 0) dX7_layRounds_163 (by decide) ?_
                refine jj_istore dX7_layRounds_164 (by decide) rfl ?_
                exact jj_eq rfl rfl rfl (by rw [jF_0]; rfl) (L 0 (by decide))
              · rw [if_neg z3] at K2
                refine jj_iconst (v := 0) dX7_layRounds_163 (by decide) ?_
                refine jj_istore dX7_layRounds_164 (by decide) rfl ?_
                refine jj_iload dX7_layRounds_166 rfl ?_
                refine jj_bipush (v := 12) dX7_layRounds_168 (by decide) ?_
                refine jj_icmp_ge (tgt := 197) dX7_layRounds_170 (by decide) (fun zz => absurd zz (by decide)) (fun _ => ?_)
                refine jj_iload_n dX7_layRounds_173 rfl ?_
                refine jj_if_ne (tgt := 197) dX7_layRounds_174 (by decide) (fun _ => ?_) (fun zz => absurd zz z3)
                refine jj_iinc dX7_layRounds_197 rfl rfl (by decide) rfl ?_
                refine jj_goto (tgt := 228) dX7_layRounds_200 (by decide) ?_
                refine jj_goto (tgt := 20) dX7_layRounds_228 (by decide) ?_
                exact jj_keep [true, true, true, true, false, false] (jj_eq rfl rfl rfl rfl K2)
            refine jj_iload dX7_layRounds_98 rfl ?_
            refine jj_bipush (v := 12) dX7_layRounds_100 (by decide) ?_
            refine jj_icmp_ne (tgt := 118) dX7_layRounds_102 (by decide) (fun _ => ?_) (fun zz => absurd zz (jd_ne k hk 12 (by decide) (by omega)))
            refine jj_iload_n dX7_layRounds_118 rfl ?_
            refine jj_bipush (v := 11) dX7_layRounds_119 (by decide) ?_
            refine jj_icmp_ne (tgt := 203) dX7_layRounds_121 (by decide) (fun zz => absurd rfl zz) (fun _ => ?_)
            refine jj_aload_n dX7_layRounds_124 rfl ?_
            refine jj_getf dX7_layRounds_125 fl7_41 rfl rfl ?_
            refine jj_iload_n dX7_layRounds_128 rfl ?_
            refine jj_iload dX7_layRounds_129 rfl ?_
            refine jv_iast dX7_layRounds_131 rfl (by decide) (by decide) rfl ?_
            refine jj_eq rfl rfl rfl (j7_rU s T 11 k) ?_
            refine jj_iload_n dX7_layRounds_132 rfl ?_
            refine jj_iconst (v := 1) dX7_layRounds_133 (by decide) ?_
            refine jj_iload dX7_layRounds_134 rfl ?_
            refine jj_ishl dX7_layRounds_136 (jb_2k k (by omega)) ?_
            refine jj_ior dX7_layRounds_137 (fa_or _ _) ?_
            refine jj_istore_n dX7_layRounds_138 rfl (by decide) rfl ?_
            refine jj_aload_n dX7_layRounds_139 rfl ?_
            refine jj_getf dX7_layRounds_140 fl7_41 rfl rfl ?_
            refine jj_iconst (v := 1) dX7_layRounds_143 (by decide) ?_
            refine jv_iald dX7_layRounds_144 rfl (by decide) (by decide) ?_
            rw [show mo_row (j7_sT s (jU T.1 11 k, T.2)) 1 = nI (T.1 1) from congrArg nI e1]
            refine jj_iload dX7_layRounds_145 rfl ?_
            refine jj_icmp_ge (tgt := 228) dX7_layRounds_147 (by decide) (fun zz => absurd zz (nI_ge (a := T.1 1) (b := k) z1 (by omega))) (fun _ => ?_)
            refine jj_aload_n dX7_layRounds_150 rfl ?_
            refine jj_iload dX7_layRounds_151 rfl ?_
            refine jj_callV (M2 := m7_openOf) dX7_layRounds_153 ml7_184 tm7_openOf (ev7_openOf (s := j7_sT s (jU T.1 11 k, T.2)) (hbT _) (hwT _) hk) rfl rfl rfl rfl rfl (by omega) (Nat.le_of_ble_eq_true rfl) ?_
            refine jj_iconst (v := 0) dX7_layRounds_156 (by decide) ?_
            refine jj_callS (M2 := m7_has) dX7_layRounds_157 ml7_175 tm7_has (ev7_has (a := j7_o wl k) (k := 0) (by omega) (by decide)) rfl rfl (by omega) (Nat.le_of_ble_eq_true rfl) ?_
            refine jj_if_eq (tgt := 228) dX7_layRounds_160 (by decide) (fun zz => absurd zz (by rw [jb_bt z2]; decide)) (fun _ => ?_)
            exact C
          · rw [show j7_en (j7_o wl) k (jU T.1 11 k, T.2) = (jU T.1 11 k, T.2) from if_neg (fun q => z2 q.2)] at K2
            refine jj_iload dX7_layRounds_98 rfl ?_
            refine jj_bipush (v := 12) dX7_layRounds_100 (by decide) ?_
            refine jj_icmp_ne (tgt := 118) dX7_layRounds_102 (by decide) (fun _ => ?_) (fun zz => absurd zz (jd_ne k hk 12 (by decide) (by omega)))
            refine jj_iload_n dX7_layRounds_118 rfl ?_
            refine jj_bipush (v := 11) dX7_layRounds_119 (by decide) ?_
            refine jj_icmp_ne (tgt := 203) dX7_layRounds_121 (by decide) (fun zz => absurd rfl zz) (fun _ => ?_)
            refine jj_aload_n dX7_layRounds_124 rfl ?_
            refine jj_getf dX7_layRounds_125 fl7_41 rfl rfl ?_
            refine jj_iload_n dX7_layRounds_128 rfl ?_
            refine jj_iload dX7_layRounds_129 rfl ?_
            refine jv_iast dX7_layRounds_131 rfl (by decide) (by decide) rfl ?_
            refine jj_eq rfl rfl rfl (j7_rU s T 11 k) ?_
            refine jj_iload_n dX7_layRounds_132 rfl ?_
            refine jj_iconst (v := 1) dX7_layRounds_133 (by decide) ?_
            refine jj_iload dX7_layRounds_134 rfl ?_
            refine jj_ishl dX7_layRounds_136 (jb_2k k (by omega)) ?_
            refine jj_ior dX7_layRounds_137 (fa_or _ _) ?_
            refine jj_istore_n dX7_layRounds_138 rfl (by decide) rfl ?_
            refine jj_aload_n dX7_layRounds_139 rfl ?_
            refine jj_getf dX7_layRounds_140 fl7_41 rfl rfl ?_
            refine jj_iconst (v := 1) dX7_layRounds_143 (by decide) ?_
            refine jv_iald dX7_layRounds_144 rfl (by decide) (by decide) ?_
            rw [show mo_row (j7_sT s (jU T.1 11 k, T.2)) 1 = nI (T.1 1) from congrArg nI e1]
            refine jj_iload dX7_layRounds_145 rfl ?_
            refine jj_icmp_ge (tgt := 228) dX7_layRounds_147 (by decide) (fun zz => absurd zz (nI_ge (a := T.1 1) (b := k) z1 (by omega))) (fun _ => ?_)
            refine jj_aload_n dX7_layRounds_150 rfl ?_
            refine jj_iload dX7_layRounds_151 rfl ?_
            refine jj_callV (M2 := m7_openOf) dX7_layRounds_153 ml7_184 tm7_openOf (ev7_openOf (s := j7_sT s (jU T.1 11 k, T.2)) (hbT _) (hwT _) hk) rfl rfl rfl rfl rfl (by omega) (Nat.le_of_ble_eq_true rfl) ?_
            refine jj_iconst (v := 0) dX7_layRounds_156 (by decide) ?_
            refine jj_callS (M2 := m7_has) dX7_layRounds_157 ml7_175 tm7_has (ev7_has (a := j7_o wl k) (k := 0) (by omega) (by decide)) rfl rfl (by omega) (Nat.le_of_ble_eq_true rfl) ?_
            refine jj_if_eq (tgt := 228) dX7_layRounds_160 (by decide) (fun _ => ?_) (fun zz => absurd (jb_bf z2) zz)
            refine jj_goto (tgt := 20) dX7_layRounds_228 (by decide) ?_
            exact jj_keep [true, true, true, true, false, false] (jj_eq rfl rfl rfl rfl K2)
        · rw [show j7_en (j7_o wl) k (jU T.1 11 k, T.2) = (jU T.1 11 k, T.2) from if_neg (fun q => z1 (by have q1 : jU T.1 11 k 1 < k := q.1; rw [e1] at q1; exact q1))] at K2
          refine jj_iload dX7_layRounds_98 rfl ?_
          refine jj_bipush (v := 12) dX7_layRounds_100 (by decide) ?_
          refine jj_icmp_ne (tgt := 118) dX7_layRounds_102 (by decide) (fun _ => ?_) (fun zz => absurd zz (jd_ne k hk 12 (by decide) (by omega)))
          refine jj_iload_n dX7_layRounds_118 rfl ?_
          refine jj_bipush (v := 11) dX7_layRounds_119 (by decide) ?_
          refine jj_icmp_ne (tgt := 203) dX7_layRounds_121 (by decide) (fun zz => absurd rfl zz) (fun _ => ?_)
          refine jj_aload_n dX7_layRounds_124 rfl ?_
          refine jj_getf dX7_layRounds_125 fl7_41 rfl rfl ?_
          refine jj_iload_n dX7_layRounds_128 rfl ?_
          refine jj_iload dX7_layRounds_129 rfl ?_
          refine jv_iast dX7_layRounds_131 rfl (by decide) (by decide) rfl ?_
          refine jj_eq rfl rfl rfl (j7_rU s T 11 k) ?_
          refine jj_iload_n dX7_layRounds_132 rfl ?_
          refine jj_iconst (v := 1) dX7_layRounds_133 (by decide) ?_
          refine jj_iload dX7_layRounds_134 rfl ?_
          refine jj_ishl dX7_layRounds_136 (jb_2k k (by omega)) ?_
          refine jj_ior dX7_layRounds_137 (fa_or _ _) ?_
          refine jj_istore_n dX7_layRounds_138 rfl (by decide) rfl ?_
          refine jj_aload_n dX7_layRounds_139 rfl ?_
          refine jj_getf dX7_layRounds_140 fl7_41 rfl rfl ?_
          refine jj_iconst (v := 1) dX7_layRounds_143 (by decide) ?_
          refine jv_iald dX7_layRounds_144 rfl (by decide) (by decide) ?_
          rw [show mo_row (j7_sT s (jU T.1 11 k, T.2)) 1 = nI (T.1 1) from congrArg nI e1]
          refine jj_iload dX7_layRounds_145 rfl ?_
          refine jj_icmp_ge (tgt := 228) dX7_layRounds_147 (by decide) (fun _ => ?_) (fun zz => absurd (nI_le (a := k) (b := T.1 1) (by omega) (by omega)) zz)
          refine jj_goto (tgt := 20) dX7_layRounds_228 (by decide) ?_
          exact jj_keep [true, true, true, true, false, false] (jj_eq rfl rfl rfl rfl K2)
    | succ n ihn =>
      intro d u T hd hd1 hu hT0 hT K
      have hd2 : d < 12 := by omega
      unfold j7_gr at K
      refine H d 0 u T hd1 hd2 (by decide) hT0 hu (fun q => absurd rfl q) ?_
      refine PV d u _ hd1 hd2 hu (fun k T j hj => ?_) ?_ 11 1 T rfl (by decide) hT K
      · show (j7_gr (j7_o wl) n (d + 1) (u ||| 2 ^ k) (jU (jU T.1 d k) (d + 1) 0, T.2)).1 j = T.1 j
        rw [j7_gr_keep _ n (d + 1) _ _ j (by omega)]
        show jU (jU T.1 d k) (d + 1) 0 j = T.1 j
        rw [jU_ne _ _ (by omega), jU_ne _ _ (by omega)]
      · intro k T hk1 hk hT hb1 K
        have hk4 : (j7_gr (j7_o wl) n (d + 1) (u ||| 2 ^ k) (jU (jU T.1 d k) (d + 1) 0, T.2)).1 d = k := by
          rw [j7_gr_keep _ n (d + 1) _ _ d (by omega)]
          show jU (jU T.1 d k) (d + 1) 0 d = k
          rw [jU_ne _ _ (by omega)]
          exact jU_at _ _ _
        have K2 := H d k u _ hd1 hd2 hk hk4 hu (fun _ => hb1) K
        rw [if_neg (by omega)] at K2
        have K3 := ihn (d + 1) (u ||| 2 ^ k) (jU (jU T.1 d k) (d + 1) 0, T.2) (by omega) (by omega) (jor_lt hu hk) (jU_at (jU T.1 d k) (d + 1) 0) (fun j hj => by
          show jU (jU T.1 d k) (d + 1) 0 j < 12
          rw [jU_ne _ _ (by omega)]
          by_cases e : j = d
          · subst e; rw [jU_at]; exact hk
          · rw [jU_ne _ _ e]; exact hT j (by omega)) K2
        refine jj_iload dX7_layRounds_98 rfl ?_
        refine jj_bipush (v := 12) dX7_layRounds_100 (by decide) ?_
        refine jj_icmp_ne (tgt := 118) dX7_layRounds_102 (by decide) (fun _ => ?_) (fun zz => absurd zz (jd_ne k hk 12 (by decide) (by omega)))
        refine jj_iload_n dX7_layRounds_118 rfl ?_
        refine jj_bipush (v := 11) dX7_layRounds_119 (by decide) ?_
        refine jj_icmp_ne (tgt := 203) dX7_layRounds_121 (by decide) (fun _ => ?_) (fun zz => absurd zz (jd_ne d hd2 11 (by decide) (by omega)))
        refine jj_aload_n dX7_layRounds_203 rfl ?_
        refine jj_getf dX7_layRounds_204 fl7_41 rfl rfl ?_
        refine jj_iload_n dX7_layRounds_207 rfl ?_
        refine jj_iload dX7_layRounds_208 rfl ?_
        refine jv_iast dX7_layRounds_210 rfl (hd2) (by decide) rfl ?_
        refine jj_eq rfl rfl rfl (j7_rU s T d k) ?_
        refine jj_iload_n dX7_layRounds_211 rfl ?_
        refine jj_iconst (v := 1) dX7_layRounds_212 (by decide) ?_
        refine jj_iload dX7_layRounds_213 rfl ?_
        refine jj_ishl dX7_layRounds_215 (jb_2k k (by omega)) ?_
        refine jj_ior dX7_layRounds_216 (fa_or _ _) ?_
        refine jj_istore_n dX7_layRounds_217 rfl (by decide) rfl ?_
        refine jj_iinc dX7_layRounds_218 rfl (jb_i d) (by decide) rfl ?_
        refine jj_aload_n dX7_layRounds_221 rfl ?_
        refine jj_getf dX7_layRounds_222 fl7_41 rfl rfl ?_
        refine jj_iload_n dX7_layRounds_225 rfl ?_
        refine jj_iconst (v := 0) dX7_layRounds_226 (by decide) ?_
        refine jv_iast dX7_layRounds_227 rfl (by omega) (by decide) rfl ?_
        refine jj_eq rfl rfl rfl (j7_rU s (jU T.1 d k, T.2) (d + 1) 0) ?_
        refine jj_goto (tgt := 20) dX7_layRounds_228 (by decide) ?_
        exact jj_keep [true, true, true, true, false, false] K3
  have hz : jj_m s = jj_m (j7_sT s (r0, mo_fst s, 0)) := by
    unfold j7_sT
    rw [show (fun j => nI (((r0, mo_fst s, 0) : j5_T).1 j)) = mo_row s from hr.symm]
    rfl
  have KF : jj_Go G m7_layRounds 1 20 [some (.ref 28), some (.int E.2.2), some (.int (nI 0)), some (.int (nI 1)), none, none] [] (jj_m (j7_sT s E)) 0 0 (some (.int E.2.2)) (jj_m (j7_sT s E)) := by
    refine jj_iload_n dX7_layRounds_20 rfl ?_
    refine jj_if_le (tgt := 231) dX7_layRounds_21 (by decide) (fun _ => ?_) (fun zz => absurd (by decide) zz)
    refine jj_iload_n dX7_layRounds_231 rfl ?_
    exact jj_leaf dX7_layRounds_232 rfl rfl
  have KD := D 10 1 1 (jU (jU r0 0 0) 1 0, mo_fst s, 0) rfl (by decide) (by decide) (jU_at (jU r0 0 0) 1 0) (fun j hj => by
    obtain rfl : j = 0 := by omega
    show jU (jU r0 0 0) 1 0 0 < 12
    rw [jU_ne _ _ (by decide), jU_at]
    decide) (by rw [hE]; exact KF)
  rw [hz]
  refine jj_iconst (v := 0) dX7_layRounds_0 (by decide) ?_
  refine jj_istore_n dX7_layRounds_1 rfl (by decide) rfl ?_
  refine jj_iconst (v := 1) dX7_layRounds_2 (by decide) ?_
  refine jj_istore_n dX7_layRounds_3 rfl (by decide) rfl ?_
  refine jj_iconst (v := 1) dX7_layRounds_4 (by decide) ?_
  refine jj_istore_n dX7_layRounds_5 rfl (by decide) rfl ?_
  refine jj_aload_n dX7_layRounds_6 rfl ?_
  refine jj_getf dX7_layRounds_7 fl7_41 rfl rfl ?_
  refine jj_iconst (v := nI 0) dX7_layRounds_10 (by decide) ?_
  refine jj_iconst (v := 0) dX7_layRounds_11 (by decide) ?_
  refine jv_iast dX7_layRounds_12 rfl (by decide) (by decide) rfl ?_
  refine jj_eq rfl rfl rfl (j7_rU s (r0, mo_fst s, 0) 0 0) ?_
  refine jj_aload_n dX7_layRounds_13 rfl ?_
  refine jj_getf dX7_layRounds_14 fl7_41 rfl rfl ?_
  refine jj_iconst (v := nI 1) dX7_layRounds_17 (by decide) ?_
  refine jj_iconst (v := 0) dX7_layRounds_18 (by decide) ?_
  refine jv_iast dX7_layRounds_19 rfl (by decide) (by decide) rfl ?_
  refine jj_eq rfl rfl rfl (j7_rU s (jU r0 0 0, mo_fst s, 0) 1 0) ?_
  exact KD
