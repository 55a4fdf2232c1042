/-! THE MODEL'S TEXT: tokens. Position, the token's place, the token, digits, number, the fault's place, what is read -/
abbrev jx_X : Type := Nat × Nat × Int64 × Int32 × Int32 × Int32 × (Nat → Int32)
def jx (s : jj_S) (L : Nat) (X : jx_X) : jj_S := mo_readS (mo_faS (mo_numS (mo_digS (mo_tokS (mo_tatS (mo_posS (mo_byS s (nI L)) (nI X.1)) (nI X.2.1)) X.2.2.1) X.2.2.2.1) X.2.2.2.2.1) X.2.2.2.2.2.1) X.2.2.2.2.2.2
def jw (sg : Nat → Int32) (q : Nat) : Nat → Int64
  | 0 => 0
  | n + 1 => if n < 9 then 27 * jw sg q n + (sg (q + n)).toInt64 - 96 else -4
def jn2 (sg : Nat → Int32) (q : Nat) : Nat → Int32
  | 0 => 0
  | n + 1 => if n < 2 then 10 * jn2 sg q n + sg (q + n) - 48 else jn2 sg q n
def jx_T (sg : Nat → Int32) (L q e : Nat) : Int64 := if q = L then -2 else if tk_so (sg q) = 0 then (if 9 < e - q then -4 else jw sg q (e - q)) else if tk_so (sg q) = 1 then (if 2 < e - q then -4 else -1) else if sg q = 59 then -3 else -4
def jx_D (sg : Nat → Int32) (L q e : Nat) : Int32 := if q = L then 0 else if tk_so (sg q) = 1 then nI (e - q) else 0
def jx_N (sg : Nat → Int32) (L q e : Nat) : Int32 := if q = L then 0 else if tk_so (sg q) = 1 then jn2 sg q (e - q) else 0
/-- behind the next token -/
def jx_n (sg : Nat → Int32) (L : Nat) (X : jx_X) : jx_X := ((tk_t sg L X.1).2, (tk_t sg L X.1).1, jx_T sg L (tk_t sg L X.1).1 (tk_t sg L X.1).2, jx_D sg L (tk_t sg L X.1).1 (tk_t sg L X.1).2, jx_N sg L (tk_t sg L X.1).1 (tk_t sg L X.1).2, X.2.2.2.2.2)
theorem jx_so {x : Int32} : tk_so x = 0 ↔ (97 ≤ x ∧ x ≤ 122) := by
  unfold tk_so
  constructor
  · intro h
    split at h
    · split at h <;> exact absurd h (by decide)
    · next q => exact ⟨Int32.not_lt.mp fun z => q (.inl z), Int32.not_lt.mp fun z => q (.inr z)⟩
  · intro h
    exact if_neg (fun q => q.elim (fun z => absurd h.1 (Int32.not_le.mpr z)) (fun z => absurd h.2 (Int32.not_le.mpr z)))
theorem jx_so1 {x : Int32} : tk_so x = 1 ↔ (48 ≤ x ∧ x ≤ 57) := by
  constructor
  · intro h
    unfold tk_so at h
    split at h
    · split at h
      · exact absurd h (by decide)
      · next q => exact ⟨Int32.not_lt.mp fun z => q (.inl z), Int32.not_lt.mp fun z => q (.inr z)⟩
    · exact absurd h (by decide)
  · intro h
    unfold tk_so
    rw [if_pos, if_neg]
    · exact fun q => q.elim (fun z => absurd h.1 (Int32.not_le.mpr z)) (fun z => absurd h.2 (Int32.not_le.mpr z))
    · exact .inl (Int32.lt_of_le_of_lt h.2 (by decide))
theorem jx_so2 {x : Int32} (h0 : ¬ tk_so x = 0) (h1 : ¬ tk_so x = 1) : tk_so x = 2 := by
  unfold tk_so at h0 h1 ⊢
  split
  · next h =>
    rw [if_pos h] at h0 h1
    split
    · rfl
    · next q => rw [if_neg q] at h1; exact absurd rfl h1
  · next h => rw [if_neg h] at h0; exact absurd rfl h0
theorem jx_is (v l u : Int32) (h : l ≤ v ∧ v ≤ u) : jb_b (l ≤ v ∧ v ≤ u) = 1 := jb_bt h
set_option maxRecDepth 100000 in
set_option maxHeartbeats 1500000 in
theorem ev7_nextToken {G : jj_G} {s : jj_S} {L : Nat} {X : jx_X} (hL : L ≤ 200) (hp : X.1 ≤ L) : jj_Ev G m7_nextToken 1 [.ref 28] (jj_m (jx s L X)) 0 0 (none) (jj_m (jx s L (jx_n (mo_text s) L X))) := by
  refine jj_Ev_of (lo := [some (.ref 28)]) (by decide +kernel) (Nat.le_of_ble_eq_true rfl) rfl (by trivial) ?_
  obtain ⟨p, a, tk, dg, nm, fa, rd⟩ := X
  replace hp : p ≤ L := hp
  have J3 : ∀ q e, q < L → q ≤ e → e ≤ L → tk_so (mo_text s q) = 0 → jj_Go G m7_nextToken 1 191 [some (.ref 28)] [] (jj_m (jx s L (e, q, jw (mo_text s) q (e - q), 0, 0, fa, rd))) 0 0 (none) (jj_m (jx s L (e, q, jx_T (mo_text s) L q e, jx_D (mo_text s) L q e, jx_N (mo_text s) L q e, fa, rd))) := by
    intro q e hq hqe he hq0
    have eT : jx_T (mo_text s) L q e = if 9 < e - q then -4 else jw (mo_text s) q (e - q) := by unfold jx_T; rw [if_neg (by omega), if_pos hq0]
    have eD : jx_D (mo_text s) L q e = 0 := by unfold jx_D; rw [if_neg (by omega), if_neg (by rw [hq0]; decide)]
    have eN : jx_N (mo_text s) L q e = 0 := by unfold jx_N; rw [if_neg (by omega), if_neg (by rw [hq0]; decide)]
    rw [eT, eD, eN]
    by_cases z9 : 9 < e - q
    · rw [if_pos z9]
      refine jj_aload_n dX7_nextToken_191 rfl ?_
      refine jj_aload_n dX7_nextToken_192 rfl ?_
      refine jj_getf dX7_nextToken_193 fl7_75 rfl rfl ?_
      refine jj_aload_n dX7_nextToken_196 rfl ?_
      refine jj_getf dX7_nextToken_197 fl7_78 rfl rfl ?_
      refine jj_eq (st' := [.int (nI q), .int (nI e), .ref 28]) rfl rfl rfl rfl ?_
      refine jj_isub dX7_nextToken_200 (pk_sub (a := e) (b := q) hqe) ?_
      refine jj_bipush (v := 9) dX7_nextToken_201 (by decide) ?_
      refine jj_icmp_le (tgt := 212) dX7_nextToken_203 (by decide) (fun zz => absurd zz (Int32.not_le.mpr (nI_lt (a := 9) (b := e - q) z9 (by omega)))) (fun _ => ?_)
      refine jj_ldc2 dX7_nextToken_206 kc7_97 ?_
      refine jj_goto (tgt := 216) dX7_nextToken_209 (by decide) ?_
      refine jj_putf dX7_nextToken_216 (fw7_89 _) rfl (Nat.le_of_ble_eq_true rfl) rfl rfl rfl ?_
      refine jj_goto (tgt := 394) dX7_nextToken_219 (by decide) ?_
      exact jj_leaf dX7_nextToken_394 rfl rfl
    · rw [if_neg z9]
      refine jj_aload_n dX7_nextToken_191 rfl ?_
      refine jj_aload_n dX7_nextToken_192 rfl ?_
      refine jj_getf dX7_nextToken_193 fl7_75 rfl rfl ?_
      refine jj_aload_n dX7_nextToken_196 rfl ?_
      refine jj_getf dX7_nextToken_197 fl7_78 rfl rfl ?_
      refine jj_eq (st' := [.int (nI q), .int (nI e), .ref 28]) rfl rfl rfl rfl ?_
      refine jj_isub dX7_nextToken_200 (pk_sub (a := e) (b := q) hqe) ?_
      refine jj_bipush (v := 9) dX7_nextToken_201 (by decide) ?_
      refine jj_icmp_le (tgt := 212) dX7_nextToken_203 (by decide) (fun _ => ?_) (fun zz => absurd (nI_le (a := e - q) (b := 9) (by omega) (by decide)) zz)
      refine jj_aload_n dX7_nextToken_212 rfl ?_
      refine jj_getf dX7_nextToken_213 fl7_89 rfl rfl ?_
      refine jj_putf dX7_nextToken_216 (fw7_89 _) rfl (Nat.le_of_ble_eq_true rfl) rfl rfl rfl ?_
      refine jj_goto (tgt := 394) dX7_nextToken_219 (by decide) ?_
      exact jj_leaf dX7_nextToken_394 rfl rfl
  have J2 : ∀ q, q < L → tk_so (mo_text s q) = 0 → ∀ k, k ≤ L → q ≤ k → jj_Go G m7_nextToken 1 101 [some (.ref 28)] [] (jj_m (jx s L (k, q, jw (mo_text s) q (k - q), 0, 0, fa, rd))) 0 0 (none) (jj_m (jx s L ((jb_fst (fun i => tk_so (mo_text s i) != tk_so (mo_text s q)) k (L - k)), q, jx_T (mo_text s) L q (jb_fst (fun i => tk_so (mo_text s i) != tk_so (mo_text s q)) k (L - k)), jx_D (mo_text s) L q (jb_fst (fun i => tk_so (mo_text s i) != tk_so (mo_text s q)) k (L - k)), jx_N (mo_text s) L q (jb_fst (fun i => tk_so (mo_text s i) != tk_so (mo_text s q)) k (L - k)), fa, rd))) := by
    intro q hq hq0
    refine jj_up L (fun k hk ih => ?_) ?_
    · intro hqk
      have ih := ih (by omega)
      have ek : k + 1 - q = (k - q) + 1 := by omega
      have ek2 : q + (k - q) = k := by omega
      rw [ek, jw, ek2] at ih
      by_cases z : 97 ≤ mo_text s k ∧ mo_text s k ≤ 122
      · rw [jb_fst_no (p := fun i => tk_so (mo_text s i) != tk_so (mo_text s q)) (by rw [jx_so.mpr z, hq0]; rfl) hk]
        by_cases z9 : k - q < 9
        · rw [if_pos z9] at ih
          refine jj_aload_n dX7_nextToken_101 rfl ?_
          refine jj_getf dX7_nextToken_102 fl7_75 rfl rfl ?_
          refine jj_aload_n dX7_nextToken_105 rfl ?_
          refine jj_getf dX7_nextToken_106 fl7_69 rfl rfl ?_
          refine jj_icmp_ge (tgt := 191) dX7_nextToken_109 (by decide) (fun zz => absurd zz (nI_ge (a := k) (b := L) (by omega) (by omega))) (fun _ => ?_)
          refine jj_aload_n dX7_nextToken_112 rfl ?_
          refine jj_getf dX7_nextToken_113 fl7_23 rfl rfl ?_
          refine jj_aload_n dX7_nextToken_116 rfl ?_
          refine jj_getf dX7_nextToken_117 fl7_75 rfl rfl ?_
          refine jj_eq (st' := [.int (nI k), .ref 33]) rfl rfl rfl rfl ?_
          refine jv_iald (k := k) dX7_nextToken_120 rfl (by omega) (by decide) ?_
          refine jj_bipush (v := 97) dX7_nextToken_121 (by decide) ?_
          refine jj_bipush (v := 122) dX7_nextToken_123 (by decide) ?_
          refine jj_callS (M2 := m7_in) dX7_nextToken_125 ml7_65 tm7_in (ev7_in (mo_text s k) 97 122) rfl rfl (by omega) (Nat.le_of_ble_eq_true rfl) ?_
          refine jj_if_eq (tgt := 191) dX7_nextToken_128 (by decide) (fun zz => absurd zz (by rw [jb_bt z]; decide)) (fun _ => ?_)
          refine jj_aload_n dX7_nextToken_131 rfl ?_
          refine jj_aload_n dX7_nextToken_132 rfl ?_
          refine jj_getf dX7_nextToken_133 fl7_75 rfl rfl ?_
          refine jj_aload_n dX7_nextToken_136 rfl ?_
          refine jj_getf dX7_nextToken_137 fl7_78 rfl rfl ?_
          refine jj_eq (st' := [.int (nI q), .int (nI k), .ref 28]) rfl rfl rfl rfl ?_
          refine jj_isub dX7_nextToken_140 (pk_sub (a := k) (b := q) hqk) ?_
          refine jj_bipush (v := 9) dX7_nextToken_141 (by decide) ?_
          refine jj_icmp_ge (tgt := 172) dX7_nextToken_143 (by decide) (fun zz => absurd zz (nI_ge (a := k - q) (b := 9) z9 (by decide))) (fun _ => ?_)
          refine jj_ldc2 dX7_nextToken_146 kc7_93 ?_
          refine jj_aload_n dX7_nextToken_149 rfl ?_
          refine jj_getf dX7_nextToken_150 fl7_89 rfl rfl ?_
          refine jj_lmul dX7_nextToken_153 rfl ?_
          refine jj_aload_n dX7_nextToken_154 rfl ?_
          refine jj_getf dX7_nextToken_155 fl7_23 rfl rfl ?_
          refine jj_aload_n dX7_nextToken_158 rfl ?_
          refine jj_getf dX7_nextToken_159 fl7_75 rfl rfl ?_
          refine jj_eq (st' := [.int (nI k), .ref 33, .long (27 * jw (mo_text s) q (k - q)), .ref 28]) rfl rfl rfl rfl ?_
          refine jv_iald (k := k) dX7_nextToken_162 rfl (by omega) (by decide) ?_
          refine jj_i2l dX7_nextToken_163 rfl ?_
          refine jj_ladd dX7_nextToken_164 rfl ?_
          refine jj_ldc2 dX7_nextToken_165 kc7_95 ?_
          refine jj_lsub dX7_nextToken_168 rfl ?_
          refine jj_goto (tgt := 175) dX7_nextToken_169 (by decide) ?_
          refine jj_putf dX7_nextToken_175 (fw7_89 _) rfl (Nat.le_of_ble_eq_true rfl) rfl rfl rfl ?_
          refine jj_aload_n dX7_nextToken_178 rfl ?_
          refine jj_dup dX7_nextToken_179 rfl ?_
          refine jj_getf dX7_nextToken_180 fl7_75 rfl rfl ?_
          refine jj_iconst (v := 1) dX7_nextToken_183 (by decide) ?_
          refine jj_eq (st' := [.int 1, .int (nI k), .ref 28]) rfl rfl rfl rfl ?_
          refine jj_iadd (v := nI (k + 1)) dX7_nextToken_184 (nI_add k 1) ?_
          refine jj_putf dX7_nextToken_185 (fw7_75 _) rfl (Nat.le_of_ble_eq_true rfl) rfl rfl rfl ?_
          refine jj_goto (tgt := 101) dX7_nextToken_188 (by decide) ?_
          exact jj_eq rfl rfl rfl rfl ih
        · rw [if_neg z9] at ih
          refine jj_aload_n dX7_nextToken_101 rfl ?_
          refine jj_getf dX7_nextToken_102 fl7_75 rfl rfl ?_
          refine jj_aload_n dX7_nextToken_105 rfl ?_
          refine jj_getf dX7_nextToken_106 fl7_69 rfl rfl ?_
          refine jj_icmp_ge (tgt := 191) dX7_nextToken_109 (by decide) (fun zz => absurd zz (nI_ge (a := k) (b := L) (by omega) (by omega))) (fun _ => ?_)
          refine jj_aload_n dX7_nextToken_112 rfl ?_
          refine jj_getf dX7_nextToken_113 fl7_23 rfl rfl ?_
          refine jj_aload_n dX7_nextToken_116 rfl ?_
          refine jj_getf dX7_nextToken_117 fl7_75 rfl rfl ?_
          refine jj_eq (st' := [.int (nI k), .ref 33]) rfl rfl rfl rfl ?_
          refine jv_iald (k := k) dX7_nextToken_120 rfl (by omega) (by decide) ?_
          refine jj_bipush (v := 97) dX7_nextToken_121 (by decide) ?_
          refine jj_bipush (v := 122) dX7_nextToken_123 (by decide) ?_
          refine jj_callS (M2 := m7_in) dX7_nextToken_125 ml7_65 tm7_in (ev7_in (mo_text s k) 97 122) rfl rfl (by omega) (Nat.le_of_ble_eq_true rfl) ?_
          refine jj_if_eq (tgt := 191) dX7_nextToken_128 (by decide) (fun zz => absurd zz (by rw [jb_bt z]; decide)) (fun _ => ?_)
          refine jj_aload_n dX7_nextToken_131 rfl ?_
          refine jj_aload_n dX7_nextToken_132 rfl ?_
          refine jj_getf dX7_nextToken_133 fl7_75 rfl rfl ?_
          refine jj_aload_n dX7_nextToken_136 rfl ?_
          refine jj_getf dX7_nextToken_137 fl7_78 rfl rfl ?_
          refine jj_eq (st' := [.int (nI q), .int (nI k), .ref 28]) rfl rfl rfl rfl ?_
          refine jj_isub dX7_nextToken_140 (pk_sub (a := k) (b := q) hqk) ?_
          refine jj_bipush (v := 9) dX7_nextToken_141 (by decide) ?_
          refine jj_icmp_ge (tgt := 172) dX7_nextToken_143 (by decide) (fun _ => ?_) (fun zz => absurd (nI_le (a := 9) (b := k - q) (by omega) (by omega)) zz)
          refine jj_ldc2 dX7_nextToken_172 kc7_97 ?_
          refine jj_putf dX7_nextToken_175 (fw7_89 _) rfl (Nat.le_of_ble_eq_true rfl) rfl rfl rfl ?_
          refine jj_aload_n dX7_nextToken_178 rfl ?_
          refine jj_dup dX7_nextToken_179 rfl ?_
          refine jj_getf dX7_nextToken_180 fl7_75 rfl rfl ?_
          refine jj_iconst (v := 1) dX7_nextToken_183 (by decide) ?_
          refine jj_eq (st' := [.int 1, .int (nI k), .ref 28]) rfl rfl rfl rfl ?_
          refine jj_iadd (v := nI (k + 1)) dX7_nextToken_184 (nI_add k 1) ?_
          refine jj_putf dX7_nextToken_185 (fw7_75 _) rfl (Nat.le_of_ble_eq_true rfl) rfl rfl rfl ?_
          refine jj_goto (tgt := 101) dX7_nextToken_188 (by decide) ?_
          exact jj_eq rfl rfl rfl rfl ih
      · rw [jb_fst_yes (p := fun i => tk_so (mo_text s i) != tk_so (mo_text s q)) (by rw [hq0]; simpa using (fun y => z (jx_so.mp y))) hk]
        refine jj_aload_n dX7_nextToken_101 rfl ?_
        refine jj_getf dX7_nextToken_102 fl7_75 rfl rfl ?_
        refine jj_aload_n dX7_nextToken_105 rfl ?_
        refine jj_getf dX7_nextToken_106 fl7_69 rfl rfl ?_
        refine jj_icmp_ge (tgt := 191) dX7_nextToken_109 (by decide) (fun zz => absurd zz (nI_ge (a := k) (b := L) (by omega) (by omega))) (fun _ => ?_)
        refine jj_aload_n dX7_nextToken_112 rfl ?_
        refine jj_getf dX7_nextToken_113 fl7_23 rfl rfl ?_
        refine jj_aload_n dX7_nextToken_116 rfl ?_
        refine jj_getf dX7_nextToken_117 fl7_75 rfl rfl ?_
        refine jj_eq (st' := [.int (nI k), .ref 33]) rfl rfl rfl rfl ?_
        refine jv_iald (k := k) dX7_nextToken_120 rfl (by omega) (by decide) ?_
        refine jj_bipush (v := 97) dX7_nextToken_121 (by decide) ?_
        refine jj_bipush (v := 122) dX7_nextToken_123 (by decide) ?_
        refine jj_callS (M2 := m7_in) dX7_nextToken_125 ml7_65 tm7_in (ev7_in (mo_text s k) 97 122) rfl rfl (by omega) (Nat.le_of_ble_eq_true rfl) ?_
        refine jj_if_eq (tgt := 191) dX7_nextToken_128 (by decide) (fun _ => ?_) (fun zz => absurd (jb_bf z) zz)
        exact J3 q k hq hqk (by omega) hq0
    · intro hqk
      rw [jb_fst_end]
      refine jj_aload_n dX7_nextToken_101 rfl ?_
      refine jj_getf dX7_nextToken_102 fl7_75 rfl rfl ?_
      refine jj_aload_n dX7_nextToken_105 rfl ?_
      refine jj_getf dX7_nextToken_106 fl7_69 rfl rfl ?_
      refine jj_icmp_ge (tgt := 191) dX7_nextToken_109 (by decide) (fun _ => ?_) (fun zz => absurd (nI_le (a := L) (b := L) (by omega) (by omega)) zz)
      exact J3 q L hq hqk (Nat.le_refl L) hq0
  have D3 : ∀ q e, q < L → q ≤ e → e ≤ L → tk_so (mo_text s q) = 1 → jj_Go G m7_nextToken 1 333 [some (.ref 28)] [] (jj_m (jx s L (e, q, tk, nI (e - q), jn2 (mo_text s) q (e - q), fa, rd))) 0 0 (none) (jj_m (jx s L (e, q, jx_T (mo_text s) L q e, jx_D (mo_text s) L q e, jx_N (mo_text s) L q e, fa, rd))) := by
    intro q e hq hqe he hq0
    have eT : jx_T (mo_text s) L q e = if 2 < e - q then -4 else -1 := by unfold jx_T; rw [if_neg (by omega), if_neg (by rw [hq0]; decide), if_pos hq0]
    have eD : jx_D (mo_text s) L q e = nI (e - q) := by unfold jx_D; rw [if_neg (by omega), if_pos hq0]
    have eN : jx_N (mo_text s) L q e = jn2 (mo_text s) q (e - q) := by unfold jx_N; rw [if_neg (by omega), if_pos hq0]
    rw [eT, eD, eN]
    by_cases z9 : 2 < e - q
    · rw [if_pos z9]
      refine jj_aload_n dX7_nextToken_333 rfl ?_
      refine jj_aload_n dX7_nextToken_334 rfl ?_
      refine jj_getf dX7_nextToken_335 fl7_81 rfl rfl ?_
      refine jj_iconst (v := 2) dX7_nextToken_338 (by decide) ?_
      refine jj_icmp_le (tgt := 348) dX7_nextToken_339 (by decide) (fun zz => absurd zz (Int32.not_le.mpr (nI_lt (a := 2) (b := e - q) z9 (by omega)))) (fun _ => ?_)
      refine jj_ldc2 dX7_nextToken_342 kc7_97 ?_
      refine jj_goto (tgt := 351) dX7_nextToken_345 (by decide) ?_
      refine jj_putf dX7_nextToken_351 (fw7_89 _) rfl (Nat.le_of_ble_eq_true rfl) rfl rfl rfl ?_
      refine jj_goto (tgt := 394) dX7_nextToken_354 (by decide) ?_
      exact jj_leaf dX7_nextToken_394 rfl rfl
    · rw [if_neg z9]
      refine jj_aload_n dX7_nextToken_333 rfl ?_
      refine jj_aload_n dX7_nextToken_334 rfl ?_
      refine jj_getf dX7_nextToken_335 fl7_81 rfl rfl ?_
      refine jj_iconst (v := 2) dX7_nextToken_338 (by decide) ?_
      refine jj_icmp_le (tgt := 348) dX7_nextToken_339 (by decide) (fun _ => ?_) (fun zz => absurd (nI_le (a := e - q) (b := 2) (by omega) (by decide)) zz)
      refine jj_ldc2 dX7_nextToken_348 kc7_99 ?_
      refine jj_putf dX7_nextToken_351 (fw7_89 _) rfl (Nat.le_of_ble_eq_true rfl) rfl rfl rfl ?_
      refine jj_goto (tgt := 394) dX7_nextToken_354 (by decide) ?_
      exact jj_leaf dX7_nextToken_394 rfl rfl
  have D2 : ∀ q, q < L → tk_so (mo_text s q) = 1 → ∀ k, k ≤ L → q ≤ k → jj_Go G m7_nextToken 1 241 [some (.ref 28)] [] (jj_m (jx s L (k, q, tk, nI (k - q), jn2 (mo_text s) q (k - q), fa, rd))) 0 0 (none) (jj_m (jx s L ((jb_fst (fun i => tk_so (mo_text s i) != tk_so (mo_text s q)) k (L - k)), q, jx_T (mo_text s) L q (jb_fst (fun i => tk_so (mo_text s i) != tk_so (mo_text s q)) k (L - k)), jx_D (mo_text s) L q (jb_fst (fun i => tk_so (mo_text s i) != tk_so (mo_text s q)) k (L - k)), jx_N (mo_text s) L q (jb_fst (fun i => tk_so (mo_text s i) != tk_so (mo_text s q)) k (L - k)), fa, rd))) := by
    intro q hq hq0
    refine jj_up L (fun k hk ih => ?_) ?_
    · intro hqk
      have ih := ih (by omega)
      have ek : k + 1 - q = (k - q) + 1 := by omega
      have ek2 : q + (k - q) = k := by omega
      rw [ek, jn2, ek2] at ih
      by_cases z : 48 ≤ mo_text s k ∧ mo_text s k ≤ 57
      · rw [jb_fst_no (p := fun i => tk_so (mo_text s i) != tk_so (mo_text s q)) (by rw [jx_so1.mpr z, hq0]; rfl) hk]
        by_cases z9 : k - q < 2
        · rw [if_pos z9] at ih
          refine jj_aload_n dX7_nextToken_241 rfl ?_
          refine jj_getf dX7_nextToken_242 fl7_75 rfl rfl ?_
          refine jj_aload_n dX7_nextToken_245 rfl ?_
          refine jj_getf dX7_nextToken_246 fl7_69 rfl rfl ?_
          refine jj_icmp_ge (tgt := 333) dX7_nextToken_249 (by decide) (fun zz => absurd zz (nI_ge (a := k) (b := L) (by omega) (by omega))) (fun _ => ?_)
          refine jj_aload_n dX7_nextToken_252 rfl ?_
          refine jj_getf dX7_nextToken_253 fl7_23 rfl rfl ?_
          refine jj_aload_n dX7_nextToken_256 rfl ?_
          refine jj_getf dX7_nextToken_257 fl7_75 rfl rfl ?_
          refine jj_eq (st' := [.int (nI k), .ref 33]) rfl rfl rfl rfl ?_
          refine jv_iald (k := k) dX7_nextToken_260 rfl (by omega) (by decide) ?_
          refine jj_bipush (v := 48) dX7_nextToken_261 (by decide) ?_
          refine jj_bipush (v := 57) dX7_nextToken_263 (by decide) ?_
          refine jj_callS (M2 := m7_in) dX7_nextToken_265 ml7_65 tm7_in (ev7_in (mo_text s k) 48 57) rfl rfl (by omega) (Nat.le_of_ble_eq_true rfl) ?_
          refine jj_if_eq (tgt := 333) dX7_nextToken_268 (by decide) (fun zz => absurd zz (by rw [jb_bt z]; decide)) (fun _ => ?_)
          refine jj_aload_n dX7_nextToken_271 rfl ?_
          refine jj_aload_n dX7_nextToken_272 rfl ?_
          refine jj_getf dX7_nextToken_273 fl7_81 rfl rfl ?_
          refine jj_iconst (v := 2) dX7_nextToken_276 (by decide) ?_
          refine jj_icmp_ge (tgt := 303) dX7_nextToken_277 (by decide) (fun zz => absurd zz (nI_ge (a := k - q) (b := 2) z9 (by decide))) (fun _ => ?_)
          refine jj_bipush (v := 10) dX7_nextToken_280 (by decide) ?_
          refine jj_aload_n dX7_nextToken_282 rfl ?_
          refine jj_getf dX7_nextToken_283 fl7_84 rfl rfl ?_
          refine jj_imul dX7_nextToken_286 rfl ?_
          refine jj_aload_n dX7_nextToken_287 rfl ?_
          refine jj_getf dX7_nextToken_288 fl7_23 rfl rfl ?_
          refine jj_aload_n dX7_nextToken_291 rfl ?_
          refine jj_getf dX7_nextToken_292 fl7_75 rfl rfl ?_
          refine jj_eq (st' := [.int (nI k), .ref 33, .int (10 * jn2 (mo_text s) q (k - q)), .ref 28]) rfl rfl rfl rfl ?_
          refine jv_iald (k := k) dX7_nextToken_295 rfl (by omega) (by decide) ?_
          refine jj_iadd dX7_nextToken_296 rfl ?_
          refine jj_bipush (v := 48) dX7_nextToken_297 (by decide) ?_
          refine jj_isub dX7_nextToken_299 rfl ?_
          refine jj_goto (tgt := 307) dX7_nextToken_300 (by decide) ?_
          refine jj_putf dX7_nextToken_307 (fw7_84 _) rfl (Nat.le_of_ble_eq_true rfl) rfl rfl rfl ?_
          refine jj_aload_n dX7_nextToken_310 rfl ?_
          refine jj_dup dX7_nextToken_311 rfl ?_
          refine jj_getf dX7_nextToken_312 fl7_81 rfl rfl ?_
          refine jj_iconst (v := 1) dX7_nextToken_315 (by decide) ?_
          refine jj_eq (st' := [.int 1, .int (nI (k - q)), .ref 28]) rfl rfl rfl rfl ?_
          refine jj_iadd (v := nI (k - q + 1)) dX7_nextToken_316 (nI_add (k - q) 1) ?_
          refine jj_putf dX7_nextToken_317 (fw7_81 _) rfl (Nat.le_of_ble_eq_true rfl) rfl rfl rfl ?_
          refine jj_aload_n dX7_nextToken_320 rfl ?_
          refine jj_dup dX7_nextToken_321 rfl ?_
          refine jj_getf dX7_nextToken_322 fl7_75 rfl rfl ?_
          refine jj_iconst (v := 1) dX7_nextToken_325 (by decide) ?_
          refine jj_eq (st' := [.int 1, .int (nI k), .ref 28]) rfl rfl rfl rfl ?_
          refine jj_iadd (v := nI (k + 1)) dX7_nextToken_326 (nI_add k 1) ?_
          refine jj_putf dX7_nextToken_327 (fw7_75 _) rfl (Nat.le_of_ble_eq_true rfl) rfl rfl rfl ?_
          refine jj_goto (tgt := 241) dX7_nextToken_330 (by decide) ?_
          exact jj_eq rfl rfl rfl rfl ih
        · rw [if_neg z9] at ih
          refine jj_aload_n dX7_nextToken_241 rfl ?_
          refine jj_getf dX7_nextToken_242 fl7_75 rfl rfl ?_
          refine jj_aload_n dX7_nextToken_245 rfl ?_
          refine jj_getf dX7_nextToken_246 fl7_69 rfl rfl ?_
          refine jj_icmp_ge (tgt := 333) dX7_nextToken_249 (by decide) (fun zz => absurd zz (nI_ge (a := k) (b := L) (by omega) (by omega))) (fun _ => ?_)
          refine jj_aload_n dX7_nextToken_252 rfl ?_
          refine jj_getf dX7_nextToken_253 fl7_23 rfl rfl ?_
          refine jj_aload_n dX7_nextToken_256 rfl ?_
          refine jj_getf dX7_nextToken_257 fl7_75 rfl rfl ?_
          refine jj_eq (st' := [.int (nI k), .ref 33]) rfl rfl rfl rfl ?_
          refine jv_iald (k := k) dX7_nextToken_260 rfl (by omega) (by decide) ?_
          refine jj_bipush (v := 48) dX7_nextToken_261 (by decide) ?_
          refine jj_bipush (v := 57) dX7_nextToken_263 (by decide) ?_
          refine jj_callS (M2 := m7_in) dX7_nextToken_265 ml7_65 tm7_in (ev7_in (mo_text s k) 48 57) rfl rfl (by omega) (Nat.le_of_ble_eq_true rfl) ?_
          refine jj_if_eq (tgt := 333) dX7_nextToken_268 (by decide) (fun zz => absurd zz (by rw [jb_bt z]; decide)) (fun _ => ?_)
          refine jj_aload_n dX7_nextToken_271 rfl ?_
          refine jj_aload_n dX7_nextToken_272 rfl ?_
          refine jj_getf dX7_nextToken_273 fl7_81 rfl rfl ?_
          refine jj_iconst (v := 2) dX7_nextToken_276 (by decide) ?_
          refine jj_icmp_ge (tgt := 303) dX7_nextToken_277 (by decide) (fun _ => ?_) (fun zz => absurd (nI_le (a := 2) (b := k - q) (by omega) (by omega)) zz)
          refine jj_aload_n dX7_nextToken_303 rfl ?_
          refine jj_getf dX7_nextToken_304 fl7_84 rfl rfl ?_
          refine jj_putf dX7_nextToken_307 (fw7_84 _) rfl (Nat.le_of_ble_eq_true rfl) rfl rfl rfl ?_
          refine jj_aload_n dX7_nextToken_310 rfl ?_
          refine jj_dup dX7_nextToken_311 rfl ?_
          refine jj_getf dX7_nextToken_312 fl7_81 rfl rfl ?_
          refine jj_iconst (v := 1) dX7_nextToken_315 (by decide) ?_
          refine jj_eq (st' := [.int 1, .int (nI (k - q)), .ref 28]) rfl rfl rfl rfl ?_
          refine jj_iadd (v := nI (k - q + 1)) dX7_nextToken_316 (nI_add (k - q) 1) ?_
          refine jj_putf dX7_nextToken_317 (fw7_81 _) rfl (Nat.le_of_ble_eq_true rfl) rfl rfl rfl ?_
          refine jj_aload_n dX7_nextToken_320 rfl ?_
          refine jj_dup dX7_nextToken_321 rfl ?_
          refine jj_getf dX7_nextToken_322 fl7_75 rfl rfl ?_
          refine jj_iconst (v := 1) dX7_nextToken_325 (by decide) ?_
          refine jj_eq (st' := [.int 1, .int (nI k), .ref 28]) rfl rfl rfl rfl ?_
          refine jj_iadd (v := nI (k + 1)) dX7_nextToken_326 (nI_add k 1) ?_
          refine jj_putf dX7_nextToken_327 (fw7_75 _) rfl (Nat.le_of_ble_eq_true rfl) rfl rfl rfl ?_
          refine jj_goto (tgt := 241) dX7_nextToken_330 (by decide) ?_
          exact jj_eq rfl rfl rfl rfl ih
      · rw [jb_fst_yes (p := fun i => tk_so (mo_text s i) != tk_so (mo_text s q)) (by rw [hq0]; simpa using (fun y => z (jx_so1.mp y))) hk]
        refine jj_aload_n dX7_nextToken_241 rfl ?_
        refine jj_getf dX7_nextToken_242 fl7_75 rfl rfl ?_
        refine jj_aload_n dX7_nextToken_245 rfl ?_
        refine jj_getf dX7_nextToken_246 fl7_69 rfl rfl ?_
        refine jj_icmp_ge (tgt := 333) dX7_nextToken_249 (by decide) (fun zz => absurd zz (nI_ge (a := k) (b := L) (by omega) (by omega))) (fun _ => ?_)
        refine jj_aload_n dX7_nextToken_252 rfl ?_
        refine jj_getf dX7_nextToken_253 fl7_23 rfl rfl ?_
        refine jj_aload_n dX7_nextToken_256 rfl ?_
        refine jj_getf dX7_nextToken_257 fl7_75 rfl rfl ?_
        refine jj_eq (st' := [.int (nI k), .ref 33]) rfl rfl rfl rfl ?_
        refine jv_iald (k := k) dX7_nextToken_260 rfl (by omega) (by decide) ?_
        refine jj_bipush (v := 48) dX7_nextToken_261 (by decide) ?_
        refine jj_bipush (v := 57) dX7_nextToken_263 (by decide) ?_
        refine jj_callS (M2 := m7_in) dX7_nextToken_265 ml7_65 tm7_in (ev7_in (mo_text s k) 48 57) rfl rfl (by omega) (Nat.le_of_ble_eq_true rfl) ?_
        refine jj_if_eq (tgt := 333) dX7_nextToken_268 (by decide) (fun _ => ?_) (fun zz => absurd (jb_bf z) zz)
        exact D3 q k hq hqk (by omega) hq0
    · intro hqk
      rw [jb_fst_end]
      refine jj_aload_n dX7_nextToken_241 rfl ?_
      refine jj_getf dX7_nextToken_242 fl7_75 rfl rfl ?_
      refine jj_aload_n dX7_nextToken_245 rfl ?_
      refine jj_getf dX7_nextToken_246 fl7_69 rfl rfl ?_
      refine jj_icmp_ge (tgt := 333) dX7_nextToken_249 (by decide) (fun _ => ?_) (fun zz => absurd (nI_le (a := L) (b := L) (by omega) (by omega)) zz)
      exact D3 q L hq hqk (Nat.le_refl L) hq0
  have J1 : ∀ q, q ≤ L → jj_Go G m7_nextToken 1 38 [some (.ref 28)] [] (jj_m (jx s L (q, a, tk, dg, nm, fa, rd))) 0 0 (none) (jj_m (jx s L ((tk_e (mo_text s) L q), q, jx_T (mo_text s) L q (tk_e (mo_text s) L q), jx_D (mo_text s) L q (tk_e (mo_text s) L q), jx_N (mo_text s) L q (tk_e (mo_text s) L q), fa, rd))) := by
    intro q hq
    by_cases hl : q < L
    · have e1 : q + 1 - q = 1 := by omega
      have hnL : ¬ nI q = nI L := fun e => absurd ((jb_inj (by omega) (by omega)).mp e) (by omega)
      by_cases z0 : tk_so (mo_text s q) = 0
      · have eE : tk_e (mo_text s) L q = jb_fst (fun i => tk_so (mo_text s i) != tk_so (mo_text s q)) q (L - q) := by
          unfold tk_e
          rw [if_pos hl, if_neg (by rw [z0]; decide), jb_fst_no (p := fun i => tk_so (mo_text s i) != tk_so (mo_text s q)) (k := q) (by simp) hl]
        rw [eE]
        have K := J2 q hl z0 q hq (Nat.le_refl q)
        rw [Nat.sub_self] at K
        refine jj_aload_n dX7_nextToken_38 rfl ?_
        refine jj_aload_n dX7_nextToken_39 rfl ?_
        refine jj_getf dX7_nextToken_40 fl7_75 rfl rfl ?_
        refine jj_putf dX7_nextToken_43 (fw7_78 _) rfl (Nat.le_of_ble_eq_true rfl) rfl rfl rfl ?_
        refine jj_aload_n dX7_nextToken_46 rfl ?_
        refine jj_iconst (v := 0) dX7_nextToken_47 (by decide) ?_
        refine jj_putf dX7_nextToken_48 (fw7_81 _) rfl (Nat.le_of_ble_eq_true rfl) rfl rfl rfl ?_
        refine jj_aload_n dX7_nextToken_51 rfl ?_
        refine jj_iconst (v := 0) dX7_nextToken_52 (by decide) ?_
        refine jj_putf dX7_nextToken_53 (fw7_84 _) rfl (Nat.le_of_ble_eq_true rfl) rfl rfl rfl ?_
        refine jj_aload_n dX7_nextToken_56 rfl ?_
        refine jj_getf dX7_nextToken_57 fl7_75 rfl rfl ?_
        refine jj_aload_n dX7_nextToken_60 rfl ?_
        refine jj_getf dX7_nextToken_61 fl7_69 rfl rfl ?_
        refine jj_icmp_ne (tgt := 77) dX7_nextToken_64 (by decide) (fun _ => ?_) (fun zz => absurd zz hnL)
        refine jj_aload_n dX7_nextToken_77 rfl ?_
        refine jj_getf dX7_nextToken_78 fl7_23 rfl rfl ?_
        refine jj_aload_n dX7_nextToken_81 rfl ?_
        refine jj_getf dX7_nextToken_82 fl7_75 rfl rfl ?_
        refine jj_eq (st' := [.int (nI q), .ref 33]) rfl rfl rfl rfl ?_
        refine jv_iald (k := q) dX7_nextToken_85 rfl (by omega) (by decide) ?_
        refine jj_bipush (v := 97) dX7_nextToken_86 (by decide) ?_
        refine jj_bipush (v := 122) dX7_nextToken_88 (by decide) ?_
        refine jj_callS (M2 := m7_in) dX7_nextToken_90 ml7_65 tm7_in (ev7_in (mo_text s q) 97 122) rfl rfl (by omega) (Nat.le_of_ble_eq_true rfl) ?_
        refine jj_if_eq (tgt := 222) dX7_nextToken_93 (by decide) (fun zz => absurd zz (by rw [jb_bt (jx_so.mp z0)]; decide)) (fun _ => ?_)
        refine jj_aload_n dX7_nextToken_96 rfl ?_
        refine jj_lconst (v := 0) dX7_nextToken_97 (by decide) ?_
        refine jj_putf dX7_nextToken_98 (fw7_89 _) rfl (Nat.le_of_ble_eq_true rfl) rfl rfl rfl ?_
        exact jj_eq rfl rfl rfl rfl K
      · have n0 : ¬ (97 ≤ mo_text s q ∧ mo_text s q ≤ 122) := fun y => z0 (jx_so.mpr y)
        by_cases z1 : tk_so (mo_text s q) = 1
        · have eE : tk_e (mo_text s) L q = jb_fst (fun i => tk_so (mo_text s i) != tk_so (mo_text s q)) q (L - q) := by
            unfold tk_e
            rw [if_pos hl, if_neg (by rw [z1]; decide), jb_fst_no (p := fun i => tk_so (mo_text s i) != tk_so (mo_text s q)) (k := q) (by simp) hl]
          rw [eE]
          have K := D2 q hl z1 q hq (Nat.le_refl q)
          rw [Nat.sub_self] at K
          refine jj_aload_n dX7_nextToken_38 rfl ?_
          refine jj_aload_n dX7_nextToken_39 rfl ?_
          refine jj_getf dX7_nextToken_40 fl7_75 rfl rfl ?_
          refine jj_putf dX7_nextToken_43 (fw7_78 _) rfl (Nat.le_of_ble_eq_true rfl) rfl rfl rfl ?_
          refine jj_aload_n dX7_nextToken_46 rfl ?_
          refine jj_iconst (v := 0) dX7_nextToken_47 (by decide) ?_
          refine jj_putf dX7_nextToken_48 (fw7_81 _) rfl (Nat.le_of_ble_eq_true rfl) rfl rfl rfl ?_
          refine jj_aload_n dX7_nextToken_51 rfl ?_
          refine jj_iconst (v := 0) dX7_nextToken_52 (by decide) ?_
          refine jj_putf dX7_nextToken_53 (fw7_84 _) rfl (Nat.le_of_ble_eq_true rfl) rfl rfl rfl ?_
          refine jj_aload_n dX7_nextToken_56 rfl ?_
          refine jj_getf dX7_nextToken_57 fl7_75 rfl rfl ?_
          refine jj_aload_n dX7_nextToken_60 rfl ?_
          refine jj_getf dX7_nextToken_61 fl7_69 rfl rfl ?_
          refine jj_icmp_ne (tgt := 77) dX7_nextToken_64 (by decide) (fun _ => ?_) (fun zz => absurd zz hnL)
          refine jj_aload_n dX7_nextToken_77 rfl ?_
          refine jj_getf dX7_nextToken_78 fl7_23 rfl rfl ?_
          refine jj_aload_n dX7_nextToken_81 rfl ?_
          refine jj_getf dX7_nextToken_82 fl7_75 rfl rfl ?_
          refine jj_eq (st' := [.int (nI q), .ref 33]) rfl rfl rfl rfl ?_
          refine jv_iald (k := q) dX7_nextToken_85 rfl (by omega) (by decide) ?_
          refine jj_bipush (v := 97) dX7_nextToken_86 (by decide) ?_
          refine jj_bipush (v := 122) dX7_nextToken_88 (by decide) ?_
          refine jj_callS (M2 := m7_in) dX7_nextToken_90 ml7_65 tm7_in (ev7_in (mo_text s q) 97 122) rfl rfl (by omega) (Nat.le_of_ble_eq_true rfl) ?_
          refine jj_if_eq (tgt := 222) dX7_nextToken_93 (by decide) (fun _ => ?_) (fun zz => absurd (jb_bf n0) zz)
          refine jj_aload_n dX7_nextToken_222 rfl ?_
          refine jj_getf dX7_nextToken_223 fl7_23 rfl rfl ?_
          refine jj_aload_n dX7_nextToken_226 rfl ?_
          refine jj_getf dX7_nextToken_227 fl7_75 rfl rfl ?_
          refine jj_eq (st' := [.int (nI q), .ref 33]) rfl rfl rfl rfl ?_
          refine jv_iald (k := q) dX7_nextToken_230 rfl (by omega) (by decide) ?_
          refine jj_bipush (v := 48) dX7_nextToken_231 (by decide) ?_
          refine jj_bipush (v := 57) dX7_nextToken_233 (by decide) ?_
          refine jj_callS (M2 := m7_in) dX7_nextToken_235 ml7_65 tm7_in (ev7_in (mo_text s q) 48 57) rfl rfl (by omega) (Nat.le_of_ble_eq_true rfl) ?_
          refine jj_if_eq (tgt := 357) dX7_nextToken_238 (by decide) (fun zz => absurd zz (by rw [jb_bt (jx_so1.mp z1)]; decide)) (fun _ => ?_)
          exact jj_eq rfl rfl rfl rfl K
        · have z2 := jx_so2 z0 z1
          have n1 : ¬ (48 ≤ mo_text s q ∧ mo_text s q ≤ 57) := fun y => z1 (jx_so1.mpr y)
          have eE : tk_e (mo_text s) L q = q + 1 := by
            unfold tk_e
            rw [if_pos hl, if_pos z2]
          rw [eE]
          have eT : jx_T (mo_text s) L q (q + 1) = if mo_text s q = 59 then -3 else -4 := by unfold jx_T; rw [if_neg (by omega), if_neg z0, if_neg z1]
          have eD : jx_D (mo_text s) L q (q + 1) = 0 := by unfold jx_D; rw [if_neg (by omega), if_neg z1]
          have eN : jx_N (mo_text s) L q (q + 1) = 0 := by unfold jx_N; rw [if_neg (by omega), if_neg z1]
          rw [eT, eD, eN]
          by_cases z9 : mo_text s q = 59
          · rw [if_pos z9]
            refine jj_aload_n dX7_nextToken_38 rfl ?_
            refine jj_aload_n dX7_nextToken_39 rfl ?_
            refine jj_getf dX7_nextToken_40 fl7_75 rfl rfl ?_
            refine jj_putf dX7_nextToken_43 (fw7_78 _) rfl (Nat.le_of_ble_eq_true rfl) rfl rfl rfl ?_
            refine jj_aload_n dX7_nextToken_46 rfl ?_
            refine jj_iconst (v := 0) dX7_nextToken_47 (by decide) ?_
            refine jj_putf dX7_nextToken_48 (fw7_81 _) rfl (Nat.le_of_ble_eq_true rfl) rfl rfl rfl ?_
            refine jj_aload_n dX7_nextToken_51 rfl ?_
            refine jj_iconst (v := 0) dX7_nextToken_52 (by decide) ?_
            refine jj_putf dX7_nextToken_53 (fw7_84 _) rfl (Nat.le_of_ble_eq_true rfl) rfl rfl rfl ?_
            refine jj_aload_n dX7_nextToken_56 rfl ?_
            refine jj_getf dX7_nextToken_57 fl7_75 rfl rfl ?_
            refine jj_aload_n dX7_nextToken_60 rfl ?_
            refine jj_getf dX7_nextToken_61 fl7_69 rfl rfl ?_
            refine jj_icmp_ne (tgt := 77) dX7_nextToken_64 (by decide) (fun _ => ?_) (fun zz => absurd zz hnL)
            refine jj_aload_n dX7_nextToken_77 rfl ?_
            refine jj_getf dX7_nextToken_78 fl7_23 rfl rfl ?_
            refine jj_aload_n dX7_nextToken_81 rfl ?_
            refine jj_getf dX7_nextToken_82 fl7_75 rfl rfl ?_
            refine jj_eq (st' := [.int (nI q), .ref 33]) rfl rfl rfl rfl ?_
            refine jv_iald (k := q) dX7_nextToken_85 rfl (by omega) (by decide) ?_
            refine jj_bipush (v := 97) dX7_nextToken_86 (by decide) ?_
            refine jj_bipush (v := 122) dX7_nextToken_88 (by decide) ?_
            refine jj_callS (M2 := m7_in) dX7_nextToken_90 ml7_65 tm7_in (ev7_in (mo_text s q) 97 122) rfl rfl (by omega) (Nat.le_of_ble_eq_true rfl) ?_
            refine jj_if_eq (tgt := 222) dX7_nextToken_93 (by decide) (fun _ => ?_) (fun zz => absurd (jb_bf n0) zz)
            refine jj_aload_n dX7_nextToken_222 rfl ?_
            refine jj_getf dX7_nextToken_223 fl7_23 rfl rfl ?_
            refine jj_aload_n dX7_nextToken_226 rfl ?_
            refine jj_getf dX7_nextToken_227 fl7_75 rfl rfl ?_
            refine jj_eq (st' := [.int (nI q), .ref 33]) rfl rfl rfl rfl ?_
            refine jv_iald (k := q) dX7_nextToken_230 rfl (by omega) (by decide) ?_
            refine jj_bipush (v := 48) dX7_nextToken_231 (by decide) ?_
            refine jj_bipush (v := 57) dX7_nextToken_233 (by decide) ?_
            refine jj_callS (M2 := m7_in) dX7_nextToken_235 ml7_65 tm7_in (ev7_in (mo_text s q) 48 57) rfl rfl (by omega) (Nat.le_of_ble_eq_true rfl) ?_
            refine jj_if_eq (tgt := 357) dX7_nextToken_238 (by decide) (fun _ => ?_) (fun zz => absurd (jb_bf n1) zz)
            refine jj_aload_n dX7_nextToken_357 rfl ?_
            refine jj_aload_n dX7_nextToken_358 rfl ?_
            refine jj_getf dX7_nextToken_359 fl7_23 rfl rfl ?_
            refine jj_aload_n dX7_nextToken_362 rfl ?_
            refine jj_getf dX7_nextToken_363 fl7_75 rfl rfl ?_
            refine jj_eq (st' := [.int (nI q), .ref 33, .ref 28]) rfl rfl rfl rfl ?_
            refine jv_iald (k := q) dX7_nextToken_366 rfl (by omega) (by decide) ?_
            refine jj_bipush (v := 59) dX7_nextToken_367 (by decide) ?_
            refine jj_icmp_ne (tgt := 378) dX7_nextToken_369 (by decide) (fun zz => absurd z9 zz) (fun _ => ?_)
            refine jj_ldc2 dX7_nextToken_372 kc7_101 ?_
            refine jj_goto (tgt := 381) dX7_nextToken_375 (by decide) ?_
            refine jj_putf dX7_nextToken_381 (fw7_89 _) rfl (Nat.le_of_ble_eq_true rfl) rfl rfl rfl ?_
            refine jj_aload_n dX7_nextToken_384 rfl ?_
            refine jj_dup dX7_nextToken_385 rfl ?_
            refine jj_getf dX7_nextToken_386 fl7_75 rfl rfl ?_
            refine jj_iconst (v := 1) dX7_nextToken_389 (by decide) ?_
            refine jj_eq (st' := [.int 1, .int (nI q), .ref 28]) rfl rfl rfl rfl ?_
            refine jj_iadd (v := nI (q + 1)) dX7_nextToken_390 (nI_add q 1) ?_
            refine jj_putf dX7_nextToken_391 (fw7_75 _) rfl (Nat.le_of_ble_eq_true rfl) rfl rfl rfl ?_
            exact jj_leaf dX7_nextToken_394 rfl rfl
          · rw [if_neg z9]
            refine jj_aload_n dX7_nextToken_38 rfl ?_
            refine jj_aload_n dX7_nextToken_39 rfl ?_
            refine jj_getf dX7_nextToken_40 fl7_75 rfl rfl ?_
            refine jj_putf dX7_nextToken_43 (fw7_78 _) rfl (Nat.le_of_ble_eq_true rfl) rfl rfl rfl ?_
            refine jj_aload_n dX7_nextToken_46 rfl ?_
            refine jj_iconst (v := 0) dX7_nextToken_47 (by decide) ?_
            refine jj_putf dX7_nextToken_48 (fw7_81 _) rfl (Nat.le_of_ble_eq_true rfl) rfl rfl rfl ?_
            refine jj_aload_n dX7_nextToken_51 rfl ?_
            refine jj_iconst (v := 0) dX7_nextToken_52 (by decide) ?_
            refine jj_putf dX7_nextToken_53 (fw7_84 _) rfl (Nat.le_of_ble_eq_true rfl) rfl rfl rfl ?_
            refine jj_aload_n dX7_nextToken_56 rfl ?_
            refine jj_getf dX7_nextToken_57 fl7_75 rfl rfl ?_
            refine jj_aload_n dX7_nextToken_60 rfl ?_
            refine jj_getf dX7_nextToken_61 fl7_69 rfl rfl ?_
            refine jj_icmp_ne (tgt := 77) dX7_nextToken_64 (by decide) (fun _ => ?_) (fun zz => absurd zz hnL)
            refine jj_aload_n dX7_nextToken_77 rfl ?_
            refine jj_getf dX7_nextToken_78 fl7_23 rfl rfl ?_
            refine jj_aload_n dX7_nextToken_81 rfl ?_
            refine jj_getf dX7_nextToken_82 fl7_75 rfl rfl ?_
            refine jj_eq (st' := [.int (nI q), .ref 33]) rfl rfl rfl rfl ?_
            refine jv_iald (k := q) dX7_nextToken_85 rfl (by omega) (by decide) ?_
            refine jj_bipush (v := 97) dX7_nextToken_86 (by decide) ?_
            refine jj_bipush (v := 122) dX7_nextToken_88 (by decide) ?_
            refine jj_callS (M2 := m7_in) dX7_nextToken_90 ml7_65 tm7_in (ev7_in (mo_text s q) 97 122) rfl rfl (by omega) (Nat.le_of_ble_eq_true rfl) ?_
            refine jj_if_eq (tgt := 222) dX7_nextToken_93 (by decide) (fun _ => ?_) (fun zz => absurd (jb_bf n0) zz)
            refine jj_aload_n dX7_nextToken_222 rfl ?_
            refine jj_getf dX7_nextToken_223 fl7_23 rfl rfl ?_
            refine jj_aload_n dX7_nextToken_226 rfl ?_
            refine jj_getf dX7_nextToken_227 fl7_75 rfl rfl ?_
            refine jj_eq (st' := [.int (nI q), .ref 33]) rfl rfl rfl rfl ?_
            refine jv_iald (k := q) dX7_nextToken_230 rfl (by omega) (by decide) ?_
            refine jj_bipush (v := 48) dX7_nextToken_231 (by decide) ?_
            refine jj_bipush (v := 57) dX7_nextToken_233 (by decide) ?_
            refine jj_callS (M2 := m7_in) dX7_nextToken_235 ml7_65 tm7_in (ev7_in (mo_text s q) 48 57) rfl rfl (by omega) (Nat.le_of_ble_eq_true rfl) ?_
            refine jj_if_eq (tgt := 357) dX7_nextToken_238 (by decide) (fun _ => ?_) (fun zz => absurd (jb_bf n1) zz)
            refine jj_aload_n dX7_nextToken_357 rfl ?_
            refine jj_aload_n dX7_nextToken_358 rfl ?_
            refine jj_getf dX7_nextToken_359 fl7_23 rfl rfl ?_
            refine jj_aload_n dX7_nextToken_362 rfl ?_
            refine jj_getf dX7_nextToken_363 fl7_75 rfl rfl ?_
            refine jj_eq (st' := [.int (nI q), .ref 33, .ref 28]) rfl rfl rfl rfl ?_
            refine jv_iald (k := q) dX7_nextToken_366 rfl (by omega) (by decide) ?_
            refine jj_bipush (v := 59) dX7_nextToken_367 (by decide) ?_
            refine jj_icmp_ne (tgt := 378) dX7_nextToken_369 (by decide) (fun _ => ?_) (fun zz => absurd zz z9)
            refine jj_ldc2 dX7_nextToken_378 kc7_97 ?_
            refine jj_putf dX7_nextToken_381 (fw7_89 _) rfl (Nat.le_of_ble_eq_true rfl) rfl rfl rfl ?_
            refine jj_aload_n dX7_nextToken_384 rfl ?_
            refine jj_dup dX7_nextToken_385 rfl ?_
            refine jj_getf dX7_nextToken_386 fl7_75 rfl rfl ?_
            refine jj_iconst (v := 1) dX7_nextToken_389 (by decide) ?_
            refine jj_eq (st' := [.int 1, .int (nI q), .ref 28]) rfl rfl rfl rfl ?_
            refine jj_iadd (v := nI (q + 1)) dX7_nextToken_390 (nI_add q 1) ?_
            refine jj_putf dX7_nextToken_391 (fw7_75 _) rfl (Nat.le_of_ble_eq_true rfl) rfl rfl rfl ?_
            exact jj_leaf dX7_nextToken_394 rfl rfl
    · obtain rfl : q = L := by omega
      have eE : tk_e (mo_text s) q q = q := if_neg hl
      rw [eE]
      have eT : jx_T (mo_text s) q q q = -2 := if_pos rfl
      have eD : jx_D (mo_text s) q q q = 0 := if_pos rfl
      have eN : jx_N (mo_text s) q q q = 0 := if_pos rfl
      rw [eT, eD, eN]
      refine jj_aload_n dX7_nextToken_38 rfl ?_
      refine jj_aload_n dX7_nextToken_39 rfl ?_
      refine jj_getf dX7_nextToken_40 fl7_75 rfl rfl ?_
      refine jj_putf dX7_nextToken_43 (fw7_78 _) rfl (Nat.le_of_ble_eq_true rfl) rfl rfl rfl ?_
      refine jj_aload_n dX7_nextToken_46 rfl ?_
      refine jj_iconst (v := 0) dX7_nextToken_47 (by decide) ?_
      refine jj_putf dX7_nextToken_48 (fw7_81 _) rfl (Nat.le_of_ble_eq_true rfl) rfl rfl rfl ?_
      refine jj_aload_n dX7_nextToken_51 rfl ?_
      refine jj_iconst (v := 0) dX7_nextToken_52 (by decide) ?_
      refine jj_putf dX7_nextToken_53 (fw7_84 _) rfl (Nat.le_of_ble_eq_true rfl) rfl rfl rfl ?_
      refine jj_aload_n dX7_nextToken_56 rfl ?_
      refine jj_getf dX7_nextToken_57 fl7_75 rfl rfl ?_
      refine jj_aload_n dX7_nextToken_60 rfl ?_
      refine jj_getf dX7_nextToken_61 fl7_69 rfl rfl ?_
      refine jj_icmp_ne (tgt := 77) dX7_nextToken_64 (by decide) (fun zz => absurd rfl zz) (fun _ => ?_)
      refine jj_aload_n dX7_nextToken_67 rfl ?_
      refine jj_ldc2 dX7_nextToken_68 kc7_87 ?_
      refine jj_putf dX7_nextToken_71 (fw7_89 _) rfl (Nat.le_of_ble_eq_true rfl) rfl rfl rfl ?_
      refine jj_goto (tgt := 394) dX7_nextToken_74 (by decide) ?_
      exact jj_leaf dX7_nextToken_394 rfl rfl
  have L0 : ∀ k, k ≤ L → jj_Go G m7_nextToken 1 0 [some (.ref 28)] [] (jj_m (jx s L (k, a, tk, dg, nm, fa, rd))) 0 0 (none) (jj_m (jx s L ((tk_e (mo_text s) L (jb_fst (fun i => mo_text s i != 32) k (L - k))), (jb_fst (fun i => mo_text s i != 32) k (L - k)), jx_T (mo_text s) L (jb_fst (fun i => mo_text s i != 32) k (L - k)) (tk_e (mo_text s) L (jb_fst (fun i => mo_text s i != 32) k (L - k))), jx_D (mo_text s) L (jb_fst (fun i => mo_text s i != 32) k (L - k)) (tk_e (mo_text s) L (jb_fst (fun i => mo_text s i != 32) k (L - k))), jx_N (mo_text s) L (jb_fst (fun i => mo_text s i != 32) k (L - k)) (tk_e (mo_text s) L (jb_fst (fun i => mo_text s i != 32) k (L - k))), fa, rd))) := by
    refine jj_up L (fun k hk ih => ?_) ?_
    · skip
      refine jj_aload_n dX7_nextToken_0 rfl ?_
      refine jj_getf dX7_nextToken_1 fl7_75 rfl rfl ?_
      refine jj_aload_n dX7_nextToken_4 rfl ?_
      refine jj_getf dX7_nextToken_5 fl7_69 rfl rfl ?_
      refine jj_icmp_ge (tgt := 38) dX7_nextToken_8 (by decide) (fun zz => absurd zz (nI_ge (a := k) (b := L) (by omega) (by omega))) (fun _ => ?_)
      refine jj_aload_n dX7_nextToken_11 rfl ?_
      refine jj_getf dX7_nextToken_12 fl7_23 rfl rfl ?_
      refine jj_aload_n dX7_nextToken_15 rfl ?_
      refine jj_getf dX7_nextToken_16 fl7_75 rfl rfl ?_
      refine jj_eq (st' := [.int (nI k), .ref 33]) rfl rfl rfl rfl ?_
      refine jv_iald (k := k) dX7_nextToken_19 rfl (by omega) (by decide) ?_
      refine jj_bipush (v := 32) dX7_nextToken_20 (by decide) ?_
      refine jj_icmp_ne (tgt := 38) dX7_nextToken_22 (by decide) (fun c22 => ?_) (fun c22 => ?_)
      · rw [jb_fst_yes (p := fun i => mo_text s i != 32) (by have c2 : ¬ mo_text s k = 32 := c22; simpa using c2) hk]
        exact J1 k (by omega)
      · refine jj_aload_n dX7_nextToken_25 rfl ?_
        refine jj_dup dX7_nextToken_26 rfl ?_
        refine jj_getf dX7_nextToken_27 fl7_75 rfl rfl ?_
        refine jj_iconst (v := 1) dX7_nextToken_30 (by decide) ?_
        refine jj_eq (st' := [.int 1, .int (nI k), .ref 28]) rfl rfl rfl rfl ?_
        refine jj_iadd (v := nI (k + 1)) dX7_nextToken_31 (nI_add k 1) ?_
        refine jj_putf dX7_nextToken_32 (fw7_75 _) rfl (Nat.le_of_ble_eq_true rfl) rfl rfl rfl ?_
        refine jj_goto (tgt := 0) dX7_nextToken_35 (by decide) ?_
        rw [jb_fst_no (p := fun i => mo_text s i != 32) (by have c2 : mo_text s k = 32 := c22; simpa using c2) hk]
        exact jj_eq rfl rfl rfl rfl ih
    · rw [jb_fst_end]
      refine jj_aload_n dX7_nextToken_0 rfl ?_
      refine jj_getf dX7_nextToken_1 fl7_75 rfl rfl ?_
      refine jj_aload_n dX7_nextToken_4 rfl ?_
      refine jj_getf dX7_nextToken_5 fl7_69 rfl rfl ?_
      refine jj_icmp_ge (tgt := 38) dX7_nextToken_8 (by decide) (fun _ => ?_) (fun zz => absurd (nI_le (a := L) (b := L) (by omega) (by omega)) zz)
      exact J1 L (Nat.le_refl L)
  exact L0 p hp
