/-! TOKENS: what the model makes of them is what the class makes of them -/
theorem tk_let {x : Int32} (h : tk_so x = 0) : ∃ d, d < 26 ∧ x = nI (97 + d) := by
  obtain ⟨h3, h4⟩ := jx_so.mp h
  have e1 := Int32.le_iff_toInt_le.mp h3
  have e2 := Int32.le_iff_toInt_le.mp h4
  have f1 : (97 : Int32).toInt = 97 := by decide
  have f2 : (122 : Int32).toInt = 122 := by decide
  rw [f1] at e1
  rw [f2] at e2
  refine ⟨(x.toInt - 97).toNat, by omega, Int32.toInt_inj.mp ?_⟩
  rw [nI_toInt (by omega)]
  omega
def jwN (sg : Nat → Int32) (q : Nat) : Nat → Nat
  | 0 => 0
  | n + 1 => 27 * jwN sg q n + (jn (sg (q + n)) - 96)
theorem jw_N {sg : Nat → Int32} {q : Nat} : ∀ n, n ≤ 9 → (∀ i, i < n → tk_so (sg (q + i)) = 0) → jw sg q n = lN (jwN sg q n) ∧ jwN sg q n < 27 ^ n := by
  intro n
  induction n with
  | zero => intro _ _; exact ⟨rfl, by show (0 : Nat) < 27 ^ 0; decide⟩
  | succ n ih =>
    intro hn h
    obtain ⟨i1, i2⟩ := ih (by omega) (fun i hi => h i (by omega))
    obtain ⟨c, hc, e⟩ := tk_let (h n (by omega))
    rw [jw, jwN, if_pos (by omega), i1, e, nI_l (by omega), jn_n (by omega)]
    have e2 : 97 + c - 96 = c + 1 := by omega
    constructor
    · show lN 27 * lN (jwN sg q n) + lN (97 + c) - lN 96 = _
      rw [lN_mul, lN_add, lN_sub (by omega)]
      congr 1
      omega
    · rw [Nat.pow_succ]
      omega
theorem tk_e_all {sg : Nat → Int32} {L q : Nat} (hq : q < L) (h2 : ¬ tk_so (sg q) = 2) : ∀ j, q ≤ j → j < tk_e sg L q → tk_so (sg j) = tk_so (sg q) := by
  intro j h1 h3
  by_cases e : j = q
  · rw [e]
  · have eE : tk_e sg L q = jb_fst (fun i => tk_so (sg i) != tk_so (sg q)) (q + 1) (L - (q + 1)) := by unfold tk_e; rw [if_pos hq, if_neg h2]
    have h4 := jb_fst_pre (p := fun i => tk_so (sg i) != tk_so (sg q)) (L - (q + 1)) (q + 1) j (by omega) (by rw [← eE]; exact h3)
    simpa using h4
theorem tk_e_gt {sg : Nat → Int32} {L q : Nat} (hq : q < L) : q < tk_e sg L q := by
  unfold tk_e
  rw [if_pos hq]
  split
  · omega
  · have := (jb_fst_le (fun i => tk_so (sg i) != tk_so (sg q)) (L - (q + 1)) (q + 1)).1
    omega
theorem jw_lim : ∀ n, n < 10 → 27 ^ n < 2 ^ 50 := by decide
theorem jw_let {sg : Nat → Int32} {L q : Nat} (hq : q < L) (h0 : tk_so (sg q) = 0) (h9 : ¬ 9 < tk_e sg L q - q) : jw sg q (tk_e sg L q - q) = lN (jwN sg q (tk_e sg L q - q)) ∧ jwN sg q (tk_e sg L q - q) < 2 ^ 50 := by
  have h := jw_N (sg := sg) (q := q) (tk_e sg L q - q) (by omega) (fun i hi => by rw [tk_e_all hq (by rw [h0]; decide) (q + i) (by omega) (by omega)]; exact h0)
  exact ⟨h.1, Nat.lt_trans h.2 (jw_lim _ (by omega))⟩
theorem lN_neg {v : Nat} (h : v < 2 ^ 50) {k : Int64} (hk : k.toInt < 0) : ¬ lN v = k := by
  intro e
  have e2 := congrArg Int64.toInt e
  rw [pk_lT (by omega)] at e2
  omega
theorem jx_Tm1 {sg : Nat → Int32} {L q : Nat} (hq : q ≤ L) : jx_T sg L q (tk_e sg L q) = -1 ↔ (1 ≤ tk_e sg L q - q ∧ tk_e sg L q - q ≤ 2) ∧ tk_so (sg q) = 1 := by
  unfold jx_T
  by_cases hl : q = L
  · rw [if_pos hl]
    have : tk_e sg L q = q := if_neg (by omega)
    exact ⟨fun z => absurd z (by decide), fun z => by omega⟩
  · have hl2 : q < L := by omega
    have hg := tk_e_gt (sg := sg) hl2
    rw [if_neg hl]
    by_cases h0 : tk_so (sg q) = 0
    · rw [if_pos h0]
      refine ⟨fun z => ?_, fun z => absurd z.2 (by rw [h0]; decide)⟩
      by_cases h9 : 9 < tk_e sg L q - q
      · rw [if_pos h9] at z; exact absurd z (by decide)
      · rw [if_neg h9] at z
        obtain ⟨e1, e2⟩ := jw_let hl2 h0 h9
        rw [e1] at z
        exact absurd z (lN_neg e2 (by decide))
    · rw [if_neg h0]
      by_cases h1 : tk_so (sg q) = 1
      · rw [if_pos h1]
        by_cases h2 : 2 < tk_e sg L q - q
        · rw [if_pos h2]; exact ⟨fun z => absurd z (by decide), fun z => by omega⟩
        · rw [if_neg h2]; exact ⟨fun _ => ⟨⟨by omega, by omega⟩, h1⟩, fun _ => rfl⟩
      · rw [if_neg h1]
        refine ⟨fun z => ?_, fun z => absurd z.2 h1⟩
        split at z <;> exact absurd z (by decide)
theorem jn2_nk (sg : Nat → Int32) (q : Nat) : ∀ n, n ≤ 2 → jn2 sg q n = tk_nk sg q n := by
  intro n
  induction n with
  | zero => intro _; rfl
  | succ n ih =>
    intro hn
    rw [jn2, if_pos (by omega), ih (by omega), tk_nk, Int32.mul_comm]
theorem tk_nk_lt {sg : Nat → Int32} {L q : Nat} (hd : (1 ≤ tk_e sg L q - q ∧ tk_e sg L q - q ≤ 2) ∧ tk_so (sg q) = 1) : ∃ m, m < 100 ∧ tk_nk sg q (tk_e sg L q - q) = nI m := by
  obtain ⟨d0, hd0, e0⟩ := tk_dig hd.2
  have v1 : tk_nk sg q 1 = nI d0 := by
    show 0 * 10 + sg (q + 0) - 48 = nI d0
    rw [Nat.add_zero, e0]
    exact (by decide +kernel : ∀ d, d < 10 → (0 : Int32) * 10 + nI (48 + d) - 48 = nI d) d0 hd0
  rcases (show tk_e sg L q - q = 1 ∨ tk_e sg L q - q = 2 by omega) with h | h
  · rw [h]; exact ⟨d0, by omega, v1⟩
  · rw [h]
    have hql : q < L := by
      rcases Nat.lt_or_ge q L with z | z
      · exact z
      · have : tk_e sg L q = q := if_neg (by omega)
        omega
    have h4 : tk_so (sg (q + 1)) = 1 := by rw [tk_e_all hql (by rw [hd.2]; decide) (q + 1) (by omega) (by omega)]; exact hd.2
    obtain ⟨d1, hd1, e1⟩ := tk_dig h4
    refine ⟨d0 * 10 + d1, by omega, ?_⟩
    show tk_nk sg q 1 * 10 + sg (q + 1) - 48 = nI (d0 * 10 + d1)
    rw [v1, e1]
    exact (by decide +kernel : ∀ d, d < 10 → ∀ c, c < 10 → nI d * 10 + nI (48 + c) - 48 = nI (d * 10 + c)) d0 hd0 d1 hd1
/-- a number within: as the model sees it, as the class does -/
theorem jx_num {sg : Nat → Int32} {L : Nat} {X : jx_X} (hp : X.1 ≤ L) {b : Nat} (hb : b < 100) :
    ((jx_n sg L X).2.2.1 = -1 ∧ (jx_n sg L X).2.2.2.2.1 ≤ nI b → tk_n sg (tk_t sg L X.1).1 (tk_t sg L X.1).2 (nI (b + 1)) = (jx_n sg L X).2.2.2.2.1 ∧ ¬ tk_n sg (tk_t sg L X.1).1 (tk_t sg L X.1).2 (nI (b + 1)) = -1) ∧
    (¬ ((jx_n sg L X).2.2.1 = -1 ∧ (jx_n sg L X).2.2.2.2.1 ≤ nI b) → tk_n sg (tk_t sg L X.1).1 (tk_t sg L X.1).2 (nI (b + 1)) = -1) := by
  have hq := (tk_q_le (sg := sg) hp).2
  show (jx_T sg L (tk_q sg L X.1) (tk_e sg L (tk_q sg L X.1)) = -1 ∧ jx_N sg L (tk_q sg L X.1) (tk_e sg L (tk_q sg L X.1)) ≤ nI b → tk_n sg (tk_q sg L X.1) (tk_e sg L (tk_q sg L X.1)) (nI (b + 1)) = jx_N sg L (tk_q sg L X.1) (tk_e sg L (tk_q sg L X.1)) ∧ ¬ tk_n sg (tk_q sg L X.1) (tk_e sg L (tk_q sg L X.1)) (nI (b + 1)) = -1) ∧ (¬ (jx_T sg L (tk_q sg L X.1) (tk_e sg L (tk_q sg L X.1)) = -1 ∧ jx_N sg L (tk_q sg L X.1) (tk_e sg L (tk_q sg L X.1)) ≤ nI b) → tk_n sg (tk_q sg L X.1) (tk_e sg L (tk_q sg L X.1)) (nI (b + 1)) = -1)
  generalize tk_q sg L X.1 = q at hq ⊢
  rw [jx_Tm1 hq]
  by_cases hd : (1 ≤ tk_e sg L q - q ∧ tk_e sg L q - q ≤ 2) ∧ tk_so (sg q) = 1
  · obtain ⟨m, hm, hv⟩ := tk_nk_lt hd
    have hl : ¬ q = L := by
      intro e
      have : tk_e sg L q = q := if_neg (by omega)
      omega
    have eN : jx_N sg L q (tk_e sg L q) = nI m := by
      unfold jx_N
      rw [if_neg hl, if_pos hd.2, jn2_nk sg q _ hd.1.2, hv]
    have e : tk_n sg q (tk_e sg L q) (nI (b + 1)) = if nI m < nI (b + 1) then nI m else -1 := by unfold tk_n; rw [if_pos hd, hv]
    rw [e, eN]
    constructor
    · intro z
      have h1 := (nI_leI (by omega) (by omega)).mp z.2
      rw [if_pos (nI_lt (by omega) (by omega))]
      exact ⟨rfl, jb_nm1 (by omega)⟩
    · intro z
      have h1 : ¬ nI m ≤ nI b := fun y => z ⟨hd, y⟩
      rw [nI_leI (by omega) (by omega)] at h1
      exact if_neg (nI_nlt (by omega) (by omega))
  · exact ⟨fun z => absurd z.1 hd, fun _ => if_neg hd⟩
/-! words -/
def jWs : List Int64 := [86870255, 12384299, 439970, 456690, 453774, 139055, 10492150, 405230]
def jW (i : Nat) : Int64 := jWs.getD i 0
def jWn (i : Nat) : Nat := ([86870255, 12384299, 439970, 456690, 453774, 139055, 10492150, 405230] : List Nat).getD i 0
theorem jW_n : ∀ i, i < 8 → jW i = lN (jWn i) := by decide +kernel
theorem jW_pos : ∀ i, i < 8 → jWn i < 2 ^ 50 ∧ ¬ jW i = -1 ∧ ¬ jW i = -2 ∧ ¬ jW i = -3 ∧ ¬ jW i = -4 := by decide +kernel
/-- the value of a word's first n letters -/
def jWv (i : Nat) : Nat → Nat
  | 0 => 0
  | n + 1 => 27 * jWv i n + (jn (js_c i n) - 96)
theorem jWv_n : ∀ i, i < 8 → jWv i (jj_tl.getD i 0) = jWn i := by decide +kernel
theorem jWv_l : ∀ i, i < 8 → ∀ j, j < jj_tl.getD i 0 → ∃ c, c < 26 ∧ js_c i j = nI (97 + c) := by decide +kernel
theorem jWv_1 : ∀ i, i < 8 → 1 ≤ jj_tl.getD i 0 ∧ jj_tl.getD i 0 ≤ 6 := by decide +kernel
/-- one value, one word -/
theorem jw_inj {sg : Nat → Int32} {q i : Nat} (hi : i < 8) : ∀ m n, m ≤ jj_tl.getD i 0 → (∀ j, j < n → tk_so (sg (q + j)) = 0) → jwN sg q n = jWv i m → n = m ∧ ∀ j, j < m → sg (q + j) = js_c i j := by
  intro m
  induction m with
  | zero =>
    intro n _ h e
    cases n with
    | zero => exact ⟨rfl, fun j hj => absurd hj (Nat.not_lt_zero j)⟩
    | succ n =>
      obtain ⟨c, hc, e1⟩ := tk_let (h n (by omega))
      rw [jwN, jWv, e1, jn_n (by omega)] at e
      omega
  | succ m ih =>
    intro n hm h e
    obtain ⟨d, hd, e2⟩ := jWv_l i hi m (by omega)
    cases n with
    | zero =>
      rw [jwN, jWv, e2, jn_n (by omega)] at e
      omega
    | succ n =>
      obtain ⟨c, hc, e1⟩ := tk_let (h n (by omega))
      rw [jwN, jWv, e1, e2, jn_n (by omega), jn_n (by omega)] at e
      have h1 : c = d := by omega
      have h2 : jwN sg q n = jWv i m := by omega
      obtain ⟨h3, h4⟩ := ih n (by omega) (fun j hj => h j (by omega)) h2
      subst h3
      refine ⟨rfl, fun j hj => ?_⟩
      rcases Nat.lt_or_ge j n with q2 | q2
      · exact h4 j q2
      · obtain rfl : j = n := by omega
        rw [e1, e2, h1]
theorem jw_val {sg : Nat → Int32} {q i : Nat} : ∀ m, (∀ j, j < m → sg (q + j) = js_c i j) → jwN sg q m = jWv i m := by
  intro m
  induction m with
  | zero => intro _; rfl
  | succ m ih =>
    intro h
    rw [jwN, jWv, ih (fun j hj => h j (by omega)), h m (Nat.lt_succ_self m)]
theorem tk_sp_iff (sg : Nat → Int32) (q e i : Nat) : tk_sp sg q e i = true ↔ e - q = jj_tl.getD i 0 ∧ ∀ j, j < jj_tl.getD i 0 → sg (q + j) = js_c i j := by
  unfold tk_sp
  rw [Bool.and_eq_true, decide_eq_true_iff, jb_all_iff]
  refine and_congr_right fun _ => ⟨fun h j hj => by simpa using h j hj, fun h j hj => by simpa using h j hj⟩
theorem jx_word {sg : Nat → Int32} {L q i : Nat} (hq : q ≤ L) (hi : i < 8) : jx_T sg L q (tk_e sg L q) = jW i ↔ tk_sp sg q (tk_e sg L q) i = true := by
  rw [tk_sp_iff]
  obtain ⟨w1, w2, w3, w4, w5⟩ := jW_pos i hi
  obtain ⟨l1, l2⟩ := jWv_1 i hi
  unfold jx_T
  by_cases hl : q = L
  · rw [if_pos hl]
    have : tk_e sg L q = q := if_neg (by omega)
    exact ⟨fun z => absurd z.symm w3, fun z => by omega⟩
  · have hl2 : q < L := by omega
    rw [if_neg hl]
    by_cases h0 : tk_so (sg q) = 0
    · rw [if_pos h0]
      by_cases h9 : 9 < tk_e sg L q - q
      · rw [if_pos h9]
        exact ⟨fun z => absurd z.symm w5, fun z => by omega⟩
      · rw [if_neg h9]
        obtain ⟨e1, e2⟩ := jw_let hl2 h0 h9
        have hlt : ∀ j, j < tk_e sg L q - q → tk_so (sg (q + j)) = 0 := fun j hj => by rw [tk_e_all hl2 (by rw [h0]; decide) (q + j) (by omega) (by omega)]; exact h0
        rw [e1, jW_n i hi, pk_lEQ (by omega) (by omega), ← jWv_n i hi]
        constructor
        · intro z
          exact jw_inj hi _ _ (Nat.le_refl _) hlt z
        · intro z
          rw [z.1]
          exact jw_val _ z.2
    · rw [if_neg h0]
      have no : ¬ (tk_e sg L q - q = jj_tl.getD i 0 ∧ ∀ j, j < jj_tl.getD i 0 → sg (q + j) = js_c i j) := by
        intro z
        obtain ⟨c, hc, e⟩ := jWv_l i hi 0 (by omega)
        have e2 := z.2 0 (by omega)
        rw [Nat.add_zero, e] at e2
        refine h0 ?_
        rw [e2]
        exact (by decide +kernel : ∀ c, c < 26 → tk_so (nI (97 + c)) = 0) c hc
      refine ⟨fun z => ?_, fun z => absurd z no⟩
      split at z
      · split at z
        · exact absurd z.symm w5
        · exact absurd z.symm w2
      · split at z
        · exact absurd z.symm w4
        · exact absurd z.symm w5
theorem jx_w {sg : Nat → Int32} {L : Nat} {X : jx_X} (hp : X.1 ≤ L) : (tk_w sg (tk_t sg L X.1).1 (tk_t sg L X.1).2 = 8 ∧ ∀ j, j < 8 → ¬ (jx_n sg L X).2.2.1 = jW j) ∨ (tk_w sg (tk_t sg L X.1).1 (tk_t sg L X.1).2 < 8 ∧ (jx_n sg L X).2.2.1 = jW (tk_w sg (tk_t sg L X.1).1 (tk_t sg L X.1).2)) := by
  have hq := (tk_q_le (sg := sg) hp).2
  show (tk_w sg (tk_q sg L X.1) (tk_e sg L (tk_q sg L X.1)) = 8 ∧ ∀ j, j < 8 → ¬ jx_T sg L (tk_q sg L X.1) (tk_e sg L (tk_q sg L X.1)) = jW j) ∨ (tk_w sg (tk_q sg L X.1) (tk_e sg L (tk_q sg L X.1)) < 8 ∧ jx_T sg L (tk_q sg L X.1) (tk_e sg L (tk_q sg L X.1)) = jW (tk_w sg (tk_q sg L X.1) (tk_e sg L (tk_q sg L X.1))))
  generalize tk_q sg L X.1 = q at hq ⊢
  have h8 := tk_w_le sg q (tk_e sg L q)
  rcases Nat.lt_or_ge (tk_w sg q (tk_e sg L q)) 8 with h | h
  · right
    refine ⟨h, (jx_word hq h).mpr ?_⟩
    exact jb_fst_at (p := tk_sp sg q (tk_e sg L q)) 8 0 (by have : tk_w sg q (tk_e sg L q) = jb_fst (tk_sp sg q (tk_e sg L q)) 0 8 := rfl; omega)
  · left
    have e : tk_w sg q (tk_e sg L q) = 8 := by omega
    refine ⟨e, fun j hj z => ?_⟩
    have h2 := jb_fst_pre (p := tk_sp sg q (tk_e sg L q)) 8 0 j (Nat.zero_le j) (by have : tk_w sg q (tk_e sg L q) = jb_fst (tk_sp sg q (tk_e sg L q)) 0 8 := rfl; omega)
    rw [(jx_word hq hj).mp z] at h2
    exact absurd h2 (by decide)
theorem jx_end {sg : Nat → Int32} {L : Nat} {X : jx_X} (hp : X.1 ≤ L) : (jx_n sg L X).2.2.1 = -2 ↔ (tk_t sg L X.1).1 = L := by
  have hq := (tk_q_le (sg := sg) hp).2
  show jx_T sg L (tk_q sg L X.1) (tk_e sg L (tk_q sg L X.1)) = -2 ↔ tk_q sg L X.1 = L
  generalize tk_q sg L X.1 = q at hq ⊢
  unfold jx_T
  by_cases hl : q = L
  · rw [if_pos hl]
    exact ⟨fun _ => hl, fun _ => rfl⟩
  · have hl2 : q < L := by omega
    rw [if_neg hl]
    refine ⟨fun z => ?_, fun z => absurd z hl⟩
    by_cases h0 : tk_so (sg q) = 0
    · rw [if_pos h0] at z
      by_cases h9 : 9 < tk_e sg L q - q
      · rw [if_pos h9] at z; exact absurd z (by decide)
      · rw [if_neg h9] at z
        obtain ⟨e1, e2⟩ := jw_let hl2 h0 h9
        rw [e1] at z
        exact absurd z (lN_neg e2 (by decide))
    · rw [if_neg h0] at z
      split at z
      · split at z <;> exact absurd z (by decide)
      · split at z <;> exact absurd z (by decide)
theorem jx_sem {sg : Nat → Int32} {L : Nat} {X : jx_X} (hp : X.1 ≤ L) : (jx_n sg L X).2.2.1 = -3 ↔ ¬ (tk_t sg L X.1).1 = L ∧ sg (tk_t sg L X.1).1 = 59 := by
  have hq := (tk_q_le (sg := sg) hp).2
  show jx_T sg L (tk_q sg L X.1) (tk_e sg L (tk_q sg L X.1)) = -3 ↔ ¬ tk_q sg L X.1 = L ∧ sg (tk_q sg L X.1) = 59
  generalize tk_q sg L X.1 = q at hq ⊢
  unfold jx_T
  by_cases hl : q = L
  · rw [if_pos hl]
    exact ⟨fun z => absurd z (by decide), fun z => absurd hl z.1⟩
  · have hl2 : q < L := by omega
    rw [if_neg hl]
    have e59 : tk_so 59 = 2 := by decide
    by_cases h0 : tk_so (sg q) = 0
    · rw [if_pos h0]
      refine ⟨fun z => ?_, fun z => absurd h0 (by rw [z.2, e59]; decide)⟩
      by_cases h9 : 9 < tk_e sg L q - q
      · rw [if_pos h9] at z; exact absurd z (by decide)
      · rw [if_neg h9] at z
        obtain ⟨e1, e2⟩ := jw_let hl2 h0 h9
        rw [e1] at z
        exact absurd z (lN_neg e2 (by decide))
    · rw [if_neg h0]
      by_cases h1 : tk_so (sg q) = 1
      · rw [if_pos h1]
        refine ⟨fun z => ?_, fun z => absurd h1 (by rw [z.2, e59]; decide)⟩
        split at z <;> exact absurd z (by decide)
      · rw [if_neg h1]
        refine ⟨fun z => ?_, fun z => if_pos z.2⟩
        split at z
        · next h => exact ⟨hl, h⟩
        · exact absurd z (by decide)
theorem jx_n_1 (sg : Nat → Int32) (L : Nat) (X : jx_X) : (jx_n sg L X).1 = (tk_t sg L X.1).2 ∧ (jx_n sg L X).2.1 = (tk_t sg L X.1).1 ∧ (jx_n sg L X).2.2.2.2.2 = X.2.2.2.2.2 := ⟨rfl, rfl, rfl⟩
