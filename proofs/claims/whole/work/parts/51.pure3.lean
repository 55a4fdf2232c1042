/-! THE TWO COMPUTE THE SAME: what is spread, odds -/
theorem gv_cong {a : Nat} {v : Int64} {th th2 : Nat → Int64} (h : ∀ j, j < 12 → th j = th2 j) : ∀ k, k ≤ 12 → ∀ j, j < 12 → j2_gv a v th k j = j2_gv a v th2 k j := by
  intro k
  induction k with
  | zero => intro _ j hj; exact h j hj
  | succ k ih =>
    intro hk j hj
    rw [j2_gv, j2_gv]
    by_cases z : a.testBit k = true
    · rw [if_pos z, if_pos z]
      by_cases e : j = k
      · subst e; rw [jU_at, jU_at, ih (by omega) j hj]
      · rw [jU_ne _ _ e, jU_ne _ _ e]; exact ih (by omega) j hj
    · rw [if_neg z, if_neg z]; exact ih (by omega) j hj
theorem rw_cong {gl : Nat → Nat} {sv : Nat → Int64 → Int64} {P Q : j2_P} (h1 : ∀ j, j < 12 → P.1 j = Q.1 j) (h2 : ∀ j, j < 12 → P.2 j = Q.2 j) : ∀ k, k ≤ 12 → ∀ j, j < 12 → j2_rw gl sv P k j = j2_rw gl sv Q k j := by
  intro k
  induction k with
  | zero => intro _ j hj; exact h2 j hj
  | succ k ih =>
    intro hk j hj
    rw [j2_rw, j2_rw, h1 k (by omega)]
    exact gv_cong (ih (by omega)) 12 (Nat.le_refl 12) j hj
theorem wk_e (gl : Nat → Nat) (sv : Nat → Int64 → Int64) {P Q : j2_P} (h1 : ∀ j, j < 12 → P.1 j = Q.1 j) (h2 : ∀ j, j < 12 → P.2 j = 0) : ∀ n, (∀ j, j < 12 → (j2_wk gl sv P n).1 j = (j7_wk gl sv Q n).1 j) ∧ ∀ j, j < 12 → (j2_wk gl sv P n).2 j = 0 := by
  intro n
  induction n with
  | zero => exact ⟨h1, h2⟩
  | succ n ih =>
    obtain ⟨i1, i2⟩ := ih
    rw [j2_wk, j7_wk]
    generalize j2_wk gl sv P n = P2 at i1 i2 ⊢
    generalize j7_wk gl sv Q n = Q2 at i1 ⊢
    refine ⟨fun j hj => ?_, fun j hj => ?_⟩
    · show jF (j2_rw gl sv P2 12) P2.1 12 j = jF (j2_rw gl sv (Q2.1, jF (fun _ => 0) Q2.2 12) 12) Q2.1 12 j
      rw [jF_in hj, jF_in hj]
      exact rw_cong (Q := (Q2.1, jF (fun _ => 0) Q2.2 12)) i1 (fun j hj => by
        rw [i2 j hj]
        show (0 : Int64) = jF (fun _ => 0) Q2.2 12 j
        rw [jF_in hj]) 12 (Nat.le_refl 12) j hj
    · show jF (fun _ => (0 : Int64)) (j2_rw gl sv P2 12) 12 j = 0
      rw [jF_in hj]
/-- ways: the same -/
theorem walks_e (gl : Nat → Nat) (sv : Nat → Int64 → Int64) (s : jj_S) (x n : Nat) {y : Nat} (hy : y < 12) : (j2_wk gl sv (j2_so x (sh_he s, sh_th s) 12) n).1 y = (j7_wk gl sv (j7_so s x) n).1 y := by
  refine (wk_e gl sv (fun j hj => ?_) (fun j hj => ?_) n).1 y hy
  · show jF (fun f => if f = x then (1 : Int64) else 0) (sh_he s) 12 j = jF (fun f => if f = x then 1 else 0) (mo_now s) 12 j
    rw [jF_in hj, jF_in hj]
  · show jF (fun _ => (0 : Int64)) (sh_th s) 12 j = 0
    rw [jF_in hj]
/-! shares as numbers -/
def n_gv (a v : Nat) (th : Nat → Nat) : Nat → Nat → Nat
  | 0 => th
  | k + 1 => if a.testBit k = true then jU (n_gv a v th k) k (n_gv a v th k k + v) else n_gv a v th k
def n_rw (gl w : Nat → Nat) (P : (Nat → Nat) × (Nat → Nat)) : Nat → Nat → Nat
  | 0 => P.2
  | k + 1 => n_gv (gl k) (P.1 k * w k) (n_rw gl w P k) 12
def sm (f : Nat → Nat) : Nat → Nat
  | 0 => 0
  | k + 1 => sm f k + f k
theorem sm_U {f : Nat → Nat} {k x : Nat} : ∀ n, sm (jU f k x) n + (if k < n then f k else 0) = sm f n + (if k < n then x else 0) := by
  intro n
  induction n with
  | zero => simp [sm]
  | succ n ih =>
    rw [sm, sm]
    by_cases e : k = n
    · subst e
      rw [if_neg (Nat.lt_irrefl k), if_neg (Nat.lt_irrefl k)] at ih
      rw [jU_at, if_pos (Nat.lt_succ_self k), if_pos (Nat.lt_succ_self k)]
      omega
    · rw [jU_ne _ _ (Ne.symm e)]
      by_cases c : k < n
      · rw [if_pos c, if_pos c] at ih
        rw [if_pos (by omega), if_pos (by omega)]
        omega
      · rw [if_neg c, if_neg c] at ih
        rw [if_neg (by omega), if_neg (by omega)]
        omega
theorem sm_gv {a v : Nat} {th : Nat → Nat} : ∀ k, k ≤ 12 → sm (n_gv a v th k) 12 = sm th 12 + v * jb_pcn a k := by
  intro k
  induction k with
  | zero => intro _; show sm th 12 = sm th 12 + v * 0; omega
  | succ k ih =>
    intro hk
    have h1 := ih (by omega)
    rw [n_gv, jb_pcn]
    by_cases z : a.testBit k = true
    · rw [if_pos z, if_pos z]
      have h2 := sm_U (f := n_gv a v th k) (k := k) (x := n_gv a v th k k + v) 12
      rw [if_pos (by omega), if_pos (by omega)] at h2
      rw [Nat.mul_add]
      omega
    · rw [if_neg z, if_neg z]
      exact h1
theorem sm_rw {gl w : Nat → Nat} {P : (Nat → Nat) × (Nat → Nat)} (hw : ∀ k, k < 12 → jb_pc (gl k) * w k ≤ 60) : ∀ k, k ≤ 12 → sm (n_rw gl w P k) 12 ≤ sm P.2 12 + 60 * sm P.1 k := by
  intro k
  induction k with
  | zero => intro _; show sm P.2 12 ≤ sm P.2 12 + 60 * 0; omega
  | succ k ih =>
    intro hk
    have h1 := ih (by omega)
    have e0 : sm P.1 (k + 1) = sm P.1 k + P.1 k := rfl
    rw [n_rw, sm_gv 12 (Nat.le_refl 12), e0]
    have h2 : P.1 k * w k * jb_pcn (gl k) 12 ≤ 60 * P.1 k := by
      have h3 := Nat.mul_le_mul_left (P.1 k) (hw k (by omega))
      have h4 : P.1 k * w k * jb_pcn (gl k) 12 = P.1 k * (jb_pc (gl k) * w k) := by
        show P.1 k * w k * jb_pc (gl k) = _
        rw [Nat.mul_assoc, Nat.mul_comm (w k)]
      rw [h4]
      rw [Nat.mul_comm (P.1 k) 60] at h3
      exact h3
    omega
theorem sm_le {f : Nat → Nat} {y : Nat} : ∀ n, y < n → f y ≤ sm f n := by
  intro n
  induction n with
  | zero => intro h; exact absurd h (Nat.not_lt_zero y)
  | succ n ih =>
    intro h
    rw [sm]
    by_cases e : y = n
    · subst e; omega
    · have := ih (by omega); omega
theorem gv_n {a v : Nat} {th : Nat → Nat} {th2 : Nat → Int64} (h : ∀ j, j < 12 → th2 j = lN (th j)) : ∀ k, k ≤ 12 → ∀ j, j < 12 → j2_gv a (lN v) th2 k j = lN (n_gv a v th k j) := by
  intro k
  induction k with
  | zero => intro _ j hj; exact h j hj
  | succ k ih =>
    intro hk j hj
    rw [j2_gv, n_gv]
    by_cases z : a.testBit k = true
    · rw [if_pos z, if_pos z]
      by_cases e : j = k
      · subst e; rw [jU_at, jU_at, ih (by omega) j hj, lN_add]
      · rw [jU_ne _ _ e, jU_ne _ _ e]; exact ih (by omega) j hj
    · rw [if_neg z, if_neg z]; exact ih (by omega) j hj
theorem rw_n {gl w : Nat → Nat} {sv : Nat → Int64 → Int64} (hs : ∀ k, k < 12 → ∀ v, sv k (lN v) = lN (v * w k)) {P : j2_P} {N : (Nat → Nat) × (Nat → Nat)} (h1 : ∀ j, j < 12 → P.1 j = lN (N.1 j)) (h2 : ∀ j, j < 12 → P.2 j = lN (N.2 j)) : ∀ k, k ≤ 12 → ∀ j, j < 12 → j2_rw gl sv P k j = lN (n_rw gl w N k j) := by
  intro k
  induction k with
  | zero => intro _ j hj; exact h2 j hj
  | succ k ih =>
    intro hk j hj
    rw [j2_rw, n_rw, h1 k (by omega), hs k (by omega)]
    exact gv_n (ih (by omega)) 12 (Nat.le_refl 12) j hj
theorem wk_n {gl w : Nat → Nat} {sv : Nat → Int64 → Int64} (hs : ∀ k, k < 12 → ∀ v, sv k (lN v) = lN (v * w k)) (hw : ∀ k, k < 12 → jb_pc (gl k) * w k ≤ 60) {Q : j2_P} {H0 : Nat → Nat} (h1 : ∀ j, j < 12 → Q.1 j = lN (H0 j)) (h0 : sm H0 12 ≤ 1) : ∀ n, ∃ H : Nat → Nat, (∀ j, j < 12 → (j7_wk gl sv Q n).1 j = lN (H j)) ∧ sm H 12 ≤ 60 ^ n := by
  intro n
  induction n with
  | zero => exact ⟨H0, h1, h0⟩
  | succ n ih =>
    obtain ⟨H, i1, i2⟩ := ih
    rw [j7_wk]
    generalize j7_wk gl sv Q n = Q2 at i1 ⊢
    refine ⟨n_rw gl w (H, fun _ => 0) 12, fun j hj => ?_, ?_⟩
    · show jF (j2_rw gl sv (Q2.1, jF (fun _ => 0) Q2.2 12) 12) Q2.1 12 j = _
      rw [jF_in hj]
      refine rw_n (P := (Q2.1, jF (fun _ => 0) Q2.2 12)) (N := (H, fun _ => 0)) hs i1 (fun j hj => ?_) 12 (Nat.le_refl 12) j hj
      show jF (fun _ => (0 : Int64)) Q2.2 12 j = lN 0
      rw [jF_in hj]
      rfl
    · have h3 := sm_rw (P := (H, fun _ => 0)) hw 12 (Nat.le_refl 12)
      have h4 : sm (fun _ => 0) 12 = 0 := rfl
      have h5 : sm ((H, fun _ => 0) : (Nat → Nat) × (Nat → Nat)).2 12 = 0 := h4
      rw [h5] at h3
      have h6 : sm ((H, fun _ => 0) : (Nat → Nat) × (Nat → Nat)).1 12 = sm H 12 := rfl
      rw [h6] at h3
      rw [Nat.pow_succ]
      omega
/-! Euclid's rests -/
theorem gcd_end : ∀ n a b m, b < 2 ^ n → b < 2 ^ 62 → a < 2 ^ 62 → 2 * n + 1 ≤ m → (0 < a ∨ 0 < b) → ∃ c, 0 < c ∧ c < 2 ^ 62 ∧ j2_ge m (lN a) (lN b) = some (lN c) ∧ j2_gcd m (lN a) (lN b) = lN c := by
  have z0 : ∀ m a, a < 2 ^ 62 → 0 < a → ∃ c, 0 < c ∧ c < 2 ^ 62 ∧ j2_ge m (lN a) (lN 0) = some (lN c) ∧ j2_gcd m (lN a) (lN 0) = lN c := by
    intro m a ha h0
    refine ⟨a, h0, ha, ?_, ?_⟩
    · cases m with
      | zero => exact if_pos (Int64.le_refl _)
      | succ m => exact if_pos (Int64.le_refl _)
    · cases m with
      | zero => rfl
      | succ m => exact if_pos rfl
  have st : ∀ m a b, a < 2 ^ 62 → b < 2 ^ 62 → 0 < b → j2_ge (m + 1) (lN a) (lN b) = j2_ge m (lN b) (lN (a % b)) ∧ j2_gcd (m + 1) (lN a) (lN b) = j2_gcd m (lN b) (lN (a % b)) := by
    intro m a b ha hb h0
    have h1 : ¬ lN b ≤ 0 := fun q => by
      have := (pk_lLE (a := b) (b := 0) (by omega) (by omega)).mp q
      omega
    have h2 : ¬ lN b = 0 := fun q => by
      have := (pk_lEQ (a := b) (b := 0) (by omega) (by omega)).mp q
      omega
    have h3 : lN a - lN a / lN b * lN b = lN (a % b) := pk_lRem (by omega) h0 (by omega)
    constructor
    · rw [j2_ge, if_neg h1, h3]
    · rw [j2_gcd, if_neg h2, h3]
  intro n
  induction n with
  | zero =>
    intro a b m hb _ ha _ h0
    obtain rfl : b = 0 := by
      have : b < 1 := hb
      omega
    exact z0 m a ha (by omega)
  | succ n ih =>
    intro a b m hb hb2 ha hm h0
    by_cases e : b = 0
    · subst e; exact z0 m a ha (by omega)
    · obtain ⟨m1, rfl⟩ : ∃ m1, m = m1 + 1 := ⟨m - 1, by omega⟩
      have hr : a % b < b := Nat.mod_lt _ (by omega)
      obtain ⟨s1, s2⟩ := st m1 a b ha hb2 (by omega)
      rw [s1, s2]
      by_cases e2 : a % b = 0
      · rw [e2]; exact z0 m1 b hb2 (by omega)
      · obtain ⟨m2, rfl⟩ : ∃ m2, m1 = m2 + 1 := ⟨m1 - 1, by omega⟩
        obtain ⟨s3, s4⟩ := st m2 b (a % b) hb2 (by omega) (by omega)
        rw [s3, s4]
        generalize a % b = r at hr e2 ⊢
        have hh : b % r < 2 ^ n := by
          rw [Nat.pow_succ] at hb
          rcases Nat.lt_or_ge b (2 * r) with q | q
          · have : b % r = b - r := by rw [Nat.mod_eq_sub_mod (by omega), Nat.mod_eq_of_lt (by omega)]
            omega
          · have : b % r < r := Nat.mod_lt _ (by omega)
            omega
        exact ih r (b % r) m2 hh (by have : b % r < r := Nat.mod_lt _ (by omega); omega) (by omega) (by omega) (.inl (by omega))
theorem bl_n : ∀ n, j2_bl n = lN (60 ^ n) := by
  intro n
  induction n with
  | zero => rfl
  | succ n ih => rw [j2_bl, ih, Nat.pow_succ]; exact lN_mul (60 ^ n) 60
theorem p60 : ∀ n, n < 9 → 60 ^ n < 2 ^ 50 := by decide +kernel
theorem pc5 : ∀ c, c < 13 → c * j2_sh c ≤ 60 := by decide +kernel
/-- odds: the same -/
theorem odds_e {o : Nat → Nat} (ho : ∀ f, f < 12 → o f < 4096) (s : jj_S) {x y n : Nat} (q : Int32) (hx : x < 12) (hy : y < 12) (hn : n < 9) : ∃ c, ¬ c = 0 ∧ j2_ge 200 ((j7_wk (j2_gl o) (j7_sv1 o) (j7_so s x) n).1 y) (j2_bl n) = some c ∧
    j2_od (j2_gcd 200 ((j6_wk o s x n).1 y) (j2_bl n)) ((j6_wk o s x n).1 y) (j2_bl n) q = if q = 0 then (j7_wk (j2_gl o) (j7_sv1 o) (j7_so s x) n).1 y / c else j2_bl n / c := by
  have hgl : ∀ k, k < 12 → j2_gl o k < 4096 := fun k hk => j2_gl_lt ho hk
  have hw : ∀ k, k < 12 → jb_pc (j2_gl o k) * j2_sh (jb_pc (j2_gl o k)) ≤ 60 := fun k hk => pc5 _ (by have := jb_pc_le (j2_gl o k); omega)
  have hsh : ∀ c, c < 13 → (nI (j2_sh c)).toInt64 = lN (j2_sh c) := by decide +kernel
  have hs : ∀ k, k < 12 → ∀ v, j7_sv1 o k (lN v) = lN (v * j2_sh (jb_pc (j2_gl o k))) := fun k hk v => by
    unfold j7_sv1
    rw [hsh _ (by have := jb_pc_le (j2_gl o k); omega), lN_mul]
  obtain ⟨H, h1, h2⟩ := wk_n (gl := j2_gl o) (w := fun k => j2_sh (jb_pc (j2_gl o k))) (sv := j7_sv1 o) hs hw (Q := j7_so s x) (H0 := fun f => if f = x then 1 else 0) (fun j hj => by
    show jF (fun f => if f = x then (1 : Int64) else 0) (mo_now s) 12 j = lN (if j = x then 1 else 0)
    rw [jF_in hj]
    split <;> rfl) (by
    have : ∀ x, x < 12 → sm (fun f => if f = x then 1 else 0) 12 ≤ 1 := by decide +kernel
    exact this x hx) n
  have e1 : (j6_wk o s x n).1 y = (j7_wk (j2_gl o) (j7_sv1 o) (j7_so s x) n).1 y := walks_e _ _ s x n hy
  have h3 := sm_le (f := H) 12 hy
  have h4 := p60 n hn
  rw [e1, h1 y hy, bl_n]
  have hB : 0 < 60 ^ n := Nat.pow_pos (by decide)
  obtain ⟨c, c0, c1, c2, c3⟩ := gcd_end 62 (H y) (60 ^ n) 200 (by omega) (by omega) (by omega) (by decide) (.inr hB)
  have c4 : ¬ lN c = 0 := fun z => by
    have := (pk_lEQ (a := c) (b := 0) (by omega) (by omega)).mp z
    omega
  refine ⟨lN c, c4, c2, ?_⟩
  unfold j2_od
  rw [c3, if_neg c4]
