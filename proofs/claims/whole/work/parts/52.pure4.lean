/-! THE TWO COMPUTE THE SAME: rounds -/
/-- the two searches stand alike: rows below d, how many, the first -/
def rR (d : Nat) (A B : j5_T) : Prop := (∀ j, j < d → A.1 j = B.1 j) ∧ A.2.2 = B.2.2 ∧ (¬ A.2.2 = 0 → ∀ i, i < 12 → A.2.1 i = B.2.1 i)
theorem lp7_s (f : Nat → j5_T → j5_T) : ∀ m k T, j7_lp f (m + 1) k T = f (k + m) (j7_lp f m k T) := by
  intro m
  induction m with
  | zero => intro k T; rfl
  | succ m ih =>
    intro k T
    have e : j7_lp f (m + 1 + 1) k T = j7_lp f (m + 1) (k + 1) (f k T) := rfl
    have e2 : j7_lp f (m + 1) k T = j7_lp f m (k + 1) (f k T) := rfl
    rw [e, ih (k + 1) (f k T), e2, show k + 1 + m = k + (m + 1) by omega]
theorem rR_U {d : Nat} {A B : j5_T} (h : rR d A B) (x y : Nat) (e : x = y) : rR (d + 1) (jU A.1 d x, A.2) (jU B.1 d y, B.2) := by
  subst e
  refine ⟨fun j hj => ?_, h.2.1, h.2.2⟩
  show jU A.1 d x j = jU B.1 d x j
  by_cases c : j = d
  · subst c; rw [jU_at, jU_at]
  · rw [jU_ne _ _ c, jU_ne _ _ c]; exact h.1 j (by omega)
/-- rows kept below d, all else -/
theorem rR_less {d e : Nat} {A B : j5_T} (h : rR d A B) (he : e ≤ d) : rR e A B := ⟨fun j hj => h.1 j (by omega), h.2⟩
/-- where no last is left nothing is counted -/
theorem gr7_none {o : Nat → Nat} (hs : ∀ f, f < 12 → ∀ g, g < 12 → (o f).testBit g = true → (o g).testBit f = true) (ho : ∀ f, f < 12 → o f < 4096) : ∀ n d u (T : j5_T), d + n = 11 → 2 ≤ d → (∀ k, k < 12 → T.1 1 < k → (o 0).testBit k = true → u.testBit k = true) → (j7_gr o n d u T).2 = T.2 := by
  have lp : ∀ (f : Nat → j5_T → j5_T) (u d : Nat) (T0 : j5_T), 2 ≤ d → (∀ k T, ¬ u.testBit k = true → k < 12 → T.1 1 = T0.1 1 → (f k T).2 = T.2 ∧ (f k T).1 1 = T0.1 1) → ∀ m T, m ≤ 11 → T.1 1 = T0.1 1 → (j7_lp (j7_v o f u (d - 1)) m 1 T).2 = T.2 ∧ (j7_lp (j7_v o f u (d - 1)) m 1 T).1 1 = T0.1 1 := by
    intro f u d T0 hd hf m
    induction m with
    | zero => intro T _ h; exact ⟨rfl, h⟩
    | succ m ih =>
      intro T hm h
      obtain ⟨i1, i2⟩ := ih T (by omega) h
      rw [lp7_s]
      generalize j7_lp (j7_v o f u (d - 1)) m 1 T = T2 at i1 i2 ⊢
      unfold j7_v
      by_cases z : u.testBit (1 + m) = true ∨ ¬ (o (T2.1 (d - 1))).testBit (1 + m) = true
      · rw [if_pos z]; exact ⟨i1, i2⟩
      · rw [if_neg z]
        obtain ⟨a, b⟩ := hf (1 + m) T2 (fun q => z (.inl q)) (by omega) i2
        exact ⟨a.trans i1, b⟩
  intro n
  induction n with
  | zero =>
    intro d u T hd hd2 hu
    unfold j7_gr j7_fin
    refine (lp _ u d T hd2 (fun k T2 hk hk12 h1 => ?_) 11 T (Nat.le_refl 11) rfl).1
    have e1 : (jU T2.1 d k) 1 = T2.1 1 := jU_ne _ _ (by omega)
    have e2 : j7_en o k (jU T2.1 d k, T2.2) = (jU T2.1 d k, T2.2) := by
      refine if_neg (fun q => hk (hu k hk12 ?_ ?_))
      · have q1 : jU T2.1 d k 1 < k := q.1
        rw [e1, h1] at q1
        exact q1
      · exact hs k hk12 0 (by decide) q.2
    rw [e2]
    exact ⟨rfl, e1.trans h1⟩
  | succ n ih =>
    intro d u T hd hd2 hu
    unfold j7_gr j7_fin
    refine (lp _ u d T hd2 (fun k T2 hk hk12 h1 => ?_) 11 T (Nat.le_refl 11) rfl).1
    have e1 : (jU (jU T2.1 d k) (d + 1) 0) 1 = T2.1 1 := by rw [jU_ne _ _ (by omega), jU_ne _ _ (by omega)]
    constructor
    · refine ih (d + 1) (u ||| 2 ^ k) (jU (jU T2.1 d k) (d + 1) 0, T2.2) (by omega) (by omega) (fun i hi h3 h4 => ?_)
      have h3' : jU (jU T2.1 d k) (d + 1) 0 1 < i := h3
      rw [e1, h1] at h3'
      rw [Nat.testBit_or, hu i hi h3' h4, Bool.true_or]
    · rw [j7_gr_keep o n (d + 1) _ _ 1 (by omega)]
      exact e1.trans h1
theorem nv_bit {a u k : Nat} (ha : a < 4096) (hk : k < 12) : (a &&& (4095 ^^^ u)).testBit k = true ↔ a.testBit k = true ∧ ¬ u.testBit k = true := by
  have e : ∀ i, i < 12 → (4095 : Nat).testBit i = true := by decide
  rw [Nat.testBit_and, Nat.testBit_xor, e k hk]
  cases a.testBit k <;> cases u.testBit k <;> simp
theorem la_bit {a k i : Nat} (hk : k < 12) (hi : i < 12) : (j5_la a k).testBit i = true ↔ a.testBit i = true ∧ k < i := by
  unfold j5_la
  rw [Nat.testBit_and, j5_la2 k hk i hi, Bool.and_eq_true, decide_eq_true_iff]
  exact and_congr_right fun _ => Iff.rfl
theorem gr_rel {o : Nat → Nat} (hs : ∀ f, f < 12 → ∀ g, g < 12 → (o f).testBit g = true → (o g).testBit f = true) (ho : ∀ f, f < 12 → o f < 4096) : ∀ n d u l (A B : j5_T), d + n = 11 → 2 ≤ d → rR d A B → B.1 1 < 12 → l = j5_la (o 0) (B.1 1) → (∀ j, j < d → B.1 j < 12) → u < 4096 → rR d (j5_gr o l (n + 1) d u A) (j7_gr o n d u B) := by
  -- a loop over all fields, on both sides
  have lp : ∀ (f5 f7 : Nat → j5_T → j5_T) (d u nx : Nat) (B0 : j5_T), 2 ≤ d → d < 12 → u < 4096 → nx = o (B0.1 (d - 1)) &&& (4095 ^^^ u) → o (B0.1 (d - 1)) < 4096 →
      (∀ k A B, 1 ≤ k → k < 12 → rR d A B → (∀ j, j < d → B.1 j = B0.1 j) → rR d (f5 k A) (f7 k B) ∧ ∀ j, j < d → (f7 k B).1 j = B0.1 j) →
      ∀ m A B, m ≤ 11 → rR d A B → (∀ j, j < d → B.1 j = B0.1 j) → rR d (j5_lp f5 nx m A) (j7_lp (j7_v o f7 u (d - 1)) m 1 B) ∧ ∀ j, j < d → (j7_lp (j7_v o f7 u (d - 1)) m 1 B).1 j = B0.1 j := by
    intro f5 f7 d u nx B0 hd hd2 hu hnx hlt hf m
    induction m with
    | zero => intro A B _ h h2; exact ⟨h, h2⟩
    | succ m ih =>
      intro A B hm h h2
      obtain ⟨i1, i2⟩ := ih A B (by omega) h h2
      rw [lp7_s, j5_lp, show 1 + m = m + 1 by omega]
      generalize j5_lp f5 nx m A = A2 at i1 ⊢
      generalize j7_lp (j7_v o f7 u (d - 1)) m 1 B = B2 at i1 i2 ⊢
      unfold j7_v
      rw [i2 (d - 1) (by omega)]
      have hb := nv_bit (u := u) hlt (show m + 1 < 12 by omega)
      rw [← hnx] at hb
      by_cases z : nx.testBit (m + 1) = true
      · rw [if_pos z, if_neg (fun q => q.elim (hb.mp z).2 (fun y => y (hb.mp z).1))]
        exact hf (m + 1) A2 B2 (by omega) (by omega) i1 i2
      · rw [if_neg z, if_pos]
        · exact ⟨i1, i2⟩
        · by_cases y : u.testBit (m + 1) = true
          · exact .inl y
          · exact .inr (fun w => z (hb.mpr ⟨w, y⟩))
  intro n
  induction n with
  | zero =>
    intro d u l A B hd hd2 hR h1 hl hB hu
    obtain rfl : d = 11 := hd
    have hq := ho _ (hB 10 (by decide))
    unfold j7_gr
    rw [show j5_gr o l (0 + 1) 11 u A = if l &&& (4095 ^^^ u) = 0 then A else j5_lp (fun k T => j5_gr o l 0 (11 + 1) (u ||| 2 ^ k) (jU T.1 11 k, T.2)) (o (A.1 (11 - 1)) &&& (4095 ^^^ u)) 11 A from rfl]
    have fin : ∀ {A B : j5_T}, rR 11 A B → rR 11 A (j7_fin 11 B) := fun h => ⟨fun j hj => (h.1 j hj).trans (j7_fin_keep _ hj).symm, h.2.1, h.2.2⟩
    by_cases z : l &&& (4095 ^^^ u) = 0
    · rw [if_pos z]
      have hn := gr7_none hs ho 0 11 u B rfl (by decide) (fun k hk hk1 hk0 => by
        apply Classical.byContradiction
        intro w
        have hll : l < 4096 := by rw [hl]; exact Nat.lt_of_le_of_lt Nat.and_le_left (ho 0 (by decide))
        have := (nv_bit (u := u) hll hk).mpr ⟨by rw [hl]; exact (la_bit h1 hk).mpr ⟨hk0, hk1⟩, w⟩
        rw [z, Nat.zero_testBit] at this
        exact absurd this (by decide))
      have hk := j7_gr_keep o 0 11 u B
      unfold j7_gr at hn hk
      exact ⟨fun j hj => (hR.1 j hj).trans (hk j hj).symm, by rw [hn]; exact hR.2.1, by rw [hn]; exact hR.2.2⟩
    · rw [if_neg z]
      refine fin (lp _ _ 11 u _ B (by decide) (by decide) hu (by rw [hR.1 (11 - 1) (by decide)]) hq (fun k A2 B2 hk1 hk hR2 hB2 => ?_) 11 A B (Nat.le_refl 11) hR (fun _ _ => rfl)).1
      have hU := rR_U hR2 k k rfl
      constructor
      · show rR 11 (j5_end l (jU A2.1 11 k, A2.2)) (j7_en o k (jU B2.1 11 k, B2.2))
        unfold j5_end j7_en
        have e1 : (jU A2.1 11 k) 11 = k := jU_at _ _ _
        have e2 : (jU B2.1 11 k) 1 = B.1 1 := (jU_ne _ _ (by decide)).trans (hB2 1 (by decide))
        have c : l.testBit (((jU A2.1 11 k, A2.2) : j5_T).1 11) = true ↔ ((jU B2.1 11 k, B2.2) : j5_T).1 1 < k ∧ (o k).testBit 0 = true := by
          show l.testBit (jU A2.1 11 k 11) = true ↔ jU B2.1 11 k 1 < k ∧ (o k).testBit 0 = true
          rw [e1, e2, hl, la_bit h1 hk]
          exact ⟨fun q => ⟨q.2, hs 0 (by decide) k hk q.1⟩, fun q => ⟨hs k hk 0 (by decide) q.2, q.1⟩⟩
        by_cases y : l.testBit (((jU A2.1 11 k, A2.2) : j5_T).1 11) = true
        · rw [if_pos y, if_pos (c.mp y)]
          refine ⟨fun j hj => hU.1 j (by omega), by show A2.2.2 + 1 = B2.2.2 + 1; rw [hR2.2.1], fun _ i hi => ?_⟩
          show (if A2.2.2 = 0 then jF (fun j => nI (jU A2.1 11 k j)) A2.2.1 12 else A2.2.1) i = (if B2.2.2 = 0 then jF (fun j => nI (jU B2.1 11 k j)) B2.2.1 12 else B2.2.1) i
          rw [← hR2.2.1]
          by_cases w : A2.2.2 = 0
          · rw [if_pos w, if_pos w, jF_in hi, jF_in hi]
            exact congrArg nI (hU.1 i hi)
          · rw [if_neg w, if_neg w]
            exact hR2.2.2 w i hi
        · rw [if_neg y, if_neg (fun q => y (c.mpr q))]
          exact rR_less hU (by decide)
      · intro j hj
        rw [j7_en_1]
        exact (jU_ne _ _ (by omega)).trans (hB2 j hj)
  | succ n ih =>
    intro d u l A B hd hd2 hR h1 hl hB hu
    have hd12 : d < 12 := by omega
    have hq := ho _ (hB (d - 1) (by omega))
    have hn0 := gr7_none hs ho (n + 1) d u B hd hd2
    have hk0 := j7_gr_keep o (n + 1) d u B
    unfold j7_gr at hn0 hk0 ⊢
    rw [show j5_gr o l (n + 1 + 1) d u A = if l &&& (4095 ^^^ u) = 0 then A else j5_lp (fun k T => j5_gr o l (n + 1) (d + 1) (u ||| 2 ^ k) (jU T.1 d k, T.2)) (o (A.1 (d - 1)) &&& (4095 ^^^ u)) 11 A from rfl]
    have fin : ∀ {A B : j5_T}, rR d A B → rR d A (j7_fin d B) := fun h => ⟨fun j hj => (h.1 j hj).trans (j7_fin_keep _ hj).symm, h.2.1, h.2.2⟩
    by_cases z : l &&& (4095 ^^^ u) = 0
    · rw [if_pos z]
      have hn := hn0 (fun k hk hk1 hk0 => by
        apply Classical.byContradiction
        intro w
        have hll : l < 4096 := by rw [hl]; exact Nat.lt_of_le_of_lt Nat.and_le_left (ho 0 (by decide))
        have := (nv_bit (u := u) hll hk).mpr ⟨by rw [hl]; exact (la_bit h1 hk).mpr ⟨hk0, hk1⟩, w⟩
        rw [z, Nat.zero_testBit] at this
        exact absurd this (by decide))
      exact ⟨fun j hj => (hR.1 j hj).trans (hk0 j hj).symm, by rw [hn]; exact hR.2.1, by rw [hn]; exact hR.2.2⟩
    · rw [if_neg z]
      refine fin (lp _ _ d u _ B hd2 hd12 hu (by rw [hR.1 (d - 1) (by omega)]) hq (fun k A2 B2 hk1 hk hR2 hB2 => ?_) 11 A B (Nat.le_refl 11) hR (fun _ _ => rfl)).1
      have hU := rR_U hR2 k k rfl
      have hU2 : rR (d + 1) (jU A2.1 d k, A2.2) (jU (jU B2.1 d k) (d + 1) 0, B2.2) := ⟨fun j hj => (hU.1 j hj).trans (jU_ne _ _ (by omega)).symm, hU.2⟩
      have e1 : (jU (jU B2.1 d k) (d + 1) 0) 1 = B.1 1 := by rw [jU_ne _ _ (by omega), jU_ne _ _ (by omega)]; exact hB2 1 (by omega)
      constructor
      · refine rR_less (ih (d + 1) (u ||| 2 ^ k) l (jU A2.1 d k, A2.2) (jU (jU B2.1 d k) (d + 1) 0, B2.2) (by omega) (by omega) hU2 ?_ ?_ (fun j hj => ?_) (jor_lt hu hk)) (by omega)
        · show jU (jU B2.1 d k) (d + 1) 0 1 < 12
          rw [e1]; exact h1
        · show l = j5_la (o 0) (jU (jU B2.1 d k) (d + 1) 0 1)
          rw [e1]; exact hl
        · show jU (jU B2.1 d k) (d + 1) 0 j < 12
          rw [jU_ne _ _ (by omega)]
          by_cases c : j = d
          · subst c; rw [jU_at]; exact hk
          · rw [jU_ne _ _ c, hB2 j (by omega)]; exact hB j (by omega)
      · intro j hj
        show (j7_gr o n (d + 1) (u ||| 2 ^ k) (jU (jU B2.1 d k) (d + 1) 0, B2.2)).1 j = B.1 j
        rw [j7_gr_keep o n (d + 1) _ _ j (by omega)]
        show jU (jU B2.1 d k) (d + 1) 0 j = B.1 j
        rw [jU_ne _ _ (by omega), jU_ne _ _ (by omega)]
        exact hB2 j hj
/-- all rounds -/
theorem fs_rel {o : Nat → Nat} (hs : ∀ f, f < 12 → ∀ g, g < 12 → (o f).testBit g = true → (o g).testBit f = true) (ho : ∀ f, f < 12 → o f < 4096) (r0 r1 : Nat → Nat) (f0 f1 : Nat → Int32) :
    rR 1 (j5_fs o 11 (jU r0 0 0, f0, 0)) (j7_gr o 10 1 1 (jU (jU r1 0 0) 1 0, f1, 0)) := by
  have hb0 : ∀ k, k < 12 → 1 ≤ k → ¬ (1 : Nat).testBit k = true := by decide
  have hb1 : ∀ k, 1 ≤ k → k < 12 → ¬ (1 : Nat).testBit k = true := fun k h1 h2 => hb0 k h2 h1
  have key : ∀ m, m ≤ 11 → rR 1 (j5_fs o m (jU r0 0 0, f0, 0)) (j7_lp (j7_v o (fun k T => j7_gr o 9 (1 + 1) (1 ||| 2 ^ k) (jU (jU T.1 1 k) (1 + 1) 0, T.2)) 1 (1 - 1)) m 1 (jU (jU r1 0 0) 1 0, f1, 0)) ∧ (j7_lp (j7_v o (fun k T => j7_gr o 9 (1 + 1) (1 ||| 2 ^ k) (jU (jU T.1 1 k) (1 + 1) 0, T.2)) 1 (1 - 1)) m 1 (jU (jU r1 0 0) 1 0, f1, 0)).1 0 = 0 := by
    intro m
    induction m with
    | zero =>
      intro _
      refine ⟨⟨fun j hj => ?_, rfl, fun h => absurd rfl h⟩, ?_⟩
      · obtain rfl : j = 0 := by omega
        show jU r0 0 0 0 = jU (jU r1 0 0) 1 0 0
        rw [jU_at, jU_ne _ _ (by decide), jU_at]
      · show jU (jU r1 0 0) 1 0 0 = 0
        rw [jU_ne _ _ (by decide), jU_at]
    | succ m ih =>
      intro hm
      obtain ⟨i1, i2⟩ := ih (by omega)
      rw [lp7_s, j5_fs, show 1 + m = m + 1 by omega]
      generalize j5_fs o m (jU r0 0 0, f0, 0) = A at i1 ⊢
      generalize j7_lp (j7_v o (fun k T => j7_gr o 9 (1 + 1) (1 ||| 2 ^ k) (jU (jU T.1 1 k) (1 + 1) 0, T.2)) 1 (1 - 1)) m 1 (jU (jU r1 0 0) 1 0, f1, 0) = B at i1 i2 ⊢
      unfold j7_v
      rw [show B.1 (1 - 1) = 0 from i2]
      have hk : m + 1 < 12 := by omega
      by_cases z : (o 0).testBit (m + 1) = true
      · rw [if_pos z, if_neg (fun q => q.elim (hb1 (m + 1) (by omega) hk) (fun y => y z))]
        have hU := rR_U i1 (m + 1) (m + 1) rfl
        have hU2 : rR 2 (jU A.1 1 (m + 1), A.2) (jU (jU B.1 1 (m + 1)) 2 0, B.2) := ⟨fun j hj => (hU.1 j hj).trans (jU_ne _ _ (by omega)).symm, hU.2⟩
        have e1 : (jU (jU B.1 1 (m + 1)) 2 0) 1 = m + 1 := by rw [jU_ne _ _ (by decide), jU_at]
        constructor
        · refine rR_less (gr_rel hs ho 9 2 (1 ||| 2 ^ (m + 1)) (j5_la (o 0) (m + 1)) _ (jU (jU B.1 1 (m + 1)) 2 0, B.2) rfl (by decide) hU2 ?_ ?_ (fun j hj => ?_) (jor_lt (by decide) hk)) (by decide)
          · show jU (jU B.1 1 (m + 1)) 2 0 1 < 12
            rw [e1]; exact hk
          · show _ = j5_la (o 0) (jU (jU B.1 1 (m + 1)) 2 0 1)
            rw [e1]
          · show jU (jU B.1 1 (m + 1)) 2 0 j < 12
            rw [jU_ne _ _ (by omega)]
            by_cases c : j = 1
            · subst c; rw [jU_at]; exact hk
            · obtain rfl : j = 0 := by omega
              rw [jU_ne _ _ (by decide), i2]; decide
        · show (j7_gr o 9 2 (1 ||| 2 ^ (m + 1)) (jU (jU B.1 1 (m + 1)) 2 0, B.2)).1 0 = 0
          rw [j7_gr_keep o 9 2 _ _ 0 (by decide)]
          show jU (jU B.1 1 (m + 1)) 2 0 0 = 0
          rw [jU_ne _ _ (by decide), jU_ne _ _ (by decide)]
          exact i2
      · rw [if_neg z, if_pos (.inr z)]
        exact ⟨i1, i2⟩
  have h := (key 11 (Nat.le_refl 11)).1
  have e : j7_gr o 10 1 1 (jU (jU r1 0 0) 1 0, f1, 0) = j7_fin 1 (j7_lp (j7_v o (fun k T => j7_gr o 9 (1 + 1) (1 ||| 2 ^ k) (jU (jU T.1 1 k) (1 + 1) 0, T.2)) 1 (1 - 1)) 11 1 (jU (jU r1 0 0) 1 0, f1, 0)) := rfl
  rw [e]
  exact ⟨fun j hj => (h.1 j hj).trans (j7_fin_keep _ hj).symm, h.2.1, h.2.2⟩
/-! how many rounds at most -/
def rN (c : Nat) (T : j5_T) : Prop := ∃ n, n ≤ c ∧ T.2.2 = nI n
theorem rN_le {c d : Nat} {T : j5_T} (h : rN c T) (hcd : c ≤ d) : rN d T := by
  obtain ⟨n, a, b⟩ := h
  exact ⟨n, by omega, b⟩
theorem lp5_n {f : Nat → j5_T → j5_T} {nx X : Nat} (hf : ∀ k T c, k < 12 → rN c T → rN (c + X) (f k T)) : ∀ m T c, m ≤ 11 → rN c T → rN (c + X * jb_pcn nx (m + 1)) (j5_lp f nx m T) := by
  intro m
  induction m with
  | zero => intro T c _ h; exact rN_le h (Nat.le_add_right _ _)
  | succ m ih =>
    intro T c hm h
    have h1 := ih T c (by omega) h
    rw [j5_lp, jb_pcn]
    by_cases z : nx.testBit (m + 1) = true
    · rw [if_pos z, if_pos z]
      refine rN_le (hf (m + 1) _ _ (by omega) h1) ?_
      rw [Nat.mul_add]
      omega
    · rw [if_neg z, if_neg z]
      exact h1
theorem gr5_n {o : Nat → Nat} (l : Nat) (hp : ∀ f, f < 12 → jb_pc (o f) ≤ 5) : ∀ n d u T c, d + n = 12 → 1 ≤ d → (∀ j, j < d → T.1 j < 12) → rN c T → rN (c + 5 ^ n) (j5_gr o l n d u T) := by
  intro n
  induction n with
  | zero =>
    intro d u T c _ _ _ h
    show rN (c + 1) (j5_end l T)
    unfold j5_end
    split
    · obtain ⟨k, a, b⟩ := h
      refine ⟨k + 1, by omega, ?_⟩
      show T.2.2 + 1 = nI (k + 1)
      rw [b]
      exact nI_add k 1
    · exact rN_le h (by omega)
  | succ n ih =>
    intro d u T c hd hd1 hT h
    unfold j5_gr
    split
    · exact rN_le h (Nat.le_add_right _ _)
    · have key : ∀ m T2 c, m ≤ 11 → (∀ j, j < d → T2.1 j < 12) → rN c T2 → rN (c + 5 ^ n * jb_pcn (o (T.1 (d - 1)) &&& (4095 ^^^ u)) (m + 1)) (j5_lp (fun k T => j5_gr o l n (d + 1) (u ||| 2 ^ k) (jU T.1 d k, T.2)) (o (T.1 (d - 1)) &&& (4095 ^^^ u)) m T2) := by
        intro m
        induction m with
        | zero => intro T2 c _ _ h; exact rN_le h (Nat.le_add_right _ _)
        | succ m ihm =>
          intro T2 c hm hT2 h
          have h1 := ihm T2 c (by omega) hT2 h
          have hk := j5_lp_keep (f := fun k T => j5_gr o l n (d + 1) (u ||| 2 ^ k) (jU T.1 d k, T.2)) (nx := o (T.1 (d - 1)) &&& (4095 ^^^ u)) (d := d) (fun k T j hj => by
            show (j5_gr o l n (d + 1) (u ||| 2 ^ k) (jU T.1 d k, T.2)).1 j = T.1 j
            rw [j5_gr_keep o l n (d + 1) _ _ j (by omega)]
            exact jU_ne _ _ (by omega)) T2 m
          rw [j5_lp, jb_pcn]
          generalize j5_lp (fun k T => j5_gr o l n (d + 1) (u ||| 2 ^ k) (jU T.1 d k, T.2)) (o (T.1 (d - 1)) &&& (4095 ^^^ u)) m T2 = T3 at h1 hk ⊢
          by_cases z : (o (T.1 (d - 1)) &&& (4095 ^^^ u)).testBit (m + 1) = true
          · rw [if_pos z, if_pos z]
            refine rN_le (ih (d + 1) (u ||| 2 ^ (m + 1)) (jU T3.1 d (m + 1), T3.2) _ (by omega) (by omega) (fun j hj => ?_) h1) ?_
            · show jU T3.1 d (m + 1) j < 12
              by_cases e : j = d
              · subst e; rw [jU_at]; omega
              · rw [jU_ne _ _ e, hk j (by omega)]; exact hT2 j (by omega)
            · rw [Nat.mul_add]; omega
          · rw [if_neg z, if_neg z]
            exact h1
      refine rN_le (key 11 T c (Nat.le_refl 11) hT h) ?_
      have h2 := hp _ (hT (d - 1) (by omega))
      have h3 : jb_pcn (o (T.1 (d - 1)) &&& (4095 ^^^ u)) (11 + 1) ≤ jb_pcn (o (T.1 (d - 1))) 12 := pcn_mono (fun i hi => by rw [Nat.testBit_and, Bool.and_eq_true] at hi; exact hi.1) 12
      have h4 : jb_pcn (o (T.1 (d - 1)) &&& (4095 ^^^ u)) (11 + 1) ≤ 5 := Nat.le_trans h3 h2
      have h5 := Nat.mul_le_mul_left (5 ^ n) h4
      rw [Nat.pow_succ]
      omega
theorem fs5_n {o : Nat → Nat} (hp : ∀ f, f < 12 → jb_pc (o f) ≤ 5) (r0 : Nat → Nat) (f0 : Nat → Int32) : ∀ m, m ≤ 11 → rN (m * 5 ^ 10) (j5_fs o m (jU r0 0 0, f0, 0)) := by
  intro m
  induction m with
  | zero => intro _; exact ⟨0, Nat.le_refl _, rfl⟩
  | succ m ih =>
    intro hm
    have h := ih (by omega)
    have hk := j5_fs_keep o (jU r0 0 0, f0, 0) m
    have e0 : ((jU r0 0 0, f0, 0) : j5_T).1 0 = 0 := jU_at r0 0 0
    rw [e0] at hk
    rw [j5_fs]
    generalize j5_fs o m (jU r0 0 0, f0, 0) = T at h hk ⊢
    split
    · refine rN_le (gr5_n _ hp 10 2 _ (jU T.1 1 (m + 1), T.2) _ rfl (by decide) (fun j hj => ?_) h) (by rw [Nat.succ_mul]; exact Nat.le_refl _)
      show jU T.1 1 (m + 1) j < 12
      by_cases e : j = 1
      · subst e; rw [jU_at]; omega
      · obtain rfl : j = 0 := by omega
        rw [jU_ne _ _ (by decide), hk]; decide
    · exact rN_le h (Nat.mul_le_mul_right _ (by omega))
theorem pcn_or (a i : Nat) : ∀ k, jb_pcn (a ||| 2 ^ i) k ≤ jb_pcn a k + (if i < k then 1 else 0) := by
  intro k
  induction k with
  | zero => exact Nat.zero_le _
  | succ k ih =>
    rw [jb_pcn, jb_pcn, Nat.testBit_or, Nat.testBit_two_pow]
    by_cases e : i = k
    · subst e
      rw [if_neg (Nat.lt_irrefl i)] at ih
      rw [if_pos (Nat.lt_succ_self i)]
      split <;> split <;> omega
    · rw [decide_eq_false e, Bool.or_false]
      by_cases c : i < k
      · rw [if_pos c] at ih
        have e2 : (if i < k + 1 then 1 else 0) = (1 : Nat) := if_pos (by omega)
        rw [e2]
        omega
      · rw [if_neg c] at ih
        have e2 : (if i < k + 1 then 1 else 0) = (0 : Nat) := if_neg (by omega)
        rw [e2]
        omega
theorem o_pc (wl : Nat → Nat → Bool) (f : Nat) : ∀ k, jb_pc (j7_op wl f k) ≤ k := by
  intro k
  induction k with
  | zero => exact Nat.le_of_eq (show jb_pc 0 = 0 by decide)
  | succ k ih =>
    unfold j7_op
    split
    · omega
    · have := pcn_or (j7_op wl f k) (jb_s f k) 12
      have h2 : jb_pcn (j7_op wl f k) 12 ≤ k := ih
      show jb_pcn (j7_op wl f k ||| 2 ^ jb_s f k) 12 ≤ k + 1
      split at this <;> omega
/-- rounds told: how many, the first; the same, whatever stood there -/
theorem rounds_e {wl : Nat → Nat → Bool} (hs : wl_sym wl) (r0 r1 : Nat → Nat) (f0 f1 : Nat → Int32) {T E : j5_T} (hT : j5_fs (j7_o wl) 11 (jU r0 0 0, f0, 0) = T) (hE : j7_gr (j7_o wl) 10 1 1 (jU (jU r1 0 0) 1 0, f1, 0) = E) :
    T.2.2 = E.2.2 ∧ (T.2.2 ≤ 0 ↔ E.2.2 = 0) ∧ (¬ E.2.2 = 0 → ∀ i, i < 12 → T.2.1 i = E.2.1 i) := by
  have h := fs_rel (o := j7_o wl) hs (fun f hf => j7_o_lt wl hf) r0 r1 f0 f1
  have hn := fs5_n (o := j7_o wl) (fun f hf => o_pc wl f 5) r0 f0 11 (Nat.le_refl 11)
  rw [hT, hE] at h
  rw [hT] at hn
  obtain ⟨n, hn1, hn2⟩ := hn
  have hlim : 11 * 5 ^ 10 < 2 ^ 31 := by decide +kernel
  have e0 : n ≤ 0 ↔ nI n = 0 := by
    constructor
    · intro q; obtain rfl : n = 0 := by omega
      rfl
    · intro q
      have := (jb_inj (a := n) (b := 0) (by omega) (by decide)).mp q
      omega
  refine ⟨h.2.1, ?_, fun z => h.2.2 (by rw [h.2.1]; exact z)⟩
  rw [← h.2.1, hn2, ← e0]
  exact nI_leI (a := n) (b := 0) (by omega) (by decide)
