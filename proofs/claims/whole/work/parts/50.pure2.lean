/-! THE TWO COMPUTE THE SAME: insides -/
def bsub (a b : Nat) : Prop := ∀ i, a.testBit i = true → b.testBit i = true
theorem bsub_rf (a : Nat) : bsub a a := fun _ h => h
theorem bsub_tr {a b c : Nat} (h1 : bsub a b) (h2 : bsub b c) : bsub a c := fun i h => h2 i (h1 i h)
theorem bsub_or1 (a b : Nat) : bsub a (a ||| b) := fun i h => by rw [Nat.testBit_or, h, Bool.true_or]
theorem bsub_or2 (a b : Nat) : bsub b (a ||| b) := fun i h => by rw [Nat.testBit_or, h, Bool.or_true]
theorem bsub_or {a b c : Nat} (h1 : bsub a c) (h2 : bsub b c) : bsub (a ||| b) c := fun i h => by
  rw [Nat.testBit_or, Bool.or_eq_true] at h
  exact h.elim (h1 i) (h2 i)
theorem bsub_eq {a b : Nat} (h1 : bsub a b) (h2 : bsub b a) : a = b := by
  apply Nat.eq_of_testBit_eq
  intro i
  cases ea : a.testBit i <;> cases eb : b.testBit i
  · rfl
  · exact absurd (h2 i eb) (by rw [ea]; decide)
  · exact absurd (h1 i ea) (by rw [eb]; decide)
  · rfl
theorem pcn_mono {a b : Nat} (h : bsub a b) : ∀ k, jb_pcn a k ≤ jb_pcn b k := by
  intro k
  induction k with
  | zero => exact Nat.le_refl 0
  | succ k ih =>
    rw [jb_pcn, jb_pcn]
    by_cases z : a.testBit k = true
    · rw [if_pos z, if_pos (h k z)]; omega
    · rw [if_neg z]; split <;> omega
theorem pcn_lt {a b : Nat} (h : bsub a b) {i : Nat} (h1 : a.testBit i = false) (h2 : b.testBit i = true) : ∀ k, i < k → jb_pcn a k < jb_pcn b k := by
  intro k
  induction k with
  | zero => intro hk; exact absurd hk (Nat.not_lt_zero i)
  | succ k ih =>
    intro hk
    rw [jb_pcn, jb_pcn]
    by_cases e : i = k
    · subst e
      rw [h1, h2, if_neg (by decide), if_pos rfl]
      have := pcn_mono h i
      omega
    · have := ih (by omega)
      by_cases z : a.testBit k = true
      · rw [if_pos z, if_pos (h k z)]; omega
      · rw [if_neg z]; split <;> omega
theorem bit_12 {a i : Nat} (ha : a < 4096) (h : a.testBit i = true) : i < 12 := by
  rcases Nat.lt_or_ge i 12 with q | q
  · exact q
  · have e : a.testBit i = false := Nat.testBit_lt_two_pow (Nat.lt_of_lt_of_le (show a < 2 ^ 12 from ha) (Nat.pow_le_pow_right (by decide) q))
    rw [e] at h
    exact absurd h (by decide)
theorem pc_lt {a b : Nat} (hb : b < 4096) (h : bsub a b) (hn : ¬ a = b) : jb_pc a < jb_pc b := by
  have h2 : ¬ bsub b a := fun q => hn (bsub_eq h q)
  have h3 : ∃ i, b.testBit i = true ∧ a.testBit i = false := by
    apply Classical.byContradiction
    intro q
    refine h2 (fun i hi => ?_)
    cases e : a.testBit i
    · exact absurd ⟨i, hi, e⟩ q
    · rfl
  obtain ⟨i, e1, e2⟩ := h3
  exact pcn_lt h e2 e1 12 (bit_12 hb e1)
/-- a row of growing sets stands still within eleven steps -/
theorem grow_still {S : Nat → Nat} (h0 : 1 ≤ jb_pc (S 0)) (hlt : ∀ k, S k < 4096) (hs : ∀ k, bsub (S k) (S (k + 1))) (hd : ∀ k, S (k + 1) = S k → S (k + 2) = S (k + 1)) : S 12 = S 11 := by
  have key : ∀ k, S (k + 1) = S k ∨ k + 2 ≤ jb_pc (S (k + 1)) := by
    intro k
    induction k with
    | zero =>
      by_cases e : S 1 = S 0
      · exact .inl e
      · right
        have := pc_lt (hlt 1) (hs 0) (fun q => e q.symm)
        show 0 + 2 ≤ jb_pc (S 1)
        omega
    | succ k ih =>
      rcases ih with e | e
      · exact .inl (hd k e)
      · by_cases e2 : S (k + 2) = S (k + 1)
        · exact .inl e2
        · right
          have := pc_lt (hlt (k + 2)) (hs (k + 1)) (fun q => e2 q.symm)
          show k + 1 + 2 ≤ jb_pc (S (k + 2))
          omega
  rcases key 11 with e | e
  · exact e
  · have := jb_pc_le (S 12)
    exact absurd e (by show ¬ 13 ≤ jb_pc (S 12); omega)
/-- whatever the steps keep holds of all -/
theorem any_P {o : Nat → Nat} {a : Nat} {P : Nat → Prop} (hP : ∀ g, g < 12 → P g → ∀ h, (o g).testBit h = true → P h) (ha : ∀ i, a.testBit i = true → P i) : ∀ k, k ≤ 12 → ∀ i, (j5_any o a k).testBit i = true → P i := by
  intro k
  induction k with
  | zero => intro _ i h; exact absurd h (by show ¬ (0 : Nat).testBit i = true; rw [Nat.zero_testBit]; decide)
  | succ k ih =>
    intro hk i h
    unfold j5_any at h
    by_cases z : a.testBit k = true
    · rw [if_pos z, Nat.testBit_or, Bool.or_eq_true] at h
      exact h.elim (ih (by omega) i) (hP k (by omega) (ha k z) i)
    · rw [if_neg z] at h
      exact ih (by omega) i h
theorem in5_P {o : Nat → Nat} {f : Nat} {P : Nat → Prop} (hP : ∀ g, g < 12 → P g → ∀ h, (o g).testBit h = true → P h) (hf : P f) : ∀ k i, (j5_in o f k).testBit i = true → P i := by
  intro k
  induction k with
  | zero =>
    intro i h
    unfold j5_in at h
    rw [Nat.testBit_two_pow, decide_eq_true_iff] at h
    exact h ▸ hf
  | succ k ih =>
    intro i h
    unfold j5_in at h
    rw [Nat.testBit_or, Bool.or_eq_true] at h
    exact h.elim (ih i) (any_P hP ih 12 (Nat.le_refl 12) i)
theorem sq_P {o : Nat → Nat} {a : Nat} {P : Nat → Prop} (hP : ∀ g, g < 12 → P g → ∀ h, (o g).testBit h = true → P h) (ha : ∀ i, a.testBit i = true → P i) : ∀ k, k ≤ 12 → ∀ i, (j7_sq o a k).testBit i = true → P i := by
  intro k
  induction k with
  | zero => intro _ i h; exact ha i h
  | succ k ih =>
    intro hk i h
    unfold j7_sq at h
    by_cases z : (j7_sq o a k).testBit k = true
    · rw [if_pos z, Nat.testBit_or, Bool.or_eq_true] at h
      exact h.elim (ih (by omega) i) (hP k (by omega) (ih (by omega) k z) i)
    · rw [if_neg z] at h
      exact ih (by omega) i h
theorem in7_P {o : Nat → Nat} {f : Nat} {P : Nat → Prop} (hP : ∀ g, g < 12 → P g → ∀ h, (o g).testBit h = true → P h) (hf : P f) : ∀ k i, (j7_in o f k).testBit i = true → P i := by
  intro k
  induction k with
  | zero =>
    intro i h
    unfold j7_in at h
    rw [Nat.testBit_two_pow, decide_eq_true_iff] at h
    exact h ▸ hf
  | succ k ih =>
    intro i h
    unfold j7_in at h
    exact sq_P hP ih 12 (Nat.le_refl 12) i h
def bcl (o : Nat → Nat) (a : Nat) : Prop := ∀ g, g < 12 → a.testBit g = true → bsub (o g) a
theorem any_sub {o : Nat → Nat} {a : Nat} : ∀ k g, g < k → a.testBit g = true → bsub (o g) (j5_any o a k) := by
  intro k
  induction k with
  | zero => intro g h; exact absurd h (Nat.not_lt_zero g)
  | succ k ih =>
    intro g h1 h2
    unfold j5_any
    by_cases e : g = k
    · subst e
      rw [if_pos h2]
      exact bsub_or2 _ _
    · have := ih g (by omega) h2
      split
      · exact bsub_tr this (bsub_or1 _ _)
      · exact this
theorem in5_cl {o : Nat → Nat} (ho : ∀ f, f < 12 → o f < 4096) {f : Nat} (hf : f < 12) : bcl o (j5_in o f 11) := by
  have hst : ∀ k, j5_in o f (k + 1) = j5_in o f k ||| j5_any o (j5_in o f k) 12 := fun k => rfl
  have e : j5_in o f 12 = j5_in o f 11 := by
    refine grow_still (S := j5_in o f) ?_ (j5_in_lt ho hf) (fun k => ?_) (fun k q => ?_)
    · exact jb_pc_pos (j5_in_lt ho hf 0) (by show ¬ 2 ^ f = 0; have := Nat.two_pow_pos f; omega)
    · rw [hst]; exact bsub_or1 _ _
    · rw [hst (k + 1), q, ← hst k, q]
  intro g hg hb
  have h1 := any_sub (o := o) 12 g hg hb
  rw [hst 11] at e
  rw [← e]
  exact bsub_tr h1 (bsub_or2 _ _)
theorem sq_mono {o : Nat → Nat} (a : Nat) : ∀ k, bsub (j7_sq o a k) (j7_sq o a (k + 1)) := by
  intro k
  show bsub (j7_sq o a k) (if (j7_sq o a k).testBit k = true then j7_sq o a k ||| o k else j7_sq o a k)
  split
  · exact bsub_or1 _ _
  · exact bsub_rf _
theorem sq_from {o : Nat → Nat} (a : Nat) : ∀ m k, bsub (j7_sq o a k) (j7_sq o a (k + m)) := by
  intro m
  induction m with
  | zero => intro k; exact bsub_rf _
  | succ m ih => intro k; exact bsub_tr (ih k) (sq_mono a (k + m))
theorem in7_cl {o : Nat → Nat} (ho : ∀ f, f < 12 → o f < 4096) {f : Nat} (hf : f < 12) : bcl o (j7_in o f 11) ∧ j7_in o f 12 = j7_in o f 11 := by
  have hst : ∀ k, j7_in o f (k + 1) = j7_sq o (j7_in o f k) 12 := fun k => rfl
  have e : j7_in o f 12 = j7_in o f 11 := by
    refine grow_still (S := j7_in o f) ?_ (j7_in_lt ho hf) (fun k => ?_) (fun k q => ?_)
    · exact jb_pc_pos (j7_in_lt ho hf 0) (by show ¬ 2 ^ f = 0; have := Nat.two_pow_pos f; omega)
    · rw [hst]; exact sq_from _ 12 0
    · rw [hst (k + 1), q, ← hst k, q]
  refine ⟨?_, e⟩
  intro g hg hb
  rw [hst 11] at e
  generalize j7_in o f 11 = A at e hb ⊢
  have h1 : bsub A (j7_sq o A g) := by have := sq_from (o := o) A g 0; rwa [Nat.zero_add] at this
  have h2 : j7_sq o A (g + 1) = j7_sq o A g ||| o g := if_pos (h1 g hb)
  have h3 : bsub (j7_sq o A (g + 1)) A := by
    have h4 := sq_from (o := o) A (12 - (g + 1)) (g + 1)
    rw [show g + 1 + (12 - (g + 1)) = 12 by omega, e] at h4
    exact h4
  rw [h2] at h3
  exact bsub_tr (bsub_or2 _ _) h3
theorem in5_self {o : Nat → Nat} {f : Nat} : ∀ k, (j5_in o f k).testBit f = true := by
  intro k
  induction k with
  | zero => unfold j5_in; rw [Nat.testBit_two_pow]; exact decide_eq_true rfl
  | succ k ih => unfold j5_in; exact bsub_or1 _ _ f ih
theorem in7_self {o : Nat → Nat} {f : Nat} : ∀ k, (j7_in o f k).testBit f = true := by
  intro k
  induction k with
  | zero => unfold j7_in; rw [Nat.testBit_two_pow]; exact decide_eq_true rfl
  | succ k ih => unfold j7_in; exact sq_from _ 12 0 f ih
/-- insides are the same -/
theorem in_e {o : Nat → Nat} (ho : ∀ f, f < 12 → o f < 4096) {f : Nat} (hf : f < 12) : j5_in o f 11 = j7_in o f 12 := by
  have c5 := in5_cl ho hf
  obtain ⟨c7, e7⟩ := in7_cl ho hf
  rw [e7]
  refine bsub_eq ?_ ?_
  · exact in5_P (P := fun i => (j7_in o f 11).testBit i = true) (fun g hg h i hi => c7 g hg h i hi) (in7_self 11) 11
  · exact in7_P (P := fun i => (j5_in o f 11).testBit i = true) (fun g hg h i hi => c5 g hg h i hi) (in5_self 11) 11
/-- being inside goes both ways -/
theorem in_sym {o : Nat → Nat} (ho : ∀ f, f < 12 → o f < 4096) (hs : ∀ f, f < 12 → ∀ g, g < 12 → (o f).testBit g = true → (o g).testBit f = true) {j i : Nat} (hj : j < 12) (h : (j5_in o j 11).testBit i = true) : (j5_in o i 11).testBit j = true := by
  have hlt : ∀ g, g < 12 → ∀ h, (o g).testBit h = true → h < 12 := fun g hg h hh => bit_12 (ho g hg) hh
  have key := in5_P (o := o) (f := j) (P := fun g => g < 12 ∧ (j5_in o g 11).testBit j = true) (fun g hg hP h hh => by
    have hh12 := hlt g hg h hh
    refine ⟨hh12, ?_⟩
    have c := in5_cl ho hh12
    have g1 : (j5_in o h 11).testBit g = true := c h hh12 (in5_self 11) g (hs g hg h hh12 hh)
    exact in5_P (o := o) (f := g) (P := fun x => (j5_in o h 11).testBit x = true) (fun x hx hx2 y hy => c x hx hx2 y hy) g1 11 j hP.2) ⟨hj, in5_self 11⟩ 11 i h
  exact key.2
theorem and_mask {a k : Nat} (h : a &&& (2 ^ k - 1) = 0) : ∀ i, i < k → a.testBit i = false := by
  intro i hi
  have h1 : (a &&& (2 ^ k - 1)).testBit i = (0 : Nat).testBit i := by rw [h]
  rw [Nat.testBit_and, Nat.zero_testBit, Nat.testBit_two_pow_sub_one, decide_eq_true hi, Bool.and_true] at h1
  exact h1
theorem and_mask' {a k : Nat} (h : ∀ i, i < k → a.testBit i = false) : a &&& (2 ^ k - 1) = 0 := by
  apply Nat.eq_of_testBit_eq
  intro i
  rw [Nat.testBit_and, Nat.zero_testBit, Nat.testBit_two_pow_sub_one]
  by_cases q : i < k
  · rw [h i q, Bool.false_and]
  · rw [decide_eq_false q, Bool.and_false]
/-- how many insides -/
theorem ic_e {o : Nat → Nat} (ho : ∀ f, f < 12 → o f < 4096) (hs : ∀ f, f < 12 → ∀ g, g < 12 → (o f).testBit g = true → (o g).testBit f = true) : ∀ k, k ≤ 12 → (∀ i, (j5_ic o k).1.testBit i = true ↔ ∃ j, j < k ∧ (j5_in o j 11).testBit i = true) ∧ (j5_ic o k).2 = j7_ni o k := by
  intro k
  induction k with
  | zero =>
    intro _
    refine ⟨fun i => ⟨fun h => absurd h (by show ¬ (0 : Nat).testBit i = true; rw [Nat.zero_testBit]; decide), fun ⟨j, h, _⟩ => absurd h (Nat.not_lt_zero j)⟩, rfl⟩
  | succ k ih =>
    intro hk
    have hk12 : k < 12 := by omega
    obtain ⟨h1, h2⟩ := ih (by omega)
    have hin : j7_in o k 12 = j5_in o k 11 := (in_e ho hk12).symm
    rw [j5_ic, j7_ni, hin]
    by_cases z : (j5_ic o k).1.testBit k = true
    · rw [if_pos z]
      obtain ⟨j, hj, hjk⟩ := (h1 k).mp z
      have hkj := in_sym ho hs (by omega) hjk
      refine ⟨fun i => ?_, ?_⟩
      · rw [h1]
        constructor
        · rintro ⟨j', a, b⟩; exact ⟨j', by omega, b⟩
        · rintro ⟨j', a, b⟩
          by_cases e : j' = k
          · subst e
            refine ⟨j, hj, ?_⟩
            have c := in5_cl ho (show j < 12 by omega)
            exact in5_P (o := o) (f := j') (P := fun x => (j5_in o j 11).testBit x = true) (fun x hx hx2 y hy => c x hx hx2 y hy) hjk 11 i b
          · exact ⟨j', by omega, b⟩
      · rw [if_neg, h2]
        · rfl
        · intro q
          rw [and_mask q j hj] at hkj
          exact absurd hkj (by decide)
    · rw [if_neg z]
      refine ⟨fun i => ?_, ?_⟩
      · show ((j5_ic o k).1 ||| j5_in o k 11).testBit i = true ↔ _
        rw [Nat.testBit_or, Bool.or_eq_true, h1]
        constructor
        · rintro (⟨j', a, b⟩ | b)
          · exact ⟨j', by omega, b⟩
          · exact ⟨k, by omega, b⟩
        · rintro ⟨j', a, b⟩
          by_cases e : j' = k
          · subst e; exact .inr b
          · exact .inl ⟨j', by omega, b⟩
      · rw [if_pos]
        · show (j5_ic o k).2 + 1 = _
          rw [h2]
        · refine and_mask' (fun i hi => ?_)
          cases e : (j5_in o k 11).testBit i
          · rfl
          · exact absurd ((h1 k).mpr ⟨i, hi, in_sym ho hs hk12 e⟩) z
