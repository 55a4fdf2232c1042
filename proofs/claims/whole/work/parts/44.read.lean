/-! READING: the model's lines are the class's -/
abbrev tk_i (R : tkR) : Nat := R.2.2.1
abbrev tk_f (R : tkR) : Int32 := R.2.2.2.1
abbrev tk_g (R : tkR) : Int32 := R.2.2.2.2
/-- a line that can be done -/
def tk_okR (R : tkR) : Prop := (tk_i R = 7) ∨ (tk_i R < 4 ∧ ∃ f, f < 12 ∧ tk_f R = nI f) ∨ ((tk_i R = 4 ∨ tk_i R = 5) ∧ ∃ f g, f < 12 ∧ g < 12 ∧ tk_f R = nI f ∧ tk_g R = nI g ∧ ¬ jb_sd f g = -1) ∨ (tk_i R = 6 ∧ ∃ f g, f < 12 ∧ g < 5 ∧ tk_f R = nI f ∧ tk_g R = nI g)
/-- what is read at w of a line -/
def tk_mt (rd : Nat → Int32) (w : Nat) (R : tkR) : Prop := rd w = jc (tk_i R) ∧ (¬ tk_i R = 7 → rd (w + 1) = tk_f R) ∧ (tk_i R = 4 ∨ tk_i R = 5 ∨ tk_i R = 6 → rd (w + 2) = tk_g R)
def jx_sp (sg : Nat → Int32) (L : Nat) (X : jx_X) (w : Nat) (A : Bool × jx_X) (R : tkR) : Prop :=
  A.1 = R.1 ∧ A.2.1 = R.2.1.2 ∧ A.2.2.1 = R.2.1.1 ∧ (R.1 = false → A.2.2.2.2.2.2.1 = nI R.2.1.1) ∧ (R.1 = true → tk_okR R ∧ tk_mt A.2.2.2.2.2.2.2 w R) ∧ ∀ j, j < w → A.2.2.2.2.2.2.2 j = X.2.2.2.2.2.2 j
theorem jx_nm_f {sg : Nat → Int32} {L : Nat} {X : jx_X} {w b : Nat} (h : jx_a sg L X b = -1) : jx_nm sg L X w b = jx_f (jx_n sg L X) := if_pos h
theorem jx_nm_t {sg : Nat → Int32} {L : Nat} {X : jx_X} {w b : Nat} (h : ¬ jx_a sg L X b = -1) : jx_nm sg L X w b = jx_r (jx_n sg L X) w (jx_a sg L X b) := if_neg h
theorem jx_nm_rd {sg : Nat → Int32} {L : Nat} (X : jx_X) {w b j : Nat} (h : j < w) : (jx_nm sg L X w b).2.2.2.2.2.2 j = X.2.2.2.2.2.2 j := by
  unfold jx_nm
  split
  · rfl
  · exact jU_ne _ _ (by omega)
theorem tk_t_eq {sg : Nat → Int32} {L a b : Nat} (h : a = b) : tk_t sg L a = tk_t sg L b := by rw [h]
theorem bft : ¬ false = true := by decide
theorem btf : ¬ true = false := by decide
theorem jx_ln_l {sg : Nat → Int32} {L : Nat} {X : jx_X} (w : Nat) (hp : X.1 ≤ L) : jx_sp sg L X w (jx_ln sg L X w) (tk_l sg L X.1) := by
  have h8 : jx_i sg L X ≤ 8 := tk_w_le sg _ _
  have e0 : tk_l sg L X.1 = tk_lb sg L (tk_t sg L X.1) (jx_i sg L X) := rfl
  rw [e0]
  unfold jx_ln
  have z1 : (jx_r (jx_n sg L X) w (jc (jx_i sg L X))).1 = (tk_t sg L X.1).2 := rfl
  have z2 : (jx_r (jx_n sg L X) w (jc (jx_i sg L X))).2.1 = (tk_t sg L X.1).1 := rfl
  have z3 : (jx_r (jx_n sg L X) w (jc (jx_i sg L X))).2.2.2.2.2.2 w = jc (jx_i sg L X) := jU_at _ _ _
  have z4 : ∀ j, j < w → (jx_r (jx_n sg L X) w (jc (jx_i sg L X))).2.2.2.2.2.2 j = X.2.2.2.2.2.2 j := fun j hj => jU_ne _ _ (by omega)
  generalize jx_r (jx_n sg L X) w (jc (jx_i sg L X)) = Z at z1 z2 z3 z4 ⊢
  generalize jx_i sg L X = i at h8 z3 ⊢
  have ht := tk_t_le (sg := sg) hp
  generalize tk_t sg L X.1 = t at z1 z2 ht ⊢
  have ea : ∀ b, jx_a sg L Z b = tk_n sg (tk_t sg L t.2).1 (tk_t sg L t.2).2 (nI (b + 1)) := fun b => by unfold jx_a; rw [z1]
  have eN : (jx_n sg L Z).1 = (tk_t sg L t.2).2 ∧ (jx_n sg L Z).2.1 = (tk_t sg L t.2).1 := by rw [← z1]; exact ⟨rfl, rfl⟩
  have hZ : Z.1 ≤ L := by rw [z1]; exact ht.2.2
  have hnum : jx_a sg L Z 11 = -1 ∨ ∃ n, n < 12 ∧ jx_a sg L Z 11 = nI n := jx_a_num (by decide)
  unfold jx_lw tk_lb
  by_cases e8 : i = 8
  · rw [if_pos e8, if_pos e8]
    exact ⟨rfl, z1, z2, fun _ => congrArg nI z2, fun h => absurd h bft, z4⟩
  · rw [if_neg e8, if_neg e8]
    by_cases e7 : i = 7
    · rw [if_pos e7, if_pos e7]
      subst e7
      exact ⟨rfl, z1, z2, fun h => absurd h btf, fun _ => ⟨.inl rfl, z3, fun h => absurd rfl h, fun h => absurd h (show ¬ (7 = 4 ∨ 7 = 5 ∨ 7 = 6) by decide)⟩, z4⟩
    · rw [if_neg e7, if_neg e7]
      unfold tk_lc tk_ld
      have e12 : tk_n sg (tk_t sg L t.2).1 (tk_t sg L t.2).2 12 = jx_a sg L Z 11 := (ea 11).symm
      rw [e12]
      have n1 := jx_nm_1 sg L Z (w + 1) 11
      rw [z1] at n1
      by_cases a1 : jx_a sg L Z 11 = -1
      · -- no number
        have m1 : jx_nm sg L Z (w + 1) 11 = jx_f (jx_n sg L Z) := if_pos a1
        have base : ∀ (q : Prop), jx_sp sg L X w (false, jx_nm sg L Z (w + 1) 11) (false, tk_t sg L t.2, i, jx_a sg L Z 11, 0) := fun _ => by
          rw [m1]
          exact ⟨rfl, eN.1, eN.2, fun _ => congrArg nI eN.2, fun h => absurd h bft, z4⟩
        rw [if_pos a1]
        by_cases e6 : i = 6
        · rw [if_pos e6]; unfold jx_st; rw [if_pos a1]; exact base True
        · rw [if_neg e6]
          by_cases e45 : i = 4 ∨ i = 5
          · rw [if_pos e45]; unfold jx_ap; rw [if_pos a1]; exact base True
          · rw [if_neg e45, decide_eq_false (fun q => q a1)]; exact base True
      · obtain ⟨f, hf, ef⟩ := hnum.resolve_left a1
        have r1 : (jx_nm sg L Z (w + 1) 11).2.2.2.2.2.2 w = jc i := (jx_nm_rd Z (by omega)).trans z3
        have r2 : (jx_nm sg L Z (w + 1) 11).2.2.2.2.2.2 (w + 1) = nI f := by rw [jx_nm_t a1, ef]; exact jU_at _ _ _
        have r3 : ∀ j, j < w → (jx_nm sg L Z (w + 1) 11).2.2.2.2.2.2 j = X.2.2.2.2.2.2 j := fun j hj => (jx_nm_rd Z (by omega)).trans (z4 j hj)
        rw [if_neg a1]
        by_cases e6 : i = 6
        · rw [if_pos e6, if_neg (by omega), if_pos e6]
          unfold jx_st tk_lg tk_lh
          rw [if_neg a1]
          have h2 : jx_a sg L (jx_nm sg L Z (w + 1) 11) 4 = tk_n sg (tk_t sg L (tk_t sg L t.2).2).1 (tk_t sg L (tk_t sg L t.2).2).2 5 := by unfold jx_a; rw [n1.1]; rfl
          have hn2 : jx_a sg L (jx_nm sg L Z (w + 1) 11) 4 = -1 ∨ ∃ n, n < 5 ∧ jx_a sg L (jx_nm sg L Z (w + 1) 11) 4 = nI n := jx_a_num (by decide)
          have n2 := jx_nm_1 sg L (jx_nm sg L Z (w + 1) 11) (w + 2) 4
          rw [n1.1] at n2
          rw [← h2]
          generalize jx_nm sg L Z (w + 1) 11 = X1 at r1 r2 r3 n2 hn2 ⊢
          by_cases a2 : jx_a sg L X1 4 = -1
          · rw [if_pos a2, decide_eq_false (fun q => q a2)]
            rw [jx_nm_f a2] at n2 ⊢
            exact ⟨rfl, n2.1, n2.2, fun _ => congrArg nI n2.2, fun h => absurd h bft, r3⟩
          · obtain ⟨g, hg, eg⟩ := hn2.resolve_left a2
            rw [if_neg a2, decide_eq_true a2]
            rw [jx_nm_t a2] at n2 ⊢
            refine ⟨rfl, n2.1, n2.2, fun h => absurd h btf, fun _ => ⟨.inr (.inr (.inr ⟨e6, f, g, hf, hg, ef, eg⟩)), ?_, fun _ => ?_, fun _ => jU_at _ _ _⟩, fun j hj => (jU_ne _ _ (by omega)).trans (r3 j hj)⟩
            · exact (jU_ne _ _ (by omega)).trans r1
            · exact ((jU_ne _ _ (by omega)).trans r2).trans ef.symm
        · rw [if_neg e6]
          by_cases e45 : i = 4 ∨ i = 5
          · rw [if_pos e45, if_pos e45]
            unfold jx_ap tk_le tk_lf
            rw [if_neg a1]
            have h2 : jx_a sg L (jx_nm sg L Z (w + 1) 11) 11 = tk_n sg (tk_t sg L (tk_t sg L t.2).2).1 (tk_t sg L (tk_t sg L t.2).2).2 12 := by unfold jx_a; rw [n1.1]; rfl
            have hn2 : jx_a sg L (jx_nm sg L Z (w + 1) 11) 11 = -1 ∨ ∃ n, n < 12 ∧ jx_a sg L (jx_nm sg L Z (w + 1) 11) 11 = nI n := jx_a_num (by decide)
            have n2 := jx_nm_1 sg L (jx_nm sg L Z (w + 1) 11) (w + 2) 11
            rw [n1.1] at n2
            rw [← h2]
            generalize jx_nm sg L Z (w + 1) 11 = X1 at r1 r2 r3 n2 hn2 ⊢
            by_cases a2 : jx_a sg L X1 11 = -1
            · have es : jb_sdI (jx_a sg L Z 11) (jx_a sg L X1 11) = -1 := if_pos a2
              rw [if_pos a2, if_pos es]
              rw [jx_nm_f a2] at n2 ⊢
              exact ⟨rfl, n2.1, n2.2, fun _ => congrArg nI n2.2, fun h => absurd h bft, r3⟩
            · obtain ⟨g, hg, eg⟩ := hn2.resolve_left a2
              have es : jb_sdI (jx_a sg L Z 11) (jx_a sg L X1 11) = jb_sd f g := by
                rw [ef, eg]
                unfold jb_sdI
                rw [if_neg (jb_nm1 (by omega)), nI_clamp (by omega), nI_clamp (by omega)]
              rw [if_neg a2, es]
              rw [jx_nm_t a2] at n2 ⊢
              by_cases a3 : jb_sd f g = -1
              · rw [if_pos a3, if_pos a3]
                exact ⟨rfl, n2.1, n2.2, fun _ => congrArg nI n2.2, fun h => absurd h bft, fun j hj => (jU_ne _ _ (by omega)).trans (r3 j hj)⟩
              · rw [if_neg a3, if_neg a3]
                refine ⟨rfl, n2.1, n2.2, fun h => absurd h btf, fun _ => ⟨.inr (.inr (.inl ⟨e45, f, g, hf, hg, ef, eg, a3⟩)), ?_, fun _ => ?_, fun _ => jU_at _ _ _⟩, fun j hj => (jU_ne _ _ (by omega)).trans (r3 j hj)⟩
                · exact (jU_ne _ _ (by omega)).trans r1
                · exact ((jU_ne _ _ (by omega)).trans r2).trans ef.symm
          · rw [if_neg e45, if_neg e45, if_neg e6, decide_eq_true a1]
            refine ⟨rfl, n1.1, n1.2, fun h => absurd h btf, fun _ => ⟨.inr (.inl ⟨show i < 4 by omega, f, hf, ef⟩), r1, fun _ => r2.trans ef.symm, fun h => absurd h (by show ¬ (i = 4 ∨ i = 5 ∨ i = 6); omega)⟩, r3⟩
/-- the reading told by lines: n lines more, from line k on -/
def tk_rs (sg : Nat → Int32) (L : Nat) : Nat → Nat → Nat → Nat → (Nat → tkR) → Int32 × Nat × (Nat → tkR)
  | 0, k, a, _, F => (nI a, k, F)
  | n + 1, k, _, b, F => if (tk_l sg L b).1 = true then
      (if (tk_t sg L (tk_l sg L b).2.1.2).1 = L then (-1, k + 1, jU F k (tk_l sg L b))
       else if sg (tk_t sg L (tk_l sg L b).2.1.2).1 = 59 then tk_rs sg L n (k + 1) (tk_t sg L (tk_l sg L b).2.1.2).1 (tk_t sg L (tk_l sg L b).2.1.2).2 (jU F k (tk_l sg L b))
       else (nI (tk_t sg L (tk_l sg L b).2.1.2).1, k + 1, jU F k (tk_l sg L b)))
    else (nI (tk_l sg L b).2.1.1, k, F)
def jx_all (rd : Nat → Int32) (k : Nat) (F : Nat → tkR) : Prop := ∀ j, j < k → tk_okR (F j) ∧ tk_mt rd (3 * j) (F j)
theorem jx_all_s {rd rd2 : Nat → Int32} {k : Nat} {F : Nat → tkR} {R : tkR} (h : jx_all rd k F) (hr : ∀ j, j < 3 * k → rd2 j = rd j) (h1 : tk_okR R) (h2 : tk_mt rd2 (3 * k) R) : jx_all rd2 (k + 1) (jU F k R) := by
  intro j hj
  by_cases e : j = k
  · subst e
    rw [jU_at]
    exact ⟨h1, h2⟩
  · rw [jU_ne _ _ e]
    obtain ⟨a1, a2, a3, a4⟩ := h j (by omega)
    exact ⟨a1, (hr _ (by omega)).trans a2, fun q => (hr _ (by omega)).trans (a3 q), fun q => (hr _ (by omega)).trans (a4 q)⟩
theorem tk_l_le1 {sg : Nat → Int32} {L p : Nat} (h : p ≤ L) : (tk_l sg L p).2.1.1 ≤ L := by
  have h1 := tk_t_le (sg := sg) h
  have h2 := tk_t_le (sg := sg) h1.2.2
  have h3 := tk_t_le (sg := sg) h2.2.2
  have g1 := Nat.le_trans h1.2.1 h1.2.2
  have g2 := Nat.le_trans h2.2.1 h2.2.2
  have g3 := Nat.le_trans h3.2.1 h3.2.2
  unfold tk_l tk_lb
  split
  · exact g1
  · split
    · exact g1
    · unfold tk_lc tk_ld
      split
      · exact g2
      · split
        · unfold tk_le tk_lf
          split
          · exact g3
          · exact g3
        · split
          · unfold tk_lg tk_lh
            split
            · exact g3
            · exact g3
          · exact g2
theorem jx_rd_rs {sg : Nat → Int32} {L : Nat} (hL : L ≤ 200) : ∀ n k a (X : jx_X) (F : Nat → tkR), X.1 ≤ L → (n = 0 → X.2.1 = a) → a ≤ L → jx_all X.2.2.2.2.2.2 k F →
    ((jx_rd sg L n k X).1 = true ↔ (tk_rs sg L n k a X.1 F).1 = -1) ∧ ((jx_rd sg L n k X).1 = false → (jx_rd sg L n k X).2.2.2.2.2.2.2.1 = (tk_rs sg L n k a X.1 F).1) ∧
    ((jx_rd sg L n k X).1 = true → (jx_rd sg L n k X).2.1 = (tk_rs sg L n k a X.1 F).2.1 ∧ (tk_rs sg L n k a X.1 F).2.1 ≤ n + k ∧ jx_all (jx_rd sg L n k X).2.2.2.2.2.2.2.2 (tk_rs sg L n k a X.1 F).2.1 (tk_rs sg L n k a X.1 F).2.2) := by
  intro n
  induction n with
  | zero =>
    intro k a X F hp ha haL hF
    have e := ha rfl
    have n1 : ¬ nI a = -1 := jb_nm1 (by omega)
    exact ⟨⟨fun h => absurd h (by show ¬ false = true; decide), fun h => absurd h n1⟩, fun _ => congrArg nI e, fun h => absurd h (by show ¬ false = true; decide)⟩
  | succ n ih =>
    intro k a X F hp _ haL hF
    obtain ⟨s1, s2, s3, s4, s5, s6⟩ := jx_ln_l (sg := sg) (3 * k) hp
    have hAl := jx_ln_le (sg := sg) (3 * k) hp
    have hR := tk_l_le1 (sg := sg) hp
    rw [jx_rd, tk_rs]
    generalize jx_ln sg L X (3 * k) = A at s1 s2 s3 s4 s5 s6 hAl ⊢
    generalize tk_l sg L X.1 = R at s1 s2 s3 s4 s5 s6 hR ⊢
    rw [s1]
    by_cases z1 : R.1 = true
    · obtain ⟨r1, r2⟩ := s5 z1
      rw [if_pos z1, if_pos z1]
      have e3 := jx_sem (sg := sg) hAl
      have e2 := jx_end (sg := sg) hAl
      have hN := jx_n_le (sg := sg) hAl
      have hN1 := jx_n_1 sg L A.2
      have ht := tk_t_le (sg := sg) hAl
      rw [s2] at e3 e2 hN1 ht
      have hF2 := jx_all_s hF s6 r1 r2
      rw [← hN1.2.2] at hF2
      generalize jx_n sg L A.2 = Y at e3 e2 hN hN1 hF2 ⊢
      generalize tk_t sg L R.2.1.2 = t at e3 e2 hN1 ht ⊢
      by_cases z2 : t.1 = L
      · have y2 : Y.2.2.1 = -2 := e2.mpr z2
        have y3 : ¬ Y.2.2.1 = -3 := fun q => (e3.mp q).1 z2
        rw [if_pos z2, if_neg y3, if_pos y2]
        exact ⟨⟨fun _ => rfl, fun _ => rfl⟩, fun h => absurd h (by show ¬ true = false; decide), fun _ => ⟨rfl, by show k + 1 ≤ n + 1 + k; omega, hF2⟩⟩
      · have y2 : ¬ Y.2.2.1 = -2 := fun q => z2 (e2.mp q)
        rw [if_neg z2]
        by_cases z3 : sg t.1 = 59
        · have y3 : Y.2.2.1 = -3 := e3.mpr ⟨z2, z3⟩
          rw [if_pos z3, if_pos y3]
          have h := ih (k + 1) t.1 Y (jU F k R) hN (fun _ => hN1.2.1) (by omega) hF2
          rw [hN1.1] at h
          refine ⟨h.1, h.2.1, fun q => ?_⟩
          obtain ⟨a1, a2, a3⟩ := h.2.2 q
          exact ⟨a1, by omega, a3⟩
        · have y3 : ¬ Y.2.2.1 = -3 := fun q => z3 (e3.mp q).2
          rw [if_neg z3, if_neg y3, if_neg y2]
          have n1 : ¬ nI t.1 = -1 := jb_nm1 (by omega)
          exact ⟨⟨fun h => absurd h (by show ¬ false = true; decide), fun h => absurd h n1⟩, fun _ => congrArg nI hN1.2.1, fun h => absurd h (by show ¬ false = true; decide)⟩
    · have z1' : R.1 = false := by simpa using z1
      rw [if_neg z1, if_neg z1]
      have n1 : ¬ nI R.2.1.1 = -1 := jb_nm1 (by omega)
      exact ⟨⟨fun h => absurd h (by show ¬ false = true; decide), fun h => absurd h n1⟩, fun _ => s4 z1', fun h => absurd h (by show ¬ false = true; decide)⟩
