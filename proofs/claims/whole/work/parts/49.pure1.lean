/-! THE TWO COMPUTE THE SAME: what is open, walls, turnings -/
theorem j7_op_bit (wl : Nat → Nat → Bool) (f : Nat) : ∀ k i, (j7_op wl f k).testBit i = true ↔ ∃ u, u < k ∧ ¬ wl f u = true ∧ jb_s f u = i := by
  intro k
  induction k with
  | zero =>
    intro i
    show (0 : Nat).testBit i = true ↔ _
    rw [Nat.zero_testBit]
    exact ⟨fun h => absurd h (by decide), fun ⟨u, h, _⟩ => absurd h (Nat.not_lt_zero u)⟩
  | succ k ih =>
    intro i
    unfold j7_op
    by_cases z : wl f k = true
    · rw [if_pos z, ih]
      constructor
      · rintro ⟨u, h1, h2, h3⟩; exact ⟨u, by omega, h2, h3⟩
      · rintro ⟨u, h1, h2, h3⟩
        refine ⟨u, ?_, h2, h3⟩
        have : u ≠ k := fun e => h2 (by rw [e]; exact z)
        omega
    · rw [if_neg z, Nat.testBit_or, Bool.or_eq_true, ih, Nat.testBit_two_pow, decide_eq_true_iff]
      constructor
      · rintro (⟨u, h1, h2, h3⟩ | h)
        · exact ⟨u, by omega, h2, h3⟩
        · exact ⟨k, by omega, z, h⟩
      · rintro ⟨u, h1, h2, h3⟩
        by_cases e : u = k
        · subst e; exact .inr h3
        · exact .inl ⟨u, by omega, h2, h3⟩
theorem j7_o_ex (wl : Nat → Nat → Bool) (f i : Nat) : (j7_o wl f).testBit i = true ↔ ∃ u, u < 5 ∧ ¬ wl f u = true ∧ jb_s f u = i := j7_op_bit wl f 5 i
theorem jb_s_inj : ∀ f, f < 12 → ∀ u, u < 5 → ∀ v, v < 5 → jb_s f u = jb_s f v → u = v := by decide +kernel
theorem j7_o_bit (wl : Nat → Nat → Bool) {f u : Nat} (hf : f < 12) (hu : u < 5) : (j7_o wl f).testBit (jb_s f u) = true ↔ ¬ wl f u = true := by
  rw [j7_o_ex]
  constructor
  · rintro ⟨v, h1, h2, h3⟩
    rw [← jb_s_inj f hf v h1 u hu h3]
    exact h2
  · intro h
    exact ⟨u, hu, h, rfl⟩
theorem j5_sc_e (wl : Nat → Nat → Bool) {f : Nat} (hf : f < 12) : ∀ k, k ≤ 5 → j5_sc (j7_o wl) f k = j7_sw wl f k := by
  intro k
  induction k with
  | zero => intro _; rfl
  | succ k ih =>
    intro hk
    rw [j5_sc, j7_sw, ih (by omega)]
    have h := j7_o_bit wl hf (show k < 5 by omega)
    by_cases z : wl f k = true
    · rw [if_pos z, if_neg (fun q => h.mp q z)]
    · rw [if_neg z, if_pos (h.mpr z)]
def jb_n (b : Bool) : Nat := if b = true then 1 else 0
theorem j7_sw_pc (wl : Nat → Nat → Bool) (f : Nat) : jb_pc (j7_sw wl f 5) = jb_n (wl f 0) + jb_n (wl f 1) + jb_n (wl f 2) + jb_n (wl f 3) + jb_n (wl f 4) := by
  have key : ∀ a b c d e : Bool, jb_pc (let x0 := if a = true then 0 ||| 2 ^ 0 else 0; let x1 := if b = true then x0 ||| 2 ^ 1 else x0; let x2 := if c = true then x1 ||| 2 ^ 2 else x1; let x3 := if d = true then x2 ||| 2 ^ 3 else x2; if e = true then x3 ||| 2 ^ 4 else x3) = jb_n a + jb_n b + jb_n c + jb_n d + jb_n e := by decide +kernel
  exact key (wl f 0) (wl f 1) (wl f 2) (wl f 3) (wl f 4)
theorem j7_wc_5 (wl : Nat → Nat → Bool) (f : Nat) : j7_wc wl (5 * (f + 1)) = j7_wc wl (5 * f) + (jb_n (wl f 0) + jb_n (wl f 1) + jb_n (wl f 2) + jb_n (wl f 3) + jb_n (wl f 4)) := by
  have st : ∀ u, u < 5 → j7_wc wl (5 * f + u + 1) = j7_wc wl (5 * f + u) + jb_n (wl f u) := by
    intro u hu
    rw [j7_wc, show (5 * f + u) / 5 = f by omega, show (5 * f + u) % 5 = u by omega]
    rfl
  have h0 : j7_wc wl (5 * f + 1) = j7_wc wl (5 * f) + jb_n (wl f 0) := st 0 (by decide)
  have h1 : j7_wc wl (5 * f + 2) = j7_wc wl (5 * f + 1) + jb_n (wl f 1) := st 1 (by decide)
  have h2 : j7_wc wl (5 * f + 3) = j7_wc wl (5 * f + 2) + jb_n (wl f 2) := st 2 (by decide)
  have h3 : j7_wc wl (5 * f + 4) = j7_wc wl (5 * f + 3) + jb_n (wl f 3) := st 3 (by decide)
  have h4 : j7_wc wl (5 * f + 5) = j7_wc wl (5 * f + 4) + jb_n (wl f 4) := st 4 (by decide)
  rw [show 5 * (f + 1) = 5 * f + 5 by omega]
  omega
theorem j5_wl_e (wl : Nat → Nat → Bool) : ∀ k, k ≤ 12 → j5_wl (j7_o wl) k = j7_wc wl (5 * k) := by
  intro k
  induction k with
  | zero => intro _; rfl
  | succ k ih =>
    intro hk
    rw [j5_wl, ih (by omega), j5_sc_e wl (by omega) 5 (Nat.le_refl 5), j7_sw_pc, j7_wc_5]
/-! walls set and taken away -/
def wl_s (wl : Nat → Nat → Bool) (F a G b : Nat) (v : Bool) : Nat → Nat → Bool := fun f u => if (f = F ∧ u = a) ∨ (f = G ∧ u = b) then v else wl f u
theorem sd_s : ∀ f, f < 12 → ∀ g, g < 12 → jb_sdN f g < 5 → jb_s f (jb_sdN f g) = g := by decide +kernel
def wl_sym (wl : Nat → Nat → Bool) : Prop := ∀ f, f < 12 → ∀ g, g < 12 → (j7_o wl f).testBit g = true → (j7_o wl g).testBit f = true
theorem o_ext {a b : Nat} (ha : a < 4096) (hb : b < 4096) (h : ∀ i, i < 12 → (a.testBit i = true ↔ b.testBit i = true)) : a = b := by
  apply Nat.eq_of_testBit_eq
  intro i
  rcases Nat.lt_or_ge i 12 with q | q
  · have h1 := h i q
    cases ea : a.testBit i <;> cases eb : b.testBit i <;> simp_all
  · have e : ∀ x, x < 4096 → x.testBit i = false := fun x hx => Nat.testBit_lt_two_pow (Nat.lt_of_lt_of_le (show x < 2 ^ 12 from hx) (Nat.pow_le_pow_right (by decide) q))
    rw [e a ha, e b hb]
theorem wl_s_bit (wl : Nat → Nat → Bool) {F G : Nat} (hF : F < 12) (hG : G < 12) (hn : ¬ F = G) (ha : jb_sdN F G < 5) (hb : jb_sdN G F < 5) (v : Bool) {f : Nat} (hf : f < 12) (i : Nat) :
    (j7_o (wl_s wl F (jb_sdN F G) G (jb_sdN G F) v) f).testBit i = true ↔ (if (f = F ∧ i = G) ∨ (f = G ∧ i = F) then v = false else (j7_o wl f).testBit i = true) := by
  have eF := sd_s F hF G hG ha
  have eG := sd_s G hG F hF hb
  by_cases hi : ∃ u, u < 5 ∧ jb_s f u = i
  · obtain ⟨u, hu, rfl⟩ := hi
    rw [j7_o_bit _ hf hu, j7_o_bit _ hf hu]
    unfold wl_s
    by_cases c1 : f = F ∧ u = jb_sdN F G
    · obtain ⟨rfl, rfl⟩ := c1
      rw [if_pos (.inl ⟨rfl, rfl⟩), if_pos (.inl ⟨rfl, eF⟩)]
      cases v <;> simp
    · by_cases c2 : f = G ∧ u = jb_sdN G F
      · obtain ⟨rfl, rfl⟩ := c2
        rw [if_pos (.inr ⟨rfl, rfl⟩), if_pos (.inr ⟨rfl, eG⟩)]
        cases v <;> simp
      · rw [if_neg (fun q => q.elim c1 c2), if_neg]
        rintro (⟨e1, e2⟩ | ⟨e1, e2⟩)
        · subst e1; exact c1 ⟨rfl, jb_s_inj f hf u hu _ ha (e2.trans eF.symm)⟩
        · subst e1; exact c2 ⟨rfl, jb_s_inj f hf u hu _ hb (e2.trans eG.symm)⟩
  · have no : ∀ w : Nat → Nat → Bool, ¬ (j7_o w f).testBit i = true := fun w h => by
      obtain ⟨u, h1, _, h3⟩ := (j7_o_ex w f i).mp h
      exact hi ⟨u, h1, h3⟩
    rw [if_neg]
    · exact ⟨fun h => absurd h (no _), fun h => absurd h (no _)⟩
    · rintro (⟨e1, e2⟩ | ⟨e1, e2⟩)
      · subst e1; exact hi ⟨_, ha, eF.trans e2.symm⟩
      · subst e1; exact hi ⟨_, hb, eG.trans e2.symm⟩
theorem wl_s_sym {wl : Nat → Nat → Bool} {F G : Nat} (hF : F < 12) (hG : G < 12) (hn : ¬ F = G) (ha : jb_sdN F G < 5) (hb : jb_sdN G F < 5) (v : Bool) (h : wl_sym wl) : wl_sym (wl_s wl F (jb_sdN F G) G (jb_sdN G F) v) := by
  intro f hf g hg
  rw [wl_s_bit wl hF hG hn ha hb v hf, wl_s_bit wl hF hG hn ha hb v hg]
  by_cases c : (f = F ∧ g = G) ∨ (f = G ∧ g = F)
  · rw [if_pos c, if_pos (by omega)]; exact id
  · rw [if_neg c, if_neg (by omega)]; exact h f hf g hg
theorem wl_close {wl : Nat → Nat → Bool} {F G : Nat} (hF : F < 12) (hG : G < 12) (hn : ¬ F = G) (ha : jb_sdN F G < 5) (hb : jb_sdN G F < 5) {f : Nat} (hf : f < 12) :
    j7_o (wl_s wl F (jb_sdN F G) G (jb_sdN G F) true) f = if f = G then j5_cl (j7_o wl G) F else if f = F then j5_cl (j7_o wl F) G else j7_o wl f := by
  have cl : ∀ x y i, x < 4096 → y < 12 → i < 12 → ((j5_cl x y).testBit i = true ↔ (¬ i = y ∧ x.testBit i = true)) := by
    intro x y i hx hy hi
    unfold j5_cl
    have e : ∀ i, i < 12 → (4095 : Nat).testBit i = true := by decide
    rw [Nat.testBit_and, Nat.testBit_xor, e i hi, Nat.testBit_two_pow]
    by_cases q : y = i
    · subst q; simp
    · simp [q, Ne.symm q]
  refine o_ext (j7_o_lt _ hf) ?_ (fun i hi => ?_)
  · split
    · exact j5_cl_lt (j7_o_lt wl hG)
    · split
      · exact j5_cl_lt (j7_o_lt wl hF)
      · exact j7_o_lt wl hf
  · rw [wl_s_bit wl hF hG hn ha hb true hf]
    by_cases c1 : f = G
    · subst c1
      rw [if_pos rfl, cl _ _ _ (j7_o_lt wl hf) hF hi]
      by_cases c2 : i = F
      · rw [if_pos (.inr ⟨rfl, c2⟩)]; simp [c2]
      · rw [if_neg (by omega)]; simp [c2]
    · rw [if_neg c1]
      by_cases c3 : f = F
      · subst c3
        rw [if_pos rfl, cl _ _ _ (j7_o_lt wl hf) hG hi]
        by_cases c2 : i = G
        · rw [if_pos (.inl ⟨rfl, c2⟩)]; simp [c2]
        · rw [if_neg (by omega)]; simp [c2]
      · rw [if_neg c3, if_neg (by omega)]
theorem wl_open {wl : Nat → Nat → Bool} {F G : Nat} (hF : F < 12) (hG : G < 12) (hn : ¬ F = G) (ha : jb_sdN F G < 5) (hb : jb_sdN G F < 5) {f : Nat} (hf : f < 12) :
    j7_o (wl_s wl F (jb_sdN F G) G (jb_sdN G F) false) f = if f = G then j7_o wl G ||| 2 ^ F else if f = F then j7_o wl F ||| 2 ^ G else j7_o wl f := by
  refine o_ext (j7_o_lt _ hf) ?_ (fun i hi => ?_)
  · split
    · exact jor_lt (j7_o_lt wl hG) hF
    · split
      · exact jor_lt (j7_o_lt wl hF) hG
      · exact j7_o_lt wl hf
  · rw [wl_s_bit wl hF hG hn ha hb false hf]
    by_cases c1 : f = G
    · subst c1
      rw [if_pos rfl, Nat.testBit_or, Nat.testBit_two_pow, Bool.or_eq_true, decide_eq_true_iff]
      by_cases c2 : i = F
      · rw [if_pos (.inr ⟨rfl, c2⟩)]; simp [c2]
      · rw [if_neg (by omega)]
        exact ⟨fun h => .inl h, fun h => h.elim id (fun q => absurd q.symm c2)⟩
    · rw [if_neg c1]
      by_cases c3 : f = F
      · subst c3
        rw [if_pos rfl, Nat.testBit_or, Nat.testBit_two_pow, Bool.or_eq_true, decide_eq_true_iff]
        by_cases c2 : i = G
        · rw [if_pos (.inl ⟨rfl, c2⟩)]; simp [c2]
        · rw [if_neg (by omega)]
          exact ⟨fun h => .inl h, fun h => h.elim id (fun q => absurd q.symm c2)⟩
      · rw [if_neg c3, if_neg (by omega)]
def wl_0 : Nat → Nat → Bool := fun _ _ => false
theorem wl_0_o : ∀ f, f < 12 → j7_o wl_0 f = jb_al f := by decide +kernel
theorem wl_0_sym : wl_sym wl_0 := by
  have h : ∀ f, f < 12 → ∀ g, g < 12 → (j7_o wl_0 f).testBit g = true → (j7_o wl_0 g).testBit f = true := by decide +kernel
  exact h
/-! turnings -/
theorem jr_al_e {p q : Nat → Bool} : ∀ n, (∀ i, i < n → p i = q i) → jb_all p n = jr_al q n := by
  intro n
  induction n with
  | zero => intro _; rfl
  | succ n ih => intro h; rw [jb_all, jr_al, ih (fun i hi => h i (by omega)), h n (Nat.lt_succ_self n)]
theorem jr_ct_e {p q : Nat → Bool} : ∀ n, (∀ i, i < n → p i = q i) → j4_cnt p n = jr_ct q n := by
  intro n
  induction n with
  | zero => intro _; rfl
  | succ n ih =>
    intro h
    rw [j4_cnt, jr_ct, ih (fun i hi => h i (by omega)), h n (Nat.lt_succ_self n)]
    split <;> rfl
theorem jr_ct_l (q : Nat → Bool) : ∀ n, jr_ct q n = (List.range n).countP q := by
  intro n
  induction n with
  | zero => rfl
  | succ n ih =>
    rw [jr_ct, ih, List.range_succ, List.countP_append]
    congr 1
    by_cases h : q n = true
    · rw [if_pos h, List.countP_cons_of_pos h]; rfl
    · rw [if_neg h, List.countP_cons_of_neg h]; rfl
def jg_inv : List Nat := [0, 4, 3, 2, 1, 5, 25, 20, 15, 10, 9, 29, 24, 19, 14, 8, 28, 23, 18, 13, 7, 27, 22, 17, 12, 6, 26, 21, 16, 11, 54, 49, 44, 39, 34, 53, 48, 43, 38, 33, 52, 47, 42, 37, 32, 51, 46, 41, 36, 31, 50, 45, 40, 35, 30, 55, 56, 57, 58, 59]
def jgi (n : Nat) : Nat := jg_inv.getD n 0
theorem jgi_lt : ∀ n, n < 60 → jgi n < 60 := by decide +kernel
theorem jgi_g : ∀ n, n < 60 → ∀ f, f < 12 → jg (jgi n) (jg n f) = f ∧ jg n (jg (jgi n) f) = f := by decide +kernel
theorem jg_lt : ∀ n, n < 60 → ∀ f, f < 12 → jg n f < 12 := by decide +kernel
theorem jgi_pm : ((List.range 60).map jgi).isPerm (List.range 60) = true := by decide +kernel
theorem jr_ct_i (q : Nat → Bool) : jr_ct (fun t => q (jgi t)) 60 = jr_ct q 60 := by
  rw [jr_ct_l, jr_ct_l, ← (List.isPerm_iff.mp jgi_pm).countP_eq q, List.countP_map]
  rfl
theorem jr_al_iff (p : Nat → Bool) : ∀ n, jr_al p n = true ↔ ∀ k, k < n → p k = true := by
  intro n
  rw [← jr_al_e (p := p) n (fun _ _ => rfl)]
  exact jb_all_iff p n
/-- how many leave it alike -/
theorem al_e {kd kd2 : Nat → Int32} (h : ∀ f, f < 12 → kd f = kd2 f) : j4_cnt (fun t => jb_all (fun f => kd (j7_g t f) == kd f) 12) 60 = jr_ct (j7_al kd2) 60 := by
  refine jr_ct_e 60 (fun t ht => ?_)
  refine jr_al_e 12 (fun f hf => ?_)
  show (kd (j7_g t f) == kd f) = decide (kd2 (j7_g t f) = kd2 f)
  rw [h f hf, h _ (j7_g_lt ht hf)]
  rfl
/-- how many bring the image -/
theorem li_e {kd kd2 im img : Nat → Int32} {b : Nat} (h : ∀ f, f < 12 → kd f = kd2 f) (hi : ∀ f, f < 12 → im f = img (15 * b + f)) : j4_cnt (fun t => jb_all (fun f => kd (j7_g t f) == im f) 12) 60 = jr_ct (j7_li kd2 img b) 60 := by
  rw [← jr_ct_i]
  refine jr_ct_e 60 (fun t ht => ?_)
  have hg : ∀ n, n < 60 → j7_g n = jg n := fun n hn => jg_e hn
  have hit := jgi_lt t ht
  have key : jb_all (fun f => kd (j7_g t f) == im f) 12 = true ↔ j7_li kd2 img b (jgi t) = true := by
    unfold j7_li
    rw [jb_all_iff, jr_al_iff, hg t ht, hg _ hit]
    constructor
    · intro q f hf
      have h1 := q (jg (jgi t) f) (jg_lt _ hit f hf)
      rw [(jgi_g t ht f hf).2] at h1
      have h2 : kd f = im (jg (jgi t) f) := by simpa using h1
      show decide (img (15 * b + jg (jgi t) f) = kd2 f) = true
      rw [← hi _ (jg_lt _ hit f hf), ← h f hf]
      exact decide_eq_true h2.symm
    · intro q f hf
      have h1 := q (jg t f) (jg_lt _ ht f hf)
      rw [(jgi_g t ht f hf).1] at h1
      have h2 : img (15 * b + f) = kd2 (jg t f) := by simpa using h1
      show (kd (jg t f) == im f) = true
      rw [h _ (jg_lt _ ht f hf), hi f hf, h2]
      simp
  cases e1 : jb_all (fun f => kd (j7_g t f) == im f) 12 <;> cases e2 : j7_li kd2 img b (jgi t) <;> simp_all
/-- kinds turned -/
theorem tu_e {g : Nat → Nat} {kd kd2 tu rw' : Nat → Int32} : ∀ k, (∀ f, f < k → kd f = kd2 f) → ∀ j, (∃ i, i < k ∧ g i = j) → j1_tu g kd tu k j = jr_r g kd2 rw' k j := by
  intro k
  induction k with
  | zero => intro _ j ⟨i, h, _⟩; exact absurd h (Nat.not_lt_zero i)
  | succ k ih =>
    intro h j ⟨i, hi, e⟩
    rw [j1_tu, jr_r]
    by_cases c : j = g k
    · subst c
      rw [jU_at, jU_at]
      exact h k (Nat.lt_succ_self k)
    · rw [jU_ne _ _ c, jU_ne _ _ c]
      refine ih (fun f hf => h f (by omega)) j ⟨i, ?_, e⟩
      have : i ≠ k := fun q => c (by rw [← e, q])
      omega
theorem tu_12 {n : Nat} (hn : n < 60) {kd kd2 tu rw' : Nat → Int32} (h : ∀ f, f < 12 → kd f = kd2 f) {j : Nat} (hj : j < 12) : j1_tu (j7_g n) kd tu 12 j = jr_r (j7_g n) kd2 rw' 12 j := by
  refine tu_e 12 h j ⟨jg (jgi n) j, jg_lt _ (jgi_lt n hn) j hj, ?_⟩
  rw [jg_e hn]
  exact (jgi_g n hn j hj).2
theorem tu_ct {f g f2 g2 : Nat → Int32} : ∀ k, (∀ j, j < k → f j = f2 j ∧ g j = g2 j) → j1_ct f g k = jr_c f2 g2 k := by
  intro k
  induction k with
  | zero => intro _; rfl
  | succ k ih =>
    intro h
    rw [j1_ct, jr_c, ih (fun j hj => h j (by omega)), (h k (Nat.lt_succ_self k)).1, (h k (Nat.lt_succ_self k)).2]
    split <;> rfl
theorem tu_kn {n : Nat} (hn : n < 60) {kd rw' : Nat → Int32} {kn : Nat → Nat} (hk : ∀ f, f < 12 → kd f = nI (kn f) ∧ kn f < 4) {j : Nat} (hj : j < 12) : jr_r (j7_g n) kd rw' 12 j = nI (kn (jg (jgi n) j)) := by
  have key : ∀ k, k ≤ 12 → ∀ i, i < k → jr_r (j7_g n) kd rw' k (j7_g n i) = nI (kn i) := by
    intro k
    induction k with
    | zero => intro _ i h; exact absurd h (Nat.not_lt_zero i)
    | succ k ih =>
      intro hk2 i hi
      rw [jr_r]
      by_cases c : i = k
      · subst c
        rw [jU_at]
        exact (hk i (by omega)).1
      · rw [jU_ne]
        · exact ih (by omega) i (by omega)
        · intro q
          have h1 := (jgi_g n hn i (by omega)).1
          have h2 := (jgi_g n hn k (by omega)).1
          rw [jg_e hn] at q
          rw [q, h2] at h1
          exact c h1.symm
  have h1 := key 12 (Nat.le_refl 12) (jg (jgi n) j) (jg_lt _ (jgi_lt n hn) j hj)
  rw [show j7_g n (jg (jgi n) j) = j from by rw [jg_e hn]; exact (jgi_g n hn j hj).2] at h1
  exact h1
