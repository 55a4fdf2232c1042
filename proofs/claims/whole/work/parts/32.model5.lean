/-! THE MODEL: the turnings as a table -/
def jz_s (Q : List Nat × List Nat) (f d : Nat) : List Nat × List Nat :=
  if Q.1.getD (jb_s f d) 12 = 12 then (Q.1.set (jb_s f d) (jb_s (Q.1.getD f 12) (jh_u d (Q.2.getD f 0))), Q.2.set (jb_s f d) ((jb_bk (Q.1.getD f 12) (jh_u d (Q.2.getD f 0)) + 5 - jb_bk f d) % 5)) else Q
def jz_i (Q : List Nat × List Nat) (f d : Nat) : Nat → List Nat × List Nat
  | 0 => Q
  | m + 1 => if Q.1.getD f 12 = 12 then Q else jz_i (jz_s Q f d) f (d + 1) m
def jz_I (Q : List Nat × List Nat) (f : Nat) : List Nat × List Nat := jz_i Q f 0 5
def jz_f (Q : List Nat × List Nat) (f : Nat) : Nat → List Nat × List Nat
  | 0 => Q
  | m + 1 => jz_f (jz_I Q f) (f + 1) m
def jz_F (Q : List Nat × List Nat) : List Nat × List Nat := jz_f Q 0 12
def jz_0 (a t : Nat) : List Nat × List Nat := ((List.replicate 12 12).set 0 a, (List.replicate 12 0).set 0 t)
def jz_r (a t : Nat) : List Nat × List Nat := jy_it jz_F (jz_0 a t) 3
def j7_g (n f : Nat) : Nat := (jz_r (n / 5) (n % 5)).1.getD f 12
def jz_V (P : (Nat → Int32) × (Nat → Int32)) (Q : List Nat × List Nat) (f : Nat) : Prop :=
  (Q.1.getD f 12 = 12 ∧ P.1 f = -1) ∨ (Q.1.getD f 12 < 12 ∧ P.1 f = nI (Q.1.getD f 12) ∧ Q.2.getD f 0 < 5 ∧ P.2 f = nI (Q.2.getD f 0))
def jz_R (P : (Nat → Int32) × (Nat → Int32)) (Q : List Nat × List Nat) : Prop := Q.1.length = 12 ∧ Q.2.length = 12 ∧ ∀ f, f < 12 → jz_V P Q f
theorem jz_at {l : List Nat} {k x e : Nat} (h : k < l.length) : (l.set k x).getD k e = x := by
  rw [List.getD_eq_getElem?_getD, List.getElem?_set_self h]; rfl
theorem jz_ne {l : List Nat} {k j x e : Nat} (h : j ≠ k) : (l.set k x).getD j e = l.getD j e := by
  rw [List.getD_eq_getElem?_getD, List.getElem?_set_ne (fun q => h q.symm), ← List.getD_eq_getElem?_getD]
theorem jz_Rs {P : (Nat → Int32) × (Nat → Int32)} {Q : List Nat × List Nat} (h : jz_R P Q) {f d : Nat} (hf : f < 12) (hd : d < 5) (hn : ¬ P.1 f = -1) : jz_R (jy_s P f d) (jz_s Q f d) := by
  have hg : jb_s f d < 12 := jb_s_lt f hf d hd
  obtain ⟨h1, h2, h3⟩ := h
  have hv := h3 _ hg
  have hw := (h3 f hf).resolve_left (fun z => hn z.2)
  unfold jy_s jz_s
  by_cases z : Q.1.getD (jb_s f d) 12 = 12
  · have z2 : P.1 (jb_s f d) = -1 := by
      rcases hv with q | q
      · exact q.2
      · omega
    rw [if_pos z, if_pos z2]
    have eA : jn (P.1 f) = Q.1.getD f 12 := by rw [hw.2.1, jn_n (by omega)]
    have eD : jy_u P f d = jh_u d (Q.2.getD f 0) := by unfold jy_u; rw [hw.2.2.2, jn_n (by omega)]
    rw [eA, eD]
    refine ⟨by rw [List.length_set]; exact h1, by rw [List.length_set]; exact h2, fun j hj => ?_⟩
    unfold jz_V
    dsimp only
    by_cases e : j = jb_s f d
    · subst e
      rw [jz_at (by omega), jz_at (by omega), jU_at, jU_at]
      exact .inr ⟨jb_s_lt _ hw.1 _ (jh_u_lt _ _), rfl, Nat.mod_lt _ (by decide), rfl⟩
    · rw [jz_ne e, jz_ne e, jU_ne _ _ e, jU_ne _ _ e]
      exact h3 j hj
  · have z2 : ¬ P.1 (jb_s f d) = -1 := by
      rcases hv with q | q
      · exact absurd q.1 z
      · rw [q.2.1]; exact jy_n1 q.1
    rw [if_neg z, if_neg z2]
    exact ⟨h1, h2, h3⟩
theorem jz_Ri {f : Nat} (hf : f < 12) : ∀ m d (P : (Nat → Int32) × (Nat → Int32)) (Q : List Nat × List Nat), d + m ≤ 5 → jz_R P Q → jz_R (jy_i P f d m) (jz_i Q f d m) := by
  intro m
  induction m with
  | zero => intro d P Q _ h; exact h
  | succ m ih =>
    intro d P Q hd h
    unfold jy_i jz_i
    by_cases z : P.1 f = -1
    · have z2 : Q.1.getD f 12 = 12 := by
        rcases h.2.2 f hf with q | q
        · exact q.1
        · rw [q.2.1] at z; exact absurd z (jy_n1 q.1)
      rw [if_pos z, if_pos z2]; exact h
    · have z2 : ¬ Q.1.getD f 12 = 12 := by
        rcases h.2.2 f hf with q | q
        · exact absurd q.2 z
        · omega
      rw [if_neg z, if_neg z2]
      exact ih (d + 1) _ _ (by omega) (jz_Rs h hf (by omega) z)
theorem jz_f1 (Q : List Nat × List Nat) (f m : Nat) : jz_f Q f (m + 1) = jz_f (jz_I Q f) (f + 1) m := rfl
def jy_I (P : (Nat → Int32) × (Nat → Int32)) (f : Nat) : (Nat → Int32) × (Nat → Int32) := jy_i P f 0 5
theorem jy_f1 (P : (Nat → Int32) × (Nat → Int32)) (f m : Nat) : jy_f P f (m + 1) = jy_f (jy_I P f) (f + 1) m := rfl
theorem jz_RI {P : (Nat → Int32) × (Nat → Int32)} {Q : List Nat × List Nat} {f : Nat} (hf : f < 12) (h : jz_R P Q) : jz_R (jy_I P f) (jz_I Q f) := jz_Ri hf 5 0 P Q (by decide) h
theorem jz_Rf : ∀ m f (P : (Nat → Int32) × (Nat → Int32)) (Q : List Nat × List Nat), f + m ≤ 12 → jz_R P Q → jz_R (jy_f P f m) (jz_f Q f m) := by
  intro m
  induction m with
  | zero => intro f P Q _ h; exact h
  | succ m ih =>
    intro f P Q hf h
    rw [jz_f1, jy_f1]
    exact ih (f + 1) _ _ (by omega) (jz_RI (by omega) h)
theorem jz_RF {P : (Nat → Int32) × (Nat → Int32)} {Q : List Nat × List Nat} (h : jz_R P Q) : jz_R (jy_F P) (jz_F Q) := jz_Rf 12 0 P Q (by decide) h
theorem jz_Rr : ∀ m (P : (Nat → Int32) × (Nat → Int32)) (Q : List Nat × List Nat), jz_R P Q → jz_R (jy_it jy_F P m) (jy_it jz_F Q m) := by
  intro m
  induction m with
  | zero => intro P Q h; exact h
  | succ m ih =>
    intro P Q h
    rw [jy_it1, jy_it1]
    exact ih _ _ (jz_RF h)
theorem jz_R0 (s : jj_S) {a t : Nat} (ha : a < 12) (ht : t < 5) : jz_R (jy_0 s a t) (jz_0 a t) := by
  refine ⟨rfl, rfl, fun f hf => ?_⟩
  by_cases e : f = 0
  · subst e; exact .inr ⟨ha, jU_at (jF (fun _ => -1) (mo_to s) 12) 0 (nI a), ht, jU_at (mo_on s) 0 (nI t)⟩
  · refine .inl ⟨?_, (jU_ne (jF (fun _ => -1) (mo_to s) 12) (nI a) e).trans (if_pos hf)⟩
    show ((List.replicate 12 12).set 0 a).getD f 12 = 12
    rw [jz_ne e]
    exact (by decide : ∀ f, f < 12 → (List.replicate 12 12).getD f 12 = 12) f hf
theorem j7_g_all : ∀ n, n < 60 → (jz_r (n / 5) (n % 5)).1.all (fun x => Nat.blt x 12) = true := by decide +kernel
theorem j7_g_len : ∀ n, n < 60 → (jz_r (n / 5) (n % 5)).1.length = 12 := by decide +kernel
theorem j7_g_lt {n f : Nat} (hn : n < 60) (hf : f < 12) : j7_g n f < 12 := by
  have h1 := List.all_eq_true.mp (j7_g_all n hn)
  have h2 := j7_g_len n hn
  unfold j7_g
  generalize (jz_r (n / 5) (n % 5)).1 = l at h1 h2
  rw [List.getD_eq_getElem?_getD, List.getElem?_eq_getElem (by omega)]
  exact Nat.le_of_ble_eq_true (h1 _ (List.getElem_mem (by omega)))
/-- where a laid turning sends each field -/
theorem j7_la_to (s : jj_S) {a t f : Nat} (ha : a < 12) (ht : t < 5) (hf : f < 12) : mo_to (j7_la s a t) f = nI (j7_g (5 * a + t) f) := by
  have h := (jz_Rr 3 _ _ (jz_R0 s ha ht)).2.2 f hf
  have hl := j7_g_lt (n := 5 * a + t) (by omega) hf
  have e : j7_g (5 * a + t) f = (jz_r a t).1.getD f 12 := by
    unfold j7_g; rw [show (5 * a + t) / 5 = a by omega, show (5 * a + t) % 5 = t by omega]
  rw [e] at hl ⊢
  unfold jz_r at hl ⊢
  have e2 : mo_to (j7_la s a t) = (jy_r (jy_0 s a t) 3).1 := by
    unfold j7_la jy_S
    generalize jy_r (jy_0 s a t) 3 = P
    rfl
  rw [e2]
  unfold jy_r
  generalize jy_it jy_F (jy_0 s a t) 3 = P at h ⊢
  generalize jy_it jz_F (jz_0 a t) 3 = Q at h hl ⊢
  rcases h with q | q
  · omega
  · exact q.2.1
