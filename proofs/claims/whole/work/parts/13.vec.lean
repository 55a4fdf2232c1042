/-! rows of numbers told as functions: jv n f -/
def jv {α : Type} (n : Nat) (f : Nat → α) : List α := (List.range n).map f
theorem jv_len {α : Type} (n : Nat) (f : Nat → α) : (jv n f).length = n := by simp [jv]
theorem jv_get {α : Type} {n k : Nat} (f : Nat → α) (y : α) (hk : k < n) : (jv n f).getD k y = f k := by
  unfold jv
  rw [List.getD_eq_getElem?_getD, List.getElem?_map, List.getElem?_range hk]
  rfl
/-- one place is another -/
def jU {α : Type} (f : Nat → α) (k : Nat) (x : α) : Nat → α := fun j => if j = k then x else f j
theorem jU_at {α : Type} (f : Nat → α) (k : Nat) (x : α) : jU f k x k = x := if_pos rfl
theorem jU_ne {α : Type} (f : Nat → α) {k j : Nat} (x : α) (h : j ≠ k) : jU f k x j = f j := if_neg h
theorem jv_set {α : Type} (n : Nat) (f : Nat → α) (k : Nat) (x : α) : (jv n f).set k x = jv n (jU f k x) := by
  unfold jv
  apply List.ext_getElem?
  intro i
  rw [List.getElem?_set, List.getElem?_map, List.getElem?_map]
  simp only [List.length_map, List.length_range]
  by_cases hi : k = i
  · subst hi
    by_cases hl : k < n
    · rw [if_pos rfl, if_pos hl, List.getElem?_range hl]
      simp [jU]
    · rw [if_pos rfl, if_neg hl, List.getElem?_eq_none (by simp; omega)]
      rfl
  · rw [if_neg hi]
    cases h : (List.range n)[i]? with
    | none => rfl
    | some j =>
      have : j = i := by
        have h2 := List.getElem?_eq_some_iff.mp h
        obtain ⟨h3, h4⟩ := h2
        simp at h4
        exact h4.symm
      subst this
      simp [jU, Ne.symm hi]
theorem jv_cong {α : Type} {n : Nat} {f g : Nat → α} (h : ∀ k, k < n → f k = g k) : jv n f = jv n g := by
  unfold jv
  exact List.map_congr_left fun k hk => h k (List.mem_range.mp hk)
theorem jv_rep {α : Type} (n : Nat) (x : α) : List.replicate n x = jv n (fun _ => x) := by
  unfold jv
  apply List.ext_getElem?
  intro i
  rw [List.getElem?_replicate, List.getElem?_map]
  by_cases h : i < n
  · rw [if_pos h, List.getElem?_range h]
    rfl
  · rw [if_neg h, List.getElem?_eq_none (by simp; omega)]
    rfl
section JV
variable {G : jj_G} {M : jj_M} {d pc : Nat} {lo : List (Option Value)} {st : List Value} {h : List jj_C} {kc ks : Nat} {r : Option Value} {h' : List jj_C}
theorem jv_iald {a n k : Nat} {f : Nat → Int32} (hd : decode (jj_b M) pc = .ok (.iaload, 1)) (ho : h[a]? = some (.inr (.inl (jv n f)))) (hk : k < n) (hn : n ≤ 2 ^ 31) (K : jj_Go G M d (pc + 1) lo (.int (f k) :: st) h kc ks r h') : jj_Go G M d pc lo (.int (nI k) :: .ref a :: st) h kc ks r h' := by
  have hk' : k < 2 ^ 31 := Nat.lt_of_lt_of_le hk hn
  exact jj_iald hd ho (by rw [jv_len]; exact jb_in hk hn) (by rw [nI_clamp hk', jv_get f _ hk]) K
theorem jv_alen_i {a n : Nat} {f : Nat → Int32} {v : Int32} (hd : decode (jj_b M) pc = .ok (.arraylength, 1)) (ho : h[a]? = some (.inr (.inl (jv n f)))) (hv : nI n = v) (K : jj_Go G M d (pc + 1) lo (.int v :: st) h kc ks r h') : jj_Go G M d pc lo (.ref a :: st) h kc ks r h' := jj_alen_i hd ho (by rw [jv_len]; exact hv) K
theorem jv_zald {a n k : Nat} {f : Nat → Int32} (hd : decode (jj_b M) pc = .ok (.baload, 1)) (ho : h[a]? = some (.inr (.inr (.inl (jv n f))))) (hk : k < n) (hn : n ≤ 2 ^ 31) (K : jj_Go G M d (pc + 1) lo (.int (f k) :: st) h kc ks r h') : jj_Go G M d pc lo (.int (nI k) :: .ref a :: st) h kc ks r h' := by
  have hk' : k < 2 ^ 31 := Nat.lt_of_lt_of_le hk hn
  exact jj_zald hd ho (by rw [jv_len]; exact jb_in hk hn) (by rw [nI_clamp hk', jv_get f _ hk]) K
theorem jv_alen_z {a n : Nat} {f : Nat → Int32} {v : Int32} (hd : decode (jj_b M) pc = .ok (.arraylength, 1)) (ho : h[a]? = some (.inr (.inr (.inl (jv n f))))) (hv : nI n = v) (K : jj_Go G M d (pc + 1) lo (.int v :: st) h kc ks r h') : jj_Go G M d pc lo (.ref a :: st) h kc ks r h' := jj_alen_z hd ho (by rw [jv_len]; exact hv) K
theorem jv_lald {a n k : Nat} {f : Nat → Int64} (hd : decode (jj_b M) pc = .ok (.laload, 1)) (ho : h[a]? = some (.inr (.inr (.inr (jv n f))))) (hk : k < n) (hn : n ≤ 2 ^ 31) (K : jj_Go G M d (pc + 1) lo (.long (f k) :: st) h kc ks r h') : jj_Go G M d pc lo (.int (nI k) :: .ref a :: st) h kc ks r h' := by
  have hk' : k < 2 ^ 31 := Nat.lt_of_lt_of_le hk hn
  exact jj_lald hd ho (by rw [jv_len]; exact jb_in hk hn) (by rw [nI_clamp hk', jv_get f _ hk]) K
theorem jv_alen_l {a n : Nat} {f : Nat → Int64} {v : Int32} (hd : decode (jj_b M) pc = .ok (.arraylength, 1)) (ho : h[a]? = some (.inr (.inr (.inr (jv n f))))) (hv : nI n = v) (K : jj_Go G M d (pc + 1) lo (.int v :: st) h kc ks r h') : jj_Go G M d pc lo (.ref a :: st) h kc ks r h' := jj_alen_l hd ho (by rw [jv_len]; exact hv) K
theorem jv_iast {a n k : Nat} {f : Nat → Int32} {x : Int32} {h2 : List jj_C} (hd : decode (jj_b M) pc = .ok (.iastore, 1)) (ho : h[a]? = some (.inr (.inl (jv n f)))) (hk : k < n) (hn : n ≤ 2 ^ 31) (hh : h.set a (.inr (.inl (jv n (jU f k x)))) = h2) (K : jj_Go G M d (pc + 1) lo st h2 kc ks r h') : jj_Go G M d pc lo (.int x :: .int (nI k) :: .ref a :: st) h kc ks r h' := by
  have hk' : k < 2 ^ 31 := Nat.lt_of_lt_of_le hk hn
  exact jj_iast hd ho (by rw [jv_len]; exact jb_in hk hn) (by rw [nI_clamp hk', jv_set]) hh K
theorem jv_zast {a n k : Nat} {f : Nat → Int32} {x : Int32} {h2 : List jj_C} (hd : decode (jj_b M) pc = .ok (.bastore, 1)) (ho : h[a]? = some (.inr (.inr (.inl (jv n f))))) (hk : k < n) (hn : n ≤ 2 ^ 31) (hh : h.set a (.inr (.inr (.inl (jv n (jU f k (x &&& 1)))))) = h2) (K : jj_Go G M d (pc + 1) lo st h2 kc ks r h') : jj_Go G M d pc lo (.int x :: .int (nI k) :: .ref a :: st) h kc ks r h' := by
  have hk' : k < 2 ^ 31 := Nat.lt_of_lt_of_le hk hn
  exact jj_zast hd ho (by rw [jv_len]; exact jb_in hk hn) (by rw [nI_clamp hk', jv_set]) hh K
theorem jv_last {a n k : Nat} {f : Nat → Int64} {x : Int64} {h2 : List jj_C} (hd : decode (jj_b M) pc = .ok (.lastore, 1)) (ho : h[a]? = some (.inr (.inr (.inr (jv n f))))) (hk : k < n) (hn : n ≤ 2 ^ 31) (hh : h.set a (.inr (.inr (.inr (jv n (jU f k x))))) = h2) (K : jj_Go G M d (pc + 1) lo st h2 kc ks r h') : jj_Go G M d pc lo (.long x :: .int (nI k) :: .ref a :: st) h kc ks r h' := by
  have hk' : k < 2 ^ 31 := Nat.lt_of_lt_of_le hk hn
  exact jj_last hd ho (by rw [jv_len]; exact jb_in hk hn) (by rw [nI_clamp hk', jv_set]) hh K
end JV
