/-! THE JUDGEMENT: a method's frame over a world of numbered cells. A cell: an object (its class, its fields), a row of ints, of booleans, of longs. Cell k lies at the address N + k, N being the heap's size at the law's entry; what lies outside (the table SEWN, the script, the texts' constants) has the numbers 1000000 and up. -/
abbrev jj_C : Type := (Nat × List Value) ⊕ (List Int32 ⊕ (List Int32 ⊕ List Int64))
abbrev jj_G : Type := Launch × Nat × va_G × ClassId × ClassId × ClassId × (Nat → Nat) × List Int32
abbrev jj_l (G : jj_G) : Launch := G.1
abbrev jj_N (G : jj_G) : Nat := G.2.1
abbrev jj_D (G : jj_G) : va_G := G.2.2.1
abbrev jj_I (G : jj_G) : ClassId := G.2.2.2.1
abbrev jj_Z (G : jj_G) : ClassId := G.2.2.2.2.1
abbrev jj_J (G : jj_G) : ClassId := G.2.2.2.2.2.1
abbrev jj_x (G : jj_G) : Nat → Nat := G.2.2.2.2.2.2.1
abbrev jj_scr (G : jj_G) : List Int32 := G.2.2.2.2.2.2.2
def jj_ad (G : jj_G) (k : Nat) : Nat := if k < 1000000 then jj_N G + k else jj_x G (k - 1000000)
def jj_v (G : jj_G) : Value → Value
  | .ref k => .ref (jj_ad G k)
  | v => v
theorem jj_v_cat (G : jj_G) (v : Value) : (jj_v G v).category = v.category := by cases v <;> rfl
def jj_E (G : jj_G) : jj_C → va_E
  | .inl o => .inr (o.1, o.2.map (jj_v G))
  | .inr (.inl xs) => .inl (jj_I G, xs.length, .inl (fun k => xs.getD k 0))
  | .inr (.inr (.inl xs)) => .inl (jj_Z G, xs.length, .inl (fun k => xs.getD k 0))
  | .inr (.inr (.inr xs)) => .inl (jj_J G, xs.length, .inr (.inl (fun k => xs.getD k 0)))
def jj_W (G : jj_G) (h : List jj_C) : va_W := h.mapIdx (fun k c => (jj_N G + k, jj_E G c))
def jj_R (G : jj_G) (h : List jj_C) (H : Heap) : Prop := va_P (jj_D G) vwCl (jj_W G h) H ∧ H.size = jj_N G + h.length ∧ h.length ≤ 1000000
def jj_A (G : jj_G) : Nat → Prop := fun q => jj_N G ≤ q
abbrev jj_tys (G : jj_G) : List (ClassId × FieldType) := [(jj_I G, .int), (jj_Z G, .boolean), (jj_J G, .long)]
theorem jj_W_get {G : jj_G} {h : List jj_C} {k : Nat} {c : jj_C} (hk : h[k]? = some c) : (jj_W G h)[k]? = some (jj_N G + k, jj_E G c) := by
  unfold jj_W
  rw [List.getElem?_mapIdx, hk]
  rfl
theorem jj_W_get' {G : jj_G} {h : List jj_C} {k : Nat} {q : Nat × va_E} (hk : (jj_W G h)[k]? = some q) : ∃ c, h[k]? = some c ∧ q = (jj_N G + k, jj_E G c) := by
  unfold jj_W at hk
  rw [List.getElem?_mapIdx] at hk
  cases hc : h[k]? with
  | none => rw [hc] at hk; cases hk
  | some c => rw [hc] at hk; exact ⟨c, rfl, (Option.some.inj hk).symm⟩
theorem jj_W_D (G : jj_G) (h : List jj_C) : va_D (jj_A G) (jj_W G h) := by
  refine ⟨fun i j p q hi hj he => ?_, fun k q hk => ?_⟩
  · obtain ⟨c, -, rfl⟩ := jj_W_get' hi
    obtain ⟨c', -, rfl⟩ := jj_W_get' hj
    have : jj_N G + i = jj_N G + j := he
    omega
  · obtain ⟨c, -, rfl⟩ := jj_W_get' hk
    exact Nat.le_add_right _ _
theorem jj_W_set (G : jj_G) (h : List jj_C) (k : Nat) (c : jj_C) : (jj_W G h).set k (jj_N G + k, jj_E G c) = jj_W G (h.set k c) := by
  unfold jj_W
  apply List.ext_getElem?
  intro i
  rw [List.getElem?_mapIdx, List.getElem?_set, List.getElem?_set]
  simp only [List.length_mapIdx, List.getElem?_mapIdx]
  by_cases hik : k = i
  · subst hik
    by_cases hl : k < h.length
    · simp [hl]
    · simp [hl]
  · simp [hik]
theorem jj_W_app (G : jj_G) (h : List jj_C) (c : jj_C) : jj_W G h ++ [(jj_N G + h.length, jj_E G c)] = jj_W G (h ++ [c]) := by
  unfold jj_W
  simp [List.mapIdx_append]
theorem jj_ad_lo {G : jj_G} {k : Nat} (h : k < 1000000) : jj_ad G k = jj_N G + k := if_pos h
theorem jj_R_lt {G : jj_G} {h : List jj_C} {H : Heap} (hR : jj_R G h H) {k : Nat} {c : jj_C} (hk : h[k]? = some c) : k < 1000000 := by
  have := (List.getElem?_eq_some_iff.mp hk).1
  have := hR.2.2
  omega
/-- a cell is written -/
theorem jj_R_set {G : jj_G} {h : List jj_C} {H H1 : Heap} {k : Nat} {c : jj_C} (hR : jj_R G h H) (hP : va_P (jj_D G) vwCl (jj_W G (h.set k c)) H1) (hz : H1.size = H.size) : jj_R G (h.set k c) H1 := ⟨hP, by rw [hz, hR.2.1, List.length_set], by rw [List.length_set]; exact hR.2.2⟩
-- the texts' constants
def jj_tx : List String := ["fallow", "wheat", "vine", "well", "wall", "gate", "stand", "town"]
def jj_ti : List Nat := [74, 80, 82, 84, 86, 88, 90, 92]
def jj_tl : List Nat := [6, 5, 4, 4, 4, 4, 5, 4]
def jj_tb : List (List Int32) := [[102, 97, 108, 108, 111, 119], [119, 104, 101, 97, 116], [118, 105, 110, 101], [119, 101, 108, 108], [119, 97, 108, 108], [103, 97, 116, 101], [115, 116, 97, 110, 100], [116, 111, 119, 110]]
def jj_sewn : List Int32 := [1, 2, 3, 4, 5, 0, 5, 10, 6, 2, 0, 1, 6, 7, 3, 0, 2, 7, 8, 4, 0, 3, 8, 9, 5, 0, 4, 9, 10, 1, 1, 10, 11, 7, 2, 2, 6, 11, 8, 3, 3, 7, 11, 9, 4, 4, 8, 11, 10, 5, 5, 9, 11, 6, 1, 10, 9, 8, 7, 6]
def jj_nest : List Cond := [.methodLinkNest RX6 11 ⟨RX3, "<init>", "()V"⟩ RX6, .methodLinkNest RX6 32 ⟨RX2, "<init>", "()V"⟩ RX6, .methodLinkNest RX6 39 ⟨RX1, "<init>", "()V"⟩ RX6]
/-- what lies outside and stays -/
def jj_O1 (G : jj_G) (U : State) (H : Heap) : Prop :=
  va_Z "BallTown$Ball" "SEWN" "[I" (.ref (jj_x G 0)) (jj_A G) U H ∧ va_T .int (jj_x G 0) 60 (fun j => .int (jj_sewn.getD j 0)) (jj_A G) U H ∧
  va_T .int (jj_x G 1) (jj_scr G).length (fun j => .int ((jj_scr G).getD j 0)) (jj_A G) U H ∧
  vk_S 8 jj_tl jj_tb (fun i => jj_x G (2 + i)) (fun i => jj_x G (10 + i)) (jj_A G) U H ∧
  va_Z "java/lang/String" "COMPACT_STRINGS" "Z" (.int 1) (jj_A G) U H ∧ (va_Z "jdk/internal/util/Preconditions" "SIOOBE_FORMATTER" "Ljava/util/function/BiFunction;" .null (jj_A G) U H ∨ va_Z "jdk/internal/util/Preconditions" "SIOOBE_FORMATTER" "Ljava/util/function/BiFunction;" (.ref (jj_x G 18)) (jj_A G) U H)
def jj_O2 (G : jj_G) (U : State) : Prop := (∀ i, i < 8 → vk_R RX3 (jj_ti.getD i 0) (jj_tx.getD i "") (jj_x G (2 + i)) U) ∧ ∀ w ∈ jj_nest, va_Nw w U
theorem jj_O1_moved {G : jj_G} {u U : State} {H : Heap} (hvm : u.vm.Alike U.vm) (h : jj_O1 G u H) : jj_O1 G U H := ⟨va_Z.moved hvm h.1, va_T.moved hvm h.2.1, va_T.moved hvm h.2.2.1, vk_S.moved hvm h.2.2.2.1, va_Z.moved hvm h.2.2.2.2.1, h.2.2.2.2.2.imp (va_Z.moved hvm) (va_Z.moved hvm)⟩
theorem jj_O1_kept {G : jj_G} {U : State} {H H1 : Heap} (h : jj_O1 G U H) (hq : ∀ a : Nat, a < H.size → ¬ jj_A G a → H1[a]? = H[a]?) : jj_O1 G U H1 := ⟨h.1.kept hq, h.2.1.kept hq, h.2.2.1.kept hq, h.2.2.2.1.kept hq, h.2.2.2.2.1.kept hq, h.2.2.2.2.2.imp (fun z => z.kept hq) (fun z => z.kept hq)⟩
theorem jj_O2_warm {G : jj_G} {s U : State} (hW : s.WarmedH U.vm) (h : jj_O2 G s) : jj_O2 G U := by
  refine ⟨fun i hi => vk_R.warm hW (h.1 i hi), fun w hw => ?_⟩
  have h1 := h.2 w hw
  simp only [jj_nest, List.mem_cons, List.not_mem_nil, or_false] at hw
  rcases hw with rfl | rfl | rfl
  · exact va_Nw.warmM hW h1
  · exact va_Nw.warmM hW h1
  · exact va_Nw.warmM hW h1
/-- the words that stand in all methods -/
def jj_ws : List Cond := lw_tbl.filter goodWord
theorem jj_ws_good {w : Cond} (h : w ∈ jj_ws) : (w.onTables && w.keeps) = true ∨ ∃ ty, w = .arrayClass ty := good_of_word (List.mem_filter.mp h).2
theorem jj_ws_in {w : Cond} (h : w ∈ jj_ws) : w ∈ lw_tbl := (List.mem_filter.mp h).1
theorem jj_good {ws : List Cond} (h : ∀ w ∈ ws, w ∈ jj_ws) : GoodIn jj_ws ws := fun w hw => ⟨h w hw, jj_ws_good (h w hw)⟩
/-- a method: its name, its bytes, its locals, what it returns -/
abbrev jj_M : Type := MethodName × ByteArray × Nat × Option FieldType
abbrev jj_y (M : jj_M) : MethodName := M.1
abbrev jj_b (M : jj_M) : ByteArray := M.2.1
abbrev jj_n (M : jj_M) : Nat := M.2.2.1
abbrev jj_r (M : jj_M) : Option FieldType := M.2.2.2
def jj_rI (r : Option FieldType) : Instr := match r with
  | none => .return_
  | some .long => .lreturn
  | some (.object _) => .areturn
  | some (.array _) => .areturn
  | some _ => .ireturn
/-- the locals: what is known of each -/
def jj_lE (G : jj_G) : Nat → List (Option Value) → List (Nat × Value)
  | _, [] => []
  | k, none :: t => jj_lE G (k + 1) t
  | k, some v :: t => (k, jj_v G v) :: jj_lE G (k + 1) t
theorem jj_lE_mem {G : jj_G} (lo : List (Option Value)) : ∀ (k : Nat) (q : Nat × Value), q ∈ jj_lE G k lo ↔ ∃ (j : Nat) (v : Value), lo[j]? = some (some v) ∧ q = (k + j, jj_v G v) := by
  induction lo with
  | nil => intro k q; simp [jj_lE]
  | cons a t ih =>
    intro k q
    have hs : ∀ (P : Nat → Prop), (∃ j, P j) ↔ P 0 ∨ ∃ j, P (j + 1) := by
      intro P
      constructor
      · rintro ⟨j, h⟩
        cases j with
        | zero => exact Or.inl h
        | succ j => exact Or.inr ⟨j, h⟩
      · rintro (h | ⟨j, h⟩)
        · exact ⟨0, h⟩
        · exact ⟨j + 1, h⟩
    rw [hs]
    cases a with
    | none =>
      simp only [jj_lE, ih, List.getElem?_cons_zero, List.getElem?_cons_succ]
      constructor
      · rintro ⟨j, v, h1, h2⟩
        exact Or.inr ⟨j, v, h1, by rw [h2]; congr 1; omega⟩
      · rintro (⟨v, h1, -⟩ | ⟨j, v, h1, h2⟩)
        · simp at h1
        · exact ⟨j, v, h1, by rw [h2]; congr 1; omega⟩
    | some w =>
      simp only [jj_lE, List.mem_cons, ih, List.getElem?_cons_zero, List.getElem?_cons_succ]
      constructor
      · rintro (h | ⟨j, v, h1, h2⟩)
        · exact Or.inl ⟨w, rfl, by rw [h]; rfl⟩
        · exact Or.inr ⟨j, v, h1, by rw [h2]; congr 1; omega⟩
      · rintro (⟨v, h1, h2⟩ | ⟨j, v, h1, h2⟩)
        · left
          cases h1
          rw [h2]
          rfl
        · exact Or.inr ⟨j, v, h1, by rw [h2]; congr 1; omega⟩
def jj_L (G : jj_G) (ls : Array Slot) (n : Nat) (lo : List (Option Value)) : Prop := lv_has ls n (jj_lE G 0 lo)
theorem jj_L_at {G : jj_G} {ls : Array Slot} {n : Nat} {lo : List (Option Value)} (h : jj_L G ls n lo) {i : Nat} {v : Value} (hi : lo[i]? = some (some v)) : ls[i]? = some (.val (jj_v G v)) := h.2.2 (i, jj_v G v) ((jj_lE_mem lo 0 _).mpr ⟨i, v, hi, by rw [Nat.zero_add]⟩)
theorem jj_L_mono {G : jj_G} {ls : Array Slot} {n : Nat} {l : List (Nat × Value)} {lo : List (Option Value)} (h : lv_has ls n l) (hs : ∀ (j : Nat) (v : Value), lo[j]? = some (some v) → (j, jj_v G v) ∈ l) : jj_L G ls n lo := by
  refine ⟨h.1, h.2.1, fun q hq => ?_⟩
  obtain ⟨j, v, h1, h2⟩ := (jj_lE_mem lo 0 q).mp hq
  rw [Nat.zero_add] at h2
  subst h2
  exact h.2.2 _ (hs j v h1)
/-- what is known of the locals behind a store at i -/
def jj_is2 : Option (Option Value) → Bool
  | some (some v) => v.category == 2
  | _ => false
def jj_s (lo : List (Option Value)) (i : Nat) (v : Value) : List (Option Value) :=
  let l1 := match i with
    | 0 => lo
    | j + 1 => if jj_is2 lo[j]? then lo.set j none else lo
  let l2 := l1.set i (some v)
  if v.category == 2 then l2.set (i + 1) none else l2
theorem jj_s_get {lo : List (Option Value)} {i : Nat} {v : Value} {j : Nat} {u : Value} (h : (jj_s lo i v)[j]? = some (some u)) : (j = i ∧ u = v) ∨ (j ≠ i ∧ lo[j]? = some (some u) ∧ ¬ (j + 1 = i ∧ u.category = 2) ∧ (v.category = 2 → j ≠ i + 1)) := by
  have h1 : ∀ (l1 : List (Option Value)), (if v.category == 2 then (l1.set i (some v)).set (i + 1) none else l1.set i (some v))[j]? = some (some u) → (j = i ∧ u = v) ∨ (j ≠ i ∧ l1[j]? = some (some u) ∧ (v.category = 2 → j ≠ i + 1)) := by
    intro l1 h1
    by_cases hc : v.category = 2
    · simp only [hc, beq_self_eq_true, if_true] at h1
      rw [List.getElem?_set] at h1
      by_cases hj1 : i + 1 = j
      · rw [if_pos hj1] at h1
        split at h1 <;> simp at h1
      · rw [if_neg hj1, List.getElem?_set] at h1
        by_cases hj : i = j
        · rw [if_pos hj] at h1
          split at h1
          · left
            simp at h1
            exact ⟨hj.symm, h1.symm⟩
          · cases h1
        · rw [if_neg hj] at h1
          exact Or.inr ⟨fun e => hj e.symm, h1, fun _ e => hj1 e.symm⟩
    · have hc' : (v.category == 2) = false := by simpa using hc
      simp only [hc'] at h1
      simp only [Bool.false_eq_true, if_false] at h1
      rw [List.getElem?_set] at h1
      by_cases hj : i = j
      · rw [if_pos hj] at h1
        split at h1
        · left
          simp at h1
          exact ⟨hj.symm, h1.symm⟩
        · cases h1
      · rw [if_neg hj] at h1
        exact Or.inr ⟨fun e => hj e.symm, h1, fun e => absurd e hc⟩
  cases i with
  | zero =>
    rcases h1 lo h with h2 | ⟨h2, h3, h4⟩
    · exact Or.inl h2
    · exact Or.inr ⟨h2, h3, fun e => by omega, h4⟩
  | succ i =>
    rcases h1 _ h with h2 | ⟨h2, h3, h4⟩
    · exact Or.inl h2
    · right
      by_cases hi : jj_is2 lo[i]? = true
      · simp only [hi, if_true] at h3
        rw [List.getElem?_set] at h3
        by_cases hj : i = j
        · rw [if_pos hj] at h3
          split at h3 <;> simp at h3
        · rw [if_neg hj] at h3
          exact ⟨h2, h3, fun e => hj (by omega), h4⟩
      · have hi' : jj_is2 lo[i]? = false := by simpa using hi
        simp only [hi'] at h3
        simp only [Bool.false_eq_true, if_false] at h3
        refine ⟨h2, h3, fun e => ?_, h4⟩
        have ej : j = i := by omega
        subst ej
        rw [h3] at hi
        exact hi (by simp [jj_is2, e.2])
theorem jj_L_s1 {G : jj_G} {ls : Array Slot} {n i : Nat} {lo : List (Option Value)} {v w : Value} (hc : v.category = 1) (hv : w = jj_v G v) (h : lv_has ls n ((i, w) :: (jj_lE G 0 lo).filter (fun q => !(q.1 == i) && !(q.1 + 1 == i && q.2.category == 2)))) : jj_L G ls n (jj_s lo i v) := by
  subst hv
  refine jj_L_mono h fun j u hj => ?_
  rcases jj_s_get hj with ⟨rfl, rfl⟩ | ⟨h1, h2, h3, -⟩
  · exact List.mem_cons_self
  · refine List.mem_cons_of_mem _ (List.mem_filter.mpr ⟨(jj_lE_mem lo 0 _).mpr ⟨j, u, h2, by rw [Nat.zero_add]⟩, ?_⟩)
    have := jj_v_cat G u
    simp only [Bool.and_eq_true, Bool.not_eq_true', beq_eq_false_iff_ne, ne_eq, Bool.and_eq_false_iff, this]
    refine ⟨h1, ?_⟩
    by_cases e : j + 1 = i
    · exact Or.inr (fun e2 => h3 ⟨e, e2⟩)
    · exact Or.inl e
theorem jj_L_s2 {G : jj_G} {ls : Array Slot} {n i : Nat} {lo : List (Option Value)} {v w : Value} (hc : v.category = 2) (hv : w = jj_v G v) (h : lv_has ls n ((i, w) :: (jj_lE G 0 lo).filter (fun q => !(q.1 == i) && (!(q.1 == i + 1) && !(q.1 + 1 == i && q.2.category == 2))))) : jj_L G ls n (jj_s lo i v) := by
  subst hv
  refine jj_L_mono h fun j u hj => ?_
  rcases jj_s_get hj with ⟨rfl, rfl⟩ | ⟨h1, h2, h3, h4⟩
  · exact List.mem_cons_self
  · refine List.mem_cons_of_mem _ (List.mem_filter.mpr ⟨(jj_lE_mem lo 0 _).mpr ⟨j, u, h2, by rw [Nat.zero_add]⟩, ?_⟩)
    have := jj_v_cat G u
    simp only [Bool.and_eq_true, Bool.not_eq_true', beq_eq_false_iff_ne, ne_eq, Bool.and_eq_false_iff, this]
    refine ⟨h1, h4 hc, ?_⟩
    by_cases e : j + 1 = i
    · exact Or.inr (fun e2 => h3 ⟨e, e2⟩)
    · exact Or.inl e
/-- what is fixed in a method's body -/
def jj_X (G : jj_G) (M : jj_M) (d : Nat) (p : Program) (R : Room) (s : State) (m : MethodId) (args : Array Value) (meth : Method) (c : Code) : Prop :=
  p.tables.exec = Jvm.exec ∧ c.code = jj_b M ∧ meth.sig.returnType = jj_r M ∧ c.maxLocals = jj_n M ∧ s.vm.findClass (jj_y M).cls = some m.cls ∧ (∀ w ∈ jj_ws, w.before args s = true) ∧ meth.locks = false ∧ meth.name = (jj_y M).name ∧
  d ≤ R.frames ∧ 64 * d ≤ R.locals ∧ va_K (jj_D G) vwCl (jj_tys G) s ∧ jj_O1 G s s.heap ∧ jj_O2 G s ∧ jj_N G ≤ s.heap.size
theorem jj_X.ex {G : jj_G} {M : jj_M} {d : Nat} {p : Program} {R : Room} {s : State} {m : MethodId} {args : Array Value} {meth : Method} {c : Code} (h : jj_X G M d p R s m args meth c) : p.tables.exec = Jvm.exec := h.1
theorem jj_X.bt {G : jj_G} {M : jj_M} {d : Nat} {p : Program} {R : Room} {s : State} {m : MethodId} {args : Array Value} {meth : Method} {c : Code} (h : jj_X G M d p R s m args meth c) : c.code = jj_b M := h.2.1
theorem jj_X.own {G : jj_G} {M : jj_M} {d : Nat} {p : Program} {R : Room} {s : State} {m : MethodId} {args : Array Value} {meth : Method} {c : Code} (h : jj_X G M d p R s m args meth c) : s.vm.findClass (jj_y M).cls = some m.cls := h.2.2.2.2.1
theorem jj_X.ts {G : jj_G} {M : jj_M} {d : Nat} {p : Program} {R : Room} {s : State} {m : MethodId} {args : Array Value} {meth : Method} {c : Code} (h : jj_X G M d p R s m args meth c) : ∀ w ∈ jj_ws, w.before args s = true := h.2.2.2.2.2.1
theorem jj_X.K {G : jj_G} {M : jj_M} {d : Nat} {p : Program} {R : Room} {s : State} {m : MethodId} {args : Array Value} {meth : Method} {c : Code} (h : jj_X G M d p R s m args meth c) : va_K (jj_D G) vwCl (jj_tys G) s := h.2.2.2.2.2.2.2.2.2.2.1
theorem jj_X.O {G : jj_G} {M : jj_M} {d : Nat} {p : Program} {R : Room} {s : State} {m : MethodId} {args : Array Value} {meth : Method} {c : Code} (h : jj_X G M d p R s m args meth c) : jj_O1 G s s.heap ∧ jj_O2 G s ∧ jj_N G ≤ s.heap.size := h.2.2.2.2.2.2.2.2.2.2.2
theorem jj_X.rm {G : jj_G} {M : jj_M} {d : Nat} {p : Program} {R : Room} {s : State} {m : MethodId} {args : Array Value} {meth : Method} {c : Code} (h : jj_X G M d p R s m args meth c) : d ≤ R.frames ∧ 64 * d ≤ R.locals := ⟨h.2.2.2.2.2.2.2.2.1, h.2.2.2.2.2.2.2.2.2.1⟩
/-- from the frame at pc, with these locals, this stack and this world, the method comes to its return with r and the world h' (kc cells of ks slots made) -/
def jj_Go (G : jj_G) (M : jj_M) (d pc : Nat) (lo : List (Option Value)) (st : List Value) (h : List jj_C) (kc ks : Nat) (r : Option Value) (h' : List jj_C) : Prop :=
  ∀ (p : Program) (e : Env) (R : Room) (s : State) (m : MethodId) (args : Array Value) (below : List Frame) (meth : Method) (c : Code), jj_X G M d p R s m args meth c →
    ∀ (H : Heap) (locs : List Loc) (cells slots : Nat) (ls : Array Slot) (Q : State → Prop), jj_R G h H → va_S (jj_A G) s.heap H locs → jj_L G ls (jj_n M) lo → cells + kc ≤ R.cells → slots + ks ≤ R.slots →
      (∀ (pc' : Nat) (ls' : Array Slot) (H' : Heap) (locs' : List Loc), decode (jj_b M) pc' = .ok (jj_rI (jj_r M), 1) → jj_R G h' H' → va_S (jj_A G) s.heap H' locs' → W p (jj_l G) e R s m args below meth c H' locs' (cells + kc) (slots + ks) Q (F0 m pc' ls' (r.map (jj_v G)).toList)) →
      W p (jj_l G) e R s m args below meth c H locs cells slots Q (F0 m pc ls (st.map (jj_v G)))
/-- a method's contract: at this world, with these arguments, it returns r and the world h' -/
def jj_Ev (G : jj_G) (M : jj_M) (d : Nat) (av : List Value) (h : List jj_C) (kc ks : Nat) (r : Option Value) (h' : List jj_C) : Prop :=
  Met (jj_l G) (jj_y M) (.code (jj_y M) (jj_b M) (jj_n M) (jj_r M) :: jj_ws) { frames := d, cells := kc, slots := ks, locals := 64 * d }
    (va_Pc (av.map (jj_v G)) (fun U => jj_R G h U.heap ∧ va_K (jj_D G) vwCl (jj_tys G) U ∧ jj_O1 G U U.heap ∧ jj_O2 G U))
    (fun _ st oc t => oc = .returned (r.map (jj_v G)) ∧ jj_R G h' t.heap ∧ va_F (jj_A G) st t) kc ks (jj_A G)
/-- what may be returned -/
def jj_ok (rt : Option FieldType) (r : Option Value) : Prop := match rt, r with
  | none, none => True
  | some .long, some (.long _) => True
  | some (.object _), some (.ref _) => True
  | some .int, some (.int _) => True
  | some .boolean, some (.int v) => v = 0 ∨ v = 1
  | some .char, some (.int v) => narrow .char (.int v) = .int v
  | some .byte, some (.int v) => narrow .byte (.int v) = .int v
  | _, _ => False
