/-! THE CLAIM OUT OF ONE WALK OF THE LAW'S BODY. Your part is whole_start (and what it stands on); all else here is the same for every law, but numbers. -/
def R_law : String := "BallTownLaw"
def lw_P (b : Addr) (xs : List Int32) (args : Array Value) (s : State) : Prop := args = #[.ref b] ∧ s.IntsAt b xs ∧ xs.length ≤ 320 ∧ (Jvm.Cond.and given_1 narrow_1).before args s = true
def lw_Q (_ : Array Value) (s : State) (o : Outcome) (t : State) : Prop := o = .returned (some (.int 1)) ∧ Framed s o t [] 600000 7302250
def lw_Z (below : List Frame) (a : Array Value) (s : State) : State → Prop := fun t => ∃ o, t.status = .running ∧ Ended t below o ∧ lw_Q a s o t
/-- the law's own end, with 1 on the stack, nothing written that was there before, its room as the claim has it -/
theorem lw_ret {p : Program} {l : Launch} {e : Env} {s : State} {m : MethodId} {below : List Frame} {meth : Method} {c : Code} {b : Nat} (hx : p.tables.exec = Jvm.exec) (hb : c.code = code) (hr : meth.sig.returnType = ret) (hlocks : meth.locks = false) {pc : Nat} {H : Heap} {ls : Array Slot} (hdg : decode code pc = .ok (.ireturn, 1)) : W p l e room_1 s m #[Value.ref b] below meth c H [] 600000 7302250 (lw_Z below #[Value.ref b] s) (F0 m pc ls [.int 1]) := by
  intro T hT X
  obtain ⟨fs, hret, hrun, hended, hW, hframe⟩ := X.leave (v := some (.int 1)) (hlocks := hlocks) (fun h => by rw [hr] at h; cases h)
  have hmeth' : T.vm.method? m = some meth := X.method'
  refine ⟨T.setFrames fs, ?_, .returned (some (.int 1)), hrun, hended, rfl, ⟨_, rfl⟩, hW, hframe⟩
  jvm_step X.here [X.here.top, hx, hb, hdg, hmeth', hr, ret, narrow_b1]
  (try refine ⟨rfl, ?_⟩); (try refine ⟨rfl, ?_⟩)
  first | (intro acts; rw [hret _ acts rfl rfl rfl]) | rw [hret _ _ rfl rfl rfl]
  exact Steps.refl _
/-- what holds at the law's entry: the machine, the code, the tables' words (any of lw_tbl by 'hts w (by decide +kernel)'), the script of L ints xs at the cell b, what the Statement gives of the start (any of its parts by flat_of_before) -/
def lw_At (p : Program) (s : State) (m : MethodId) (meth : Method) (c : Code) (b L : Nat) (xs : Nat → Int32) : Prop :=
  p.tables.exec = Jvm.exec ∧ c.code = code ∧ meth.sig.returnType = ret ∧ c.maxLocals = 4 ∧ s.vm.findClass R_law = some m.cls ∧ (∀ w ∈ lw_tbl, w.before #[Value.ref b] s = true) ∧ va_X b L xs s s.heap ∧ b < s.heap.size ∧ meth.locks = false ∧ (Jvm.Cond.and given_1 narrow_1).before #[Value.ref b] s = true
/-! THE ENTRY: what the Statement gives of the start, as the world that the law's walk asks -/
def wg_F : List Cond := flatC (Jvm.Cond.and given_1 narrow_1)
theorem wg_sew : ∀ j, j < 60 → Cond.eq (.elem (.static "BallTown$Ball" "SEWN" "[I") (.int (Int32.ofNat j))) (.int (jj_sewn.getD j 0)) ∈ wg_F := by decide +kernel
theorem wg_len : ∀ i, i < 8 → jj_tl.getD i 0 < 2 ^ 31 := by decide +kernel
theorem wg_ex : ∀ i, i < 8 → Cond.exactly (Term.string RX3 (jj_ti.getD i 0)) "java/lang/String" ∈ wg_F := by decide +kernel
theorem wg_co : ∀ i, i < 8 → Cond.eq (.field (Term.string RX3 (jj_ti.getD i 0)) "java/lang/String" "coder" "B") (.int 0) ∈ wg_F := by decide +kernel
theorem wg_ar : ∀ i, i < 8 → Cond.arrayOf (.field (Term.string RX3 (jj_ti.getD i 0)) "java/lang/String" "value" "[B") .byte ∈ wg_F := by decide +kernel
theorem wg_le : ∀ i, i < 8 → Cond.eq (.length (.field (Term.string RX3 (jj_ti.getD i 0)) "java/lang/String" "value" "[B")) (.int (Int32.ofNat (jj_tl.getD i 0))) ∈ wg_F := by decide +kernel
theorem wg_el : ∀ i, i < 8 → ∀ j, j < jj_tl.getD i 0 → Cond.eq (.elem (.field (Term.string RX3 (jj_ti.getD i 0)) "java/lang/String" "value" "[B") (.int (Int32.ofNat j))) (.int ((jj_tb.getD i []).getD j 0)) ∈ wg_F := by decide +kernel
theorem wg_ne : ∀ i, i < 8 → ∀ j, j < 8 → i ≠ j → Cond.not (Cond.eq (Term.string RX3 (jj_ti.getD i 0)) (Term.string RX3 (jj_ti.getD j 0))) ∈ wg_F ∨ Cond.not (Cond.eq (Term.string RX3 (jj_ti.getD j 0)) (Term.string RX3 (jj_ti.getD i 0))) ∈ wg_F := by decide +kernel
theorem wg_sr : ∀ i, i < 8 → Cond.stringRef RX3 (jj_ti.getD i 0) (jj_tx.getD i "") ∈ lw_tbl := by decide +kernel
theorem wg_nest : ∀ w ∈ jj_nest, w ∈ lw_tbl ∧ w.onTables = true := by decide +kernel
theorem wg_K {s : State} {args : Array Value} (hts : ∀ w ∈ lw_tbl, w.before args s = true) : ∃ (D : va_G) (I Z J : ClassId), va_K D vwCl [(I, .int), (Z, .boolean), (J, .long)] s := by
  obtain ⟨c0, i0, k0⟩ := u_known (n := 6) hts (fun w hw => jj_ws_in (jj_cl0.2.1 w hw)) (hts (.instantiable RX1 6) (by decide +kernel))
  obtain ⟨c1, i1, k1⟩ := u_known (n := 2) hts (fun w hw => jj_ws_in (jj_cl1.2.1 w hw)) (hts (.instantiable RX2 2) (by decide +kernel))
  obtain ⟨c2, i2, k2⟩ := u_known (n := 8) hts (fun w hw => jj_ws_in (jj_cl2.2.1 w hw)) (hts (.instantiable RX3 8) (by decide +kernel))
  obtain ⟨c3, i3, k3⟩ := u_known (n := 2) hts (fun w hw => jj_ws_in (jj_cl3.2.1 w hw)) (hts (.instantiable RX4 2) (by decide +kernel))
  obtain ⟨c4, i4, k4⟩ := u_known (n := 9) hts (fun w hw => jj_ws_in (jj_cl4.2.1 w hw)) (hts (.instantiable RX5 9) (by decide +kernel))
  obtain ⟨c5, i5, k5⟩ := u_known (n := 8) hts (fun w hw => jj_ws_in (jj_cl5.2.1 w hw)) (hts (.instantiable RX6 8) (by decide +kernel))
  obtain ⟨c6, i6, k6⟩ := u_known (n := 27) hts (fun w hw => jj_ws_in (jj_cl6.2.1 w hw)) (hts (.instantiable RX7 27) (by decide +kernel))
  obtain ⟨dC, dI, hKc⟩ : ∃ (dC : Nat → ClassId) (dI : Nat → Nat → Nat), ∀ (k : Nat) (q : vw_C), vwCl[k]? = some q → u_Kn s q.1 q.2.1 q.2.2 (dC k) (dI k) := by
    refine ⟨fun k => if k = 0 then c0 else if k = 1 then c1 else if k = 2 then c2 else if k = 3 then c3 else if k = 4 then c4 else if k = 5 then c5 else c6, fun k => if k = 0 then i0 else if k = 1 then i1 else if k = 2 then i2 else if k = 3 then i3 else if k = 4 then i4 else if k = 5 then i5 else i6, ?_⟩
    intro k q hq
    match k, hq with
    | 0, hq => cases hq; exact k0
    | 1, hq => cases hq; exact k1
    | 2, hq => cases hq; exact k2
    | 3, hq => cases hq; exact k3
    | 4, hq => cases hq; exact k4
    | 5, hq => cases hq; exact k5
    | 6, hq => cases hq; exact k6
    | k + 7, hq => simp [vwCl] at hq
  obtain ⟨I, kI, cI, fI, hI, uI⟩ := Cond.arrayClass_spec (hts (.arrayClass .int) (by decide +kernel))
  obtain ⟨Z, kZ, cZ, fZ, hZ, uZ⟩ := Cond.arrayClass_spec (hts (.arrayClass .boolean) (by decide +kernel))
  obtain ⟨J, kJ, cJ, fJ, hJ, uJ⟩ := Cond.arrayClass_spec (hts (.arrayClass .long) (by decide +kernel))
  refine ⟨(dC, dI), I, Z, J, hKc, fun k q hq => ?_⟩
  match k, hq with
  | 0, hq => cases hq; exact ⟨fun n z => ⟨fun k h => (by cases h), kI, hI, cI, uI⟩, fI⟩
  | 1, hq => cases hq; exact ⟨fun n z => ⟨fun k h => (by cases h), kZ, hZ, cZ, uZ⟩, fZ⟩
  | 2, hq => cases hq; exact ⟨fun n z => ⟨fun k h => (by cases h), kJ, hJ, cJ, uJ⟩, fJ⟩
  | k + 3, hq => simp at hq
theorem wg_T {b L : Nat} {xs : Nat → Int32} {A : Nat → Prop} {s : State} {H : Heap} (h : va_X b L xs s H) (hA : ¬ A b) : va_T .int b (jv L xs).length (fun j => .int ((jv L xs).getD j 0)) A s H := by
  obtain ⟨scr, h1, h2, h3, h4, h5⟩ := h
  rw [jv_len]
  refine ⟨scr, h1, h2, h3, Nat.le_of_eq h4.symm, by rw [h4], fun j hj => ?_, hA⟩
  show _ = some (Value.int ((jv L xs).getD j 0))
  rw [h5 j hj, jv_get xs 0 hj]
theorem wg_x (t b f : Nat) (K V : Nat → Nat) : ∃ x : Nat → Nat, x 0 = t ∧ x 1 = b ∧ (∀ i, i < 8 → x (2 + i) = K i) ∧ (∀ i, i < 8 → x (10 + i) = V i) ∧ x 18 = f := by
  refine ⟨fun i => if i = 0 then t else if i = 1 then b else if i < 10 then K (i - 2) else if i < 18 then V (i - 10) else f, rfl, rfl, fun i hi => ?_, fun i hi => ?_, rfl⟩
  · show (if 2 + i = 0 then t else if 2 + i = 1 then b else if 2 + i < 10 then K (2 + i - 2) else if 2 + i < 18 then V (2 + i - 10) else f) = K i
    rw [if_neg (by omega), if_neg (by omega), if_pos (by omega), Nat.add_sub_cancel_left]
  · show (if 10 + i = 0 then t else if 10 + i = 1 then b else if 10 + i < 10 then K (10 + i - 2) else if 10 + i < 18 then V (10 + i - 10) else f) = V i
    rw [if_neg (by omega), if_neg (by omega), if_neg (by omega), if_pos (by omega), Nat.add_sub_cancel_left]
set_option maxHeartbeats 4000000 in
theorem wg_O {l : Launch} {D : va_G} {I Z J : ClassId} {b L : Nat} {xs : Nat → Int32} {s : State} (hts : ∀ w ∈ lw_tbl, w.before #[Value.ref b] s = true) (hgv : (Jvm.Cond.and given_1 narrow_1).before #[Value.ref b] s = true) (hX : va_X b L xs s s.heap) (hbl : b < s.heap.size) :
    ∃ x : Nat → Nat, x 1 = b ∧ jj_O1 (l, s.heap.size, D, I, Z, J, x, jv L xs) s s.heap ∧ jj_O2 (l, s.heap.size, D, I, Z, J, x, jv L xs) s := by
  have hs : ∀ c ∈ wg_F, c.before #[Value.ref b] s = true := flat_of_before _ hgv
  obtain ⟨A, eA⟩ : ∃ A : Nat → Prop, A = fun q : Nat => s.heap.size ≤ q := ⟨_, rfl⟩
  have hA : ∀ a : Nat, a < s.heap.size → ¬ A a := fun a h => by rw [eA]; exact Nat.not_le.mpr h
  obtain ⟨t, ht, hT⟩ := va_Tof (N := 60) (f := fun j => .int (jj_sewn.getD j 0)) (by decide) (hs (.arrayOf (.static "BallTown$Ball" "SEWN" "[I") .int) (by decide +kernel)) (va_eqt (hs (.eq (.length (.static "BallTown$Ball" "SEWN" "[I")) (.int (Int32.ofNat 60))) (by decide +kernel))) (fun j hj => va_eqt (hs _ (wg_sew j hj))) hA
  have hZ0 := va_Zof (hts (.laysStatic "BallTown$Ball" "SEWN" "[I") (by decide +kernel)) (hts (.initialized "BallTown$Ball") (by decide +kernel)) ht hA
  obtain ⟨K, V, hS, hK⟩ := vk_Sof (args := #[Value.ref b]) (s := s) (N := 8) (tm := fun i => .string RX3 (jj_ti.getD i 0)) (len := jj_tl) (byt := jj_tb) (A := A) wg_len (fun i hi => hs _ (wg_ex i hi)) (fun i hi => hs _ (wg_co i hi)) (fun i hi => hs _ (wg_ar i hi)) (fun i hi => hs _ (wg_le i hi)) (fun i hi j hj => hs _ (wg_el i hi j hj)) (fun i j hi hj hij => (wg_ne i hi j hj hij).imp (hs _) (hs _)) hA
  have hZ1 := va_Zof (A := A) (hts (.laysStatic "java/lang/String" "COMPACT_STRINGS" "Z") (by decide +kernel)) (hts (.initialized "java/lang/String") (by decide +kernel)) (va_eqi (hs (.eq (.static "java/lang/String" "COMPACT_STRINGS" "Z") (.int 1)) (by decide +kernel))) hA
  obtain ⟨f, hf⟩ : ∃ f : Nat, va_Z "jdk/internal/util/Preconditions" "SIOOBE_FORMATTER" "Ljava/util/function/BiFunction;" .null A s s.heap ∨ va_Z "jdk/internal/util/Preconditions" "SIOOBE_FORMATTER" "Ljava/util/function/BiFunction;" (.ref f) A s s.heap := by
    rcases va_Zqof (A := A) (hts (.laysStatic "jdk/internal/util/Preconditions" "SIOOBE_FORMATTER" "Ljava/util/function/BiFunction;") (by decide +kernel)) (hts (.initialized "jdk/internal/util/Preconditions") (by decide +kernel)) (hs (.isRef (.static "jdk/internal/util/Preconditions" "SIOOBE_FORMATTER" "Ljava/util/function/BiFunction;")) (by decide +kernel)) hA with q | ⟨f, q⟩
    · exact ⟨0, Or.inl q⟩
    · exact ⟨f, Or.inr q⟩
  obtain ⟨x, e0, e1, eK, eV, e18⟩ := wg_x t b f K V
  have hB := wg_T (A := A) hX (hA b hbl)
  subst eA
  refine ⟨x, e1, ⟨?_, ?_, ?_, ?_, hZ1, ?_⟩, fun i hi => ?_, fun w hw => va_Nw.of (wg_nest w hw).2 (hts w (wg_nest w hw).1)⟩
  · show va_Z "BallTown$Ball" "SEWN" "[I" (.ref (x 0)) _ s s.heap
    rw [e0]
    exact hZ0
  · show va_T .int (x 0) 60 _ _ s s.heap
    rw [e0]
    exact hT
  · show va_T .int (x 1) _ _ _ s s.heap
    rw [e1]
    exact hB
  · refine ⟨fun i hi => ?_, fun i j hi hj e => ?_⟩
    · show va_O "java/lang/String" (x (2 + i)) _ s s.heap ∧ va_OF "java/lang/String" "coder" "B" (.int 0) (x (2 + i)) _ s s.heap ∧ va_OF "java/lang/String" "value" "[B" (.ref (x (10 + i))) (x (2 + i)) _ s s.heap ∧ va_T .byte (x (10 + i)) _ _ _ s s.heap
      rw [eK i hi, eV i hi]
      exact hS.1 i hi
    · refine hS.2 i j hi hj ?_
      rw [← eK i hi, ← eK j hj]
      exact e
  · show va_Z "jdk/internal/util/Preconditions" "SIOOBE_FORMATTER" "Ljava/util/function/BiFunction;" .null _ s s.heap ∨ va_Z "jdk/internal/util/Preconditions" "SIOOBE_FORMATTER" "Ljava/util/function/BiFunction;" (.ref (x 18)) _ s s.heap
    rw [e18]
    exact hf
  · show vk_R RX3 (jj_ti.getD i 0) (jj_tx.getD i "") (x (2 + i)) s
    rw [eK i hi]
    exact vk_R.of (hts _ (wg_sr i hi)) (hK i hi)
set_option maxHeartbeats 4000000 in
theorem whole_start {p : Program} {e : Env} {s : State} {m : MethodId} {below : List Frame} {meth : Method} {c : Code} (l : Launch) (hflags : l.flags = flags0) {b L : Nat} {xs : Nat → Int32} (hL : L ≤ 320) (C0 : lw_At p s m meth c b L xs) : W p l e room_1 s m #[Value.ref b] below meth c s.heap [] 0 0 (lw_Z below #[Value.ref b] s) (entryFrame m ([Value.ref b] : List Value).toArray 4) := by
  obtain ⟨hx, hb, hr, hml, hown, hts, hX, hbl, hlocks, hgv⟩ := id C0
  obtain ⟨D, I, Z, J, hK⟩ := wg_K hts
  obtain ⟨x, e1, hO1, hO2⟩ := wg_O (l := l) (D := D) (I := I) (Z := Z) (J := J) hts hgv hX hbl
  obtain ⟨G, eG⟩ : ∃ G : jj_G, G = (l, s.heap.size, D, I, Z, J, x, jv L xs) := ⟨_, rfl⟩
  have gl : jj_l G = l := by rw [eG]
  have gN : jj_N G = s.heap.size := by rw [eG]
  have gD : jj_D G = D := by rw [eG]
  have gI : jj_tys G = [(I, .int), (Z, .boolean), (J, .long)] := by rw [eG]
  have gx : jj_x G 1 = b := by rw [eG]; exact e1
  have gs : (jj_scr G).length ≤ 320 := by
    rw [eG]
    show (jv L xs).length ≤ 320
    rw [jv_len]
    exact hL
  rw [← eG] at hO1 hO2
  subst gl
  have X : jj_X G (mL meth.name) 60 p room_1 s m #[Value.ref b] meth c := ⟨hx, hb, hr, hml, hown, fun w hw => hts w (jj_ws_in hw), hlocks, rfl, Nat.le_of_ble_eq_true rfl, Nat.le_of_ble_eq_true rfl, by rw [gD, gI]; exact hK, hO1, hO2, Nat.le_of_eq gN⟩
  obtain ⟨h', hgo⟩ := law_start (G := G) (nm := meth.name) gs
  have hl := lv_entry ([.ref b]) (n := 4) (Nat.le_of_ble_eq_true rfl)
  rw [lg_entry_eq]
  generalize (lg_sl ([.ref b]) ++ List.replicate (4 - (lg_sl ([.ref b])).length) Slot.unset).toArray = ls at hl ⊢
  have hl : lv_has ls 4 [(0, .ref b)] := hl
  have hLo : jj_L G ls (jj_n (mL meth.name)) [some (.ref 1000001), none, none, none] := by
    refine jj_L_mono hl (fun j v hv => ?_)
    match j, hv with
    | 0, hv =>
      cases hv
      refine List.mem_singleton.mpr ?_
      show ((0 : Nat), Value.ref (jj_ad G 1000001)) = (0, Value.ref b)
      unfold jj_ad
      rw [if_neg (by decide)]
      show ((0 : Nat), Value.ref (jj_x G 1)) = (0, Value.ref b)
      rw [gx]
    | 1, hv => cases hv
    | 2, hv => cases hv
    | 3, hv => cases hv
    | j + 4, hv => simp at hv
  have hR : jj_R G [] s.heap := ⟨fun k q hk => by simp [jj_W] at hk, by rw [gN]; rfl, Nat.zero_le _⟩
  refine hgo p e room_1 s m #[Value.ref b] below meth c X s.heap [] 0 0 ls _ hR va_S.rf hLo (Nat.le_of_ble_eq_true rfl) (Nat.le_of_ble_eq_true rfl) (fun pc' ls' H' locs' hd hR' hS' => ?_)
  refine va_forget (fun q hq => by have := hS'.2.2 q hq; rw [← gN]; exact this) ?_
  refine W.widen (k := 600000) (n := 7302250) (by decide) (by decide) ?_
  exact lw_ret hx hb hr hlocks hd
