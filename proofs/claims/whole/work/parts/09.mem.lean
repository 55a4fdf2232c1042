/-- behind a write at one cell -/
theorem jj_after {G : jj_G} {h : List jj_C} {H H1 : Heap} {a : Nat} {c0 c : jj_C} (hR : jj_R G h H) (ha : h[a]? = some c0) (he : va_at (jj_D G) vwCl (jj_N G + a, jj_E G c) H1) (hz : H1.size = H.size) (oq : ∀ q : Nat, q ≠ jj_N G + a → H1[q]? = H[q]?) : jj_R G (h.set a c) H1 := by
  refine ⟨?_, by rw [hz, hR.2.1, List.length_set], by rw [List.length_set]; exact hR.2.2⟩
  have h1 := hR.1.set (jj_W_D G h) (jj_W_get ha) he oq
  rw [jj_W_set] at h1
  exact h1
theorem jj_afterS {G : jj_G} {H0 H H1 : Heap} {locs : List Loc} {a k : Nat} (hS : va_S (jj_A G) H0 H locs) (hz : H1.size = H.size) (oq : ∀ q : Nat, q ≠ jj_N G + a → H1[q]? = H[q]?) : va_S (jj_A G) H0 H1 (locs ++ [⟨jj_N G + a, k⟩]) := hS.put hz oq (Nat.le_add_right _ _)
theorem jj_narR (G : jj_G) {ty : FieldType} {v : Value} (h : narrow ty v = v) : narrow ty (jj_v G v) = jj_v G v := by
  cases v with
  | ref x => cases ty <;> rfl
  | _ => exact h
theorem jj_fitR (G : jj_G) {ty : FieldType} {v : Value} (h : fits ty v = true) : fits ty (jj_v G v) = true := by
  cases v with
  | ref x => cases ty <;> exact h
  | _ => exact h
theorem jj_getD_set {α : Type} (xs : List α) (i : Nat) (x y : α) (hi : i < xs.length) (j : Nat) : (xs.set i x).getD j y = if j = i then x else xs.getD j y := by
  simp only [List.getD_eq_getElem?_getD, List.getElem?_set]
  by_cases h : i = j
  · subst h
    simp [hi]
  · rw [if_neg h, if_neg (fun e => h e.symm)]
section JM
variable {G : jj_G} {M : jj_M} {d pc : Nat} {lo : List (Option Value)} {st : List Value} {h : List jj_C} {kc ks : Nat} {r : Option Value} {h' : List jj_C}
/-- a field's place: in class own the constant idx names field k of class ci -/
def jj_fl (own : String) (idx ci k : Nat) : Prop := ∃ (C : String) (T : u_T) (N : Nat), vwCl[ci]? = some (C, T, N) ∧ k < N ∧ Cond.fieldLink own idx (T k).1 (T k).2.1 (T k).2.2.1 ∈ jj_ws ∧ (∀ w ∈ u_ws C T N, w ∈ jj_ws)
/-- what a class is: its name, fields, how many; their types -/
def jj_cl (ci : Nat) (C : String) (T : u_T) (N : Nat) (t0 : Nat → FieldType) : Prop := vwCl[ci]? = some (C, T, N) ∧ (∀ w ∈ u_ws C T N, w ∈ jj_ws) ∧ (∀ k, k < N → parseFieldDescriptor (T k).2.2.1 = some (t0 k)) ∧ (∀ a, a < N → ∀ b, b < N → a ≠ b → (T a).2.1 ≠ (T b).2.1)
/-- and it may be written: its type; final fields in constructors alone -/
def jj_fw (own nm : String) (idx ci k : Nat) (ty : FieldType) : Prop := ∃ (C : String) (T : u_T) (N : Nat) (t0 : Nat → FieldType), jj_cl ci C T N t0 ∧ k < N ∧ Cond.fieldLink own idx (T k).1 (T k).2.1 (T k).2.2.1 ∈ jj_ws ∧ t0 k = ty ∧ ((T k).2.2.2 = false ∨ ((T k).2.2.2 = true ∧ nm = "<init>" ∧ (T k).1 = own))
theorem jj_getf {idx ci k a : Nat} {fs : List Value} {v : Value} (hd : decode (jj_b M) pc = .ok (.getfield idx, 3)) (F : jj_fl (jj_y M).cls idx ci k) (ho : h[a]? = some (.inl (ci, fs))) (hv : fs[k]? = some v) (K : jj_Go G M d (pc + 3) lo (v :: st) h kc ks r h') : jj_Go G M d pc lo (.ref a :: st) h kc ks r h' := by
  intro p e R s m args below meth c X H locs cells slots ls Q hR hS hL h4 h5 fin
  obtain ⟨C, T, N, f1, f2, f3, f4⟩ := F
  show W p (jj_l G) e R s m args below meth c H locs cells slots Q (F0 m pc ls (.ref (jj_ad G a) :: st.map (jj_v G)))
  rw [jj_ad_lo (jj_R_lt hR ho)]
  exact va_get X.ex X.bt X.ts f4 X.own X.K hR.1 a (jj_W_get ho) f1 _ f2 (X.ts _ f3) (fun _ q => q) (v := jj_v G v) (by show (fs.map (jj_v G))[_]? = _; rw [List.getElem?_map, hv]; rfl) hd (K p e R s m args below meth c X H locs cells slots ls Q hR hS hL h4 h5 fin)
theorem jj_putf {idx ci k a : Nat} {ty : FieldType} {fs : List Value} {v : Value} {h2 : List jj_C} (hd : decode (jj_b M) pc = .ok (.putfield idx, 3)) (F : jj_fw (jj_y M).cls (jj_y M).name idx ci k ty) (ho : h[a]? = some (.inl (ci, fs))) (hl : k < fs.length) (hn : narrow ty v = v) (hf : fits ty v = true) (hh : h.set a (.inl (ci, fs.set k v)) = h2) (K : jj_Go G M d (pc + 3) lo st h2 kc ks r h') : jj_Go G M d pc lo (v :: .ref a :: st) h kc ks r h' := by
  intro p e R s m args below meth c X H locs cells slots ls Q hR hS hL h4 h5 fin
  subst hh
  obtain ⟨C, T, N, t0, ⟨f1, f4, f5, f6⟩, f2, f3, f7, f8⟩ := F
  subst f7
  have hn2 := jj_narR G hn
  have hf2 := jj_fitR G hf
  show W p (jj_l G) e R s m args below meth c H locs cells slots Q (F0 m pc ls (jj_v G v :: .ref (jj_ad G a) :: st.map (jj_v G)))
  rw [jj_ad_lo (jj_R_lt hR ho)]
  have hts := X.ts
  have hap := va_apart (own := (jj_y M).cls) hts f4 t0 f5 f6 X.K f1
  obtain ⟨rr, g1, cell, q1, q2, q3, q4⟩ := hR.1 a _ (jj_W_get ho)
  have hr : rr = (C, T, N) := Option.some.inj (g1.symm.trans f1)
  subst hr
  obtain ⟨hSl, hfc, kC, hkC, hkind⟩ := X.K.1 ci _ f1
  obtain ⟨cf, kf, fi, f, hi, hsl⟩ := hSl k f2
  have hlay := hts _ (f4 _ (u_in_lay f2))
  unfold u_lay at hlay
  have hst := (u_facts hfc hkC (u_lays hts f4 f2) hi).1
  have fin2 : ∀ H1 : Heap, H1[jj_N G + a]? = some (cell.setSlot f.slot (jj_v G v)) → H1.size = H.size → (∀ q, q ≠ jj_N G + a → H1[q]? = H[q]?) → W p (jj_l G) e R s m args below meth c H1 (locs ++ [⟨jj_N G + a, f.slot⟩]) cells slots Q (F0 m (pc + 3) ls (st.map (jj_v G))) := by
    intro H1 e1 e2 e3
    refine K p e R s m args below meth c X H1 _ cells slots ls Q (jj_after hR ho ?_ e2 e3) (jj_afterS hS e2 e3) hL h4 h5 fin
    refine ⟨_, f1, t_OB.to (V := updV (vp_V (fs.map (jj_v G))) k (jj_v G v)) ⟨_, e1, q2, q3, ?_⟩ (fun j _ => ?_)⟩
    · rw [hsl]
      exact t_set q4 hap f2 (jj_v G v)
    · rw [vp_updV_set (by rw [List.length_map]; exact hl), ← List.map_set]
  rcases f8 with f8 | ⟨f8, f9, f10⟩
  · rw [if_neg (by rw [f8]; decide)] at hlay
    have h6 := u_store hfc hkC hkind hlay hi (f5 k f2) hn2 hf2
    exact W.putK X.ex X.bt (f := f) ⟨X.own, X.ts _ f3, ⟨_, _, _, hi⟩, hst⟩ (by rw [q2]; exact h6) q1 q3 (by rw [hsl]; exact k2_hasslot (q4 k f2)) rfl rfl hd fin2
  · rw [if_pos f8] at hlay
    have hcf : m.cls = cf := by
      obtain ⟨_, _, c', _, _, _, -, -, hf', -, -, -, hown2, -⟩ := Cond.laysFinal_spec hlay
      have e1 : c' = cf := by have := hi.symm.trans hf'; simp at this; exact this.1.symm
      rw [f10] at hown2
      rw [← e1]; exact Option.some.inj (X.own.symm.trans hown2)
    have h6 := u_fits hfc hkC hkind (Or.inr hlay) hi (f5 k f2) hn2 hf2
    exact W.putFinK X.ex X.bt X.own (X.ts _ f3) hi hst hcf (by rw [← f9]; exact X.2.2.2.2.2.2.2.1) (by rw [q2]; exact h6) q1 q3 (by rw [hsl]; exact k2_hasslot (q4 k f2)) rfl rfl hd fin2
theorem jj_iald {a : Nat} {xs : List Int32} {i : Int32} {v : Int32} (hd : decode (jj_b M) pc = .ok (.iaload, 1)) (ho : h[a]? = some (.inr (.inl xs))) (hin : vp_in i xs.length) (hv : xs.getD i.toNatClampNeg 0 = v) (K : jj_Go G M d (pc + 1) lo (.int v :: st) h kc ks r h') : jj_Go G M d pc lo (.int i :: .ref a :: st) h kc ks r h' := by
  intro p e R s m args below meth c X H locs cells slots ls Q hR hS hL h4 h5 fin
  subst hv
  show W p (jj_l G) e R s m args below meth c H locs cells slots Q (F0 m pc ls (.int i :: .ref (jj_ad G a) :: st.map (jj_v G)))
  rw [jj_ad_lo (jj_R_lt hR ho)]
  exact va_iald X.ex X.bt X.K hR.1 a 0 (jj_W_get ho) rfl hin hd (K p e R s m args below meth c X H locs cells slots ls Q hR hS hL h4 h5 fin)
theorem jj_alen_i {a : Nat} {xs : List Int32} {v : Int32} (hd : decode (jj_b M) pc = .ok (.arraylength, 1)) (ho : h[a]? = some (.inr (.inl xs))) (hv : Int32.ofNat xs.length = v) (K : jj_Go G M d (pc + 1) lo (.int v :: st) h kc ks r h') : jj_Go G M d pc lo (.ref a :: st) h kc ks r h' := by
  intro p e R s m args below meth c X H locs cells slots ls Q hR hS hL h4 h5 fin
  show W p (jj_l G) e R s m args below meth c H locs cells slots Q (F0 m pc ls (.ref (jj_ad G a) :: st.map (jj_v G)))
  rw [jj_ad_lo (jj_R_lt hR ho)]
  exact va_alen X.ex X.bt X.K hR.1 a 0 (jj_W_get ho) rfl hv hd (K p e R s m args below meth c X H locs cells slots ls Q hR hS hL h4 h5 fin)
theorem jj_zald {a : Nat} {xs : List Int32} {i : Int32} {v : Int32} (hd : decode (jj_b M) pc = .ok (.baload, 1)) (ho : h[a]? = some (.inr (.inr (.inl xs)))) (hin : vp_in i xs.length) (hv : xs.getD i.toNatClampNeg 0 = v) (K : jj_Go G M d (pc + 1) lo (.int v :: st) h kc ks r h') : jj_Go G M d pc lo (.int i :: .ref a :: st) h kc ks r h' := by
  intro p e R s m args below meth c X H locs cells slots ls Q hR hS hL h4 h5 fin
  subst hv
  show W p (jj_l G) e R s m args below meth c H locs cells slots Q (F0 m pc ls (.int i :: .ref (jj_ad G a) :: st.map (jj_v G)))
  rw [jj_ad_lo (jj_R_lt hR ho)]
  exact va_zald X.ex X.bt X.K hR.1 a 1 (jj_W_get ho) rfl hin hd (K p e R s m args below meth c X H locs cells slots ls Q hR hS hL h4 h5 fin)
theorem jj_alen_z {a : Nat} {xs : List Int32} {v : Int32} (hd : decode (jj_b M) pc = .ok (.arraylength, 1)) (ho : h[a]? = some (.inr (.inr (.inl xs)))) (hv : Int32.ofNat xs.length = v) (K : jj_Go G M d (pc + 1) lo (.int v :: st) h kc ks r h') : jj_Go G M d pc lo (.ref a :: st) h kc ks r h' := by
  intro p e R s m args below meth c X H locs cells slots ls Q hR hS hL h4 h5 fin
  show W p (jj_l G) e R s m args below meth c H locs cells slots Q (F0 m pc ls (.ref (jj_ad G a) :: st.map (jj_v G)))
  rw [jj_ad_lo (jj_R_lt hR ho)]
  exact va_alen X.ex X.bt X.K hR.1 a 1 (jj_W_get ho) rfl hv hd (K p e R s m args below meth c X H locs cells slots ls Q hR hS hL h4 h5 fin)
theorem jj_lald {a : Nat} {xs : List Int64} {i : Int32} {v : Int64} (hd : decode (jj_b M) pc = .ok (.laload, 1)) (ho : h[a]? = some (.inr (.inr (.inr xs)))) (hin : vp_in i xs.length) (hv : xs.getD i.toNatClampNeg 0 = v) (K : jj_Go G M d (pc + 1) lo (.long v :: st) h kc ks r h') : jj_Go G M d pc lo (.int i :: .ref a :: st) h kc ks r h' := by
  intro p e R s m args below meth c X H locs cells slots ls Q hR hS hL h4 h5 fin
  subst hv
  show W p (jj_l G) e R s m args below meth c H locs cells slots Q (F0 m pc ls (.int i :: .ref (jj_ad G a) :: st.map (jj_v G)))
  rw [jj_ad_lo (jj_R_lt hR ho)]
  exact va_lald X.ex X.bt X.K hR.1 a 2 (jj_W_get ho) rfl hin hd (K p e R s m args below meth c X H locs cells slots ls Q hR hS hL h4 h5 fin)
theorem jj_alen_l {a : Nat} {xs : List Int64} {v : Int32} (hd : decode (jj_b M) pc = .ok (.arraylength, 1)) (ho : h[a]? = some (.inr (.inr (.inr xs)))) (hv : Int32.ofNat xs.length = v) (K : jj_Go G M d (pc + 1) lo (.int v :: st) h kc ks r h') : jj_Go G M d pc lo (.ref a :: st) h kc ks r h' := by
  intro p e R s m args below meth c X H locs cells slots ls Q hR hS hL h4 h5 fin
  show W p (jj_l G) e R s m args below meth c H locs cells slots Q (F0 m pc ls (.ref (jj_ad G a) :: st.map (jj_v G)))
  rw [jj_ad_lo (jj_R_lt hR ho)]
  exact va_alen X.ex X.bt X.K hR.1 a 2 (jj_W_get ho) rfl hv hd (K p e R s m args below meth c X H locs cells slots ls Q hR hS hL h4 h5 fin)
theorem jj_iast {a : Nat} {xs xs2 : List Int32} {i : Int32} {x : Int32} {h2 : List jj_C} (hd : decode (jj_b M) pc = .ok (.iastore, 1)) (ho : h[a]? = some (.inr (.inl xs))) (hin : vp_in i xs.length) (hx : xs.set i.toNatClampNeg x = xs2) (hh : h.set a (.inr (.inl xs2)) = h2) (K : jj_Go G M d (pc + 1) lo st h2 kc ks r h') : jj_Go G M d pc lo (.int x :: .int i :: .ref a :: st) h kc ks r h' := by
  intro p e R s m args below meth c X H locs cells slots ls Q hR hS hL h4 h5 fin
  subst hh
  subst hx
  have hlt : i.toNatClampNeg < xs.length := Nat.not_le.mp fun q => hin (Or.inr q)
  show W p (jj_l G) e R s m args below meth c H locs cells slots Q (F0 m pc ls (.int x :: .int i :: .ref (jj_ad G a) :: st.map (jj_v G)))
  rw [jj_ad_lo (jj_R_lt hR ho)]
  refine W.iast X.ex X.bt (hR.1 a _ (jj_W_get ho)) ((X.K.2 0 _ rfl).1 xs.length (fun j => .int (xs.getD j 0))) (fun q => by cases q) (by show ¬ (i < 0 ∨ (arrV _ _ _).slots.size ≤ _); rw [arrV_size]; exact hin) rfl rfl hd fun H1 e1 e2 e3 => ?_
  refine K p e R s m args below meth c X H1 _ cells slots ls Q (jj_after hR ho ?_ e2 e3) (jj_afterS hS e2 e3) hL h4 h5 fin
  show H1[jj_N G + a]? = some (vp_cell _ _)
  rw [e1]
  show some ((arrV _ _ (fun j => .int (xs.getD j 0))).setSlot _ _) = some (arrV _ _ (fun j => .int ((xs.set i.toNatClampNeg x).getD j 0)))
  rw [arrV_store, List.length_set]
  congr 2
  funext j
  rw [jj_getD_set _ _ _ _ hlt]
  by_cases hj : j = i.toNatClampNeg
  · simp [updV, hj, narrow]
  · simp [updV, hj]
theorem jj_zast {a : Nat} {xs xs2 : List Int32} {i : Int32} {x : Int32} {h2 : List jj_C} (hd : decode (jj_b M) pc = .ok (.bastore, 1)) (ho : h[a]? = some (.inr (.inr (.inl xs)))) (hin : vp_in i xs.length) (hx : xs.set i.toNatClampNeg (x &&& 1) = xs2) (hh : h.set a (.inr (.inr (.inl xs2))) = h2) (K : jj_Go G M d (pc + 1) lo st h2 kc ks r h') : jj_Go G M d pc lo (.int x :: .int i :: .ref a :: st) h kc ks r h' := by
  intro p e R s m args below meth c X H locs cells slots ls Q hR hS hL h4 h5 fin
  subst hh
  subst hx
  have hlt : i.toNatClampNeg < xs.length := Nat.not_le.mp fun q => hin (Or.inr q)
  show W p (jj_l G) e R s m args below meth c H locs cells slots Q (F0 m pc ls (.int x :: .int i :: .ref (jj_ad G a) :: st.map (jj_v G)))
  rw [jj_ad_lo (jj_R_lt hR ho)]
  refine W.zast X.ex X.bt (hR.1 a _ (jj_W_get ho)) ((X.K.2 1 _ rfl).1 xs.length (fun j => .int (xs.getD j 0))) (fun q => by cases q) (by show ¬ (i < 0 ∨ (arrV _ _ _).slots.size ≤ _); rw [arrV_size]; exact hin) rfl rfl hd fun H1 e1 e2 e3 => ?_
  refine K p e R s m args below meth c X H1 _ cells slots ls Q (jj_after hR ho ?_ e2 e3) (jj_afterS hS e2 e3) hL h4 h5 fin
  show H1[jj_N G + a]? = some (vp_cell _ _)
  rw [e1]
  show some ((arrV _ _ (fun j => .int (xs.getD j 0))).setSlot _ _) = some (arrV _ _ (fun j => .int ((xs.set i.toNatClampNeg (x &&& 1)).getD j 0)))
  rw [arrV_store, List.length_set]
  congr 2
  funext j
  rw [jj_getD_set _ _ _ _ hlt]
  by_cases hj : j = i.toNatClampNeg
  · simp [updV, hj, narrow]
  · simp [updV, hj]
theorem jj_last {a : Nat} {xs xs2 : List Int64} {i : Int32} {x : Int64} {h2 : List jj_C} (hd : decode (jj_b M) pc = .ok (.lastore, 1)) (ho : h[a]? = some (.inr (.inr (.inr xs)))) (hin : vp_in i xs.length) (hx : xs.set i.toNatClampNeg x = xs2) (hh : h.set a (.inr (.inr (.inr xs2))) = h2) (K : jj_Go G M d (pc + 1) lo st h2 kc ks r h') : jj_Go G M d pc lo (.long x :: .int i :: .ref a :: st) h kc ks r h' := by
  intro p e R s m args below meth c X H locs cells slots ls Q hR hS hL h4 h5 fin
  subst hh
  subst hx
  have hlt : i.toNatClampNeg < xs.length := Nat.not_le.mp fun q => hin (Or.inr q)
  show W p (jj_l G) e R s m args below meth c H locs cells slots Q (F0 m pc ls (.long x :: .int i :: .ref (jj_ad G a) :: st.map (jj_v G)))
  rw [jj_ad_lo (jj_R_lt hR ho)]
  refine W.last X.ex X.bt (hR.1 a _ (jj_W_get ho)) ((X.K.2 2 _ rfl).1 xs.length (fun j => .long (xs.getD j 0))) (fun q => by cases q) (by show ¬ (i < 0 ∨ (arrV _ _ _).slots.size ≤ _); rw [arrV_size]; exact hin) rfl rfl hd fun H1 e1 e2 e3 => ?_
  refine K p e R s m args below meth c X H1 _ cells slots ls Q (jj_after hR ho ?_ e2 e3) (jj_afterS hS e2 e3) hL h4 h5 fin
  show H1[jj_N G + a]? = some (vp_cell _ _)
  rw [e1]
  show some ((arrV _ _ (fun j => .long (xs.getD j 0))).setSlot _ _) = some (arrV _ _ (fun j => .long ((xs.set i.toNatClampNeg x).getD j 0)))
  rw [arrV_store, List.length_set]
  congr 2
  funext j
  rw [jj_getD_set _ _ _ _ hlt]
  by_cases hj : j = i.toNatClampNeg
  · simp [updV, hj, narrow]
  · simp [updV, hj]
/-- the table SEWN -/
theorem jj_gsewn {idx : Nat} (hd : decode (jj_b M) pc = .ok (.getstatic idx, 3)) (hw : Cond.fieldLink (jj_y M).cls idx "BallTown$Ball" "SEWN" "[I" ∈ jj_ws) (K : jj_Go G M d (pc + 3) lo (.ref 1000000 :: st) h kc ks r h') : jj_Go G M d pc lo st h kc ks r h' := by
  intro p e R s m args below meth c X H locs cells slots ls Q hR hS hL h4 h5 fin
  exact va_gets X.ex X.bt X.O.1.1 hS X.own (X.ts _ hw) (fun _ q => q) hd (K p e R s m args below meth c X H locs cells slots ls Q hR hS hL h4 h5 fin)
theorem jj_sewnld {i v : Int32} (hd : decode (jj_b M) pc = .ok (.iaload, 1)) (hin : vp_in i 60) (hv : jj_sewn.getD i.toNatClampNeg 0 = v) (K : jj_Go G M d (pc + 1) lo (.int v :: st) h kc ks r h') : jj_Go G M d pc lo (.int i :: .ref 1000000 :: st) h kc ks r h' := by
  intro p e R s m args below meth c X H locs cells slots ls Q hR hS hL h4 h5 fin
  exact va_ti X.ex X.bt X.O.1.2.1 hS hin (v := .int v) (by rw [← hv]) hd (K p e R s m args below meth c X H locs cells slots ls Q hR hS hL h4 h5 fin)
/-- the script -/
theorem jj_scrld {i v : Int32} (hd : decode (jj_b M) pc = .ok (.iaload, 1)) (hin : vp_in i (jj_scr G).length) (hv : (jj_scr G).getD i.toNatClampNeg 0 = v) (K : jj_Go G M d (pc + 1) lo (.int v :: st) h kc ks r h') : jj_Go G M d pc lo (.int i :: .ref 1000001 :: st) h kc ks r h' := by
  intro p e R s m args below meth c X H locs cells slots ls Q hR hS hL h4 h5 fin
  exact va_ti X.ex X.bt X.O.1.2.2.1 hS hin (v := .int v) (by rw [← hv]) hd (K p e R s m args below meth c X H locs cells slots ls Q hR hS hL h4 h5 fin)
theorem jj_scrlen {v : Int32} (hd : decode (jj_b M) pc = .ok (.arraylength, 1)) (hv : Int32.ofNat (jj_scr G).length = v) (K : jj_Go G M d (pc + 1) lo (.int v :: st) h kc ks r h') : jj_Go G M d pc lo (.ref 1000001 :: st) h kc ks r h' := by
  intro p e R s m args below meth c X H locs cells slots ls Q hR hS hL h4 h5 fin
  exact va_tlen X.ex X.bt X.O.1.2.2.1 hS hv hd (K p e R s m args below meth c X H locs cells slots ls Q hR hS hL h4 h5 fin)
/-- a new object -/
def jj_nw (own : String) (idx ci N : Nat) (fs : List Value) : Prop := ∃ (C : String) (T : u_T) (t0 : Nat → FieldType), jj_cl ci C T N t0 ∧ Cond.classLink own idx C ∈ jj_ws ∧ Cond.instantiable C N ∈ jj_ws ∧ Cond.initialized C ∈ jj_ws ∧ (∀ j, j < N → defaultValue (t0 j) = vp_V fs j) ∧ (∀ v ∈ fs, v.isRef = false ∨ v = .null)
theorem jj_new {idx ci N : Nat} {fs : List Value} {h2 : List jj_C} (hd : decode (jj_b M) pc = .ok (.new idx, 3)) (F : jj_nw (jj_y M).cls idx ci N fs) (hh : h ++ [.inl (ci, fs)] = h2) (hl : h.length < 1000000) (K : jj_Go G M d (pc + 3) lo (.ref h.length :: st) h2 kc ks r h') : jj_Go G M d pc lo st h (kc + 1) (ks + N) r h' := by
  intro p e R s m args below meth c X H locs cells slots ls Q hR hS hL h4 h5 fin
  subst hh
  obtain ⟨C, T, t0, ⟨f1, f4, f5, f6⟩, g1, g2, g3, g4, g5⟩ := F
  have hfs : fs.map (jj_v G) = fs := by
    conv => rhs; rw [← List.map_id fs]
    refine List.map_congr_left fun v hv => ?_
    rcases g5 v hv with q | q
    · cases v <;> first | rfl | exact absurd q (by simp [Value.isRef])
    · rw [q]; rfl
  have hts := X.ts
  have hKn := X.K.1 ci _ f1
  refine W.newcK X.ex X.bt X.own (hts _ g1) (hts _ g2) (hts _ g3) rfl hd (by omega) (by omega) hKn.2.1 rfl fun H1 kC hkC e1 z1 o1 => ?_
  have hk : ∀ (k : Nat) (x : Nat × va_E), (jj_W G h)[k]? = some x → H1[x.1]? = H[x.1]? := fun k x hx => o1 x.1 ((hR.1 k x hx).lt)
  have hH : H.size = jj_N G + h.length := hR.2.1
  have e0 : jj_E G (.inl (ci, fs)) = .inr (ci, fs) := by show (.inr (ci, fs.map (jj_v G)) : va_E) = _; rw [hfs]
  have hR2 : jj_R G (h ++ [.inl (ci, fs)]) H1 := by
    refine ⟨?_, by rw [z1, hH, List.length_append]; rfl, by rw [List.length_append]; exact hl⟩
    rw [← jj_W_app]
    refine (hR.1.kept hk).app (fun k x hx => ?_)
    have hz : k < 1 := (List.getElem?_eq_some_iff.mp hx).1
    rw [show k = 0 by omega] at hx
    cases hx
    rw [e0]
    refine ⟨_, f1, ?_⟩
    show t_OB (jj_N G + h.length) _ _ _ _ _
    rw [← hH]
    exact (u_born t0 hts f4 hKn hkC e1 f5).to g4
  have hS2 : va_S (jj_A G) s.heap H1 locs := ⟨Nat.le_trans hS.1 (by omega), fun x h1 h2 => (o1 x (Nat.lt_of_lt_of_le h1 hS.1)).trans (hS.2.1 x h1 h2), hS.2.2⟩
  have := K p e R s m args below meth c X H1 locs (cells + 1) (slots + N) ls Q hR2 hS2 hL (by omega) (by omega) (fun pc' ls' H' locs' a1 a2 a3 => by
    have := fin pc' ls' H' locs' a1 a2 a3
    rw [show cells + 1 + kc = cells + (kc + 1) by omega, show slots + N + ks = slots + (ks + N) by omega]
    exact this)
  rw [hH, ← jj_ad_lo hl]
  exact this
theorem jj_newaI {n : Int32} {N : Nat} {h2 : List jj_C} (hd : decode (jj_b M) pc = .ok (.newarray .int, 2)) (hn : ¬ n < 0) (hN : n.toNatClampNeg = N) (hb : N ≤ 100000) (hh : h ++ [.inr (.inl (List.replicate N 0))] = h2) (hl : h.length < 1000000) (hw : Cond.arrayClass .int ∈ jj_ws) (K : jj_Go G M d (pc + 2) lo (.ref h.length :: st) h2 kc ks r h') : jj_Go G M d pc lo (.int n :: st) h (kc + 1) (ks + N) r h' := by
  intro p e R s m args below meth c X H locs cells slots ls Q hR hS hL h4 h5 fin
  subst hh
  have hH : H.size = jj_N G + h.length := hR.2.1
  refine va_newaK (atype := .int) X.ex X.bt (X.ts _ hw) rfl hd rfl hn hN (by show N * componentBytes .int ≤ _; simp [componentBytes]; omega) (by omega) (by omega) rfl fun H1 cA e1 z1 o1 hAr hNm => ?_
  have hk : ∀ (k : Nat) (x : Nat × va_E), (jj_W G h)[k]? = some x → H1[x.1]? = H[x.1]? := fun k x hx => o1 x.1 ((hR.1 k x hx).lt)
  have hcA : cA = jj_I G := by
    have h1 := (X.K.2 0 _ rfl).2
    exact Option.some.inj (hNm.symm.trans h1)
  have hR2 : jj_R G (h ++ [.inr (.inl (List.replicate N 0))]) H1 := by
    refine ⟨?_, by rw [z1, hH, List.length_append]; rfl, by rw [List.length_append]; exact hl⟩
    rw [← jj_W_app]
    refine (hR.1.kept hk).app (fun k x hx => ?_)
    have hz : k < 1 := (List.getElem?_eq_some_iff.mp hx).1
    rw [show k = 0 by omega] at hx
    cases hx
    show H1[jj_N G + h.length]? = some (arrV (jj_I G) (List.replicate N 0).length (fun j => .int ((List.replicate N 0).getD j 0)))
    rw [← hH, e1, hcA, List.length_replicate]
    congr 2
    funext j
    rw [List.getD_eq_getElem?_getD, List.getElem?_replicate]
    split <;> rfl
  have hS2 : va_S (jj_A G) s.heap H1 locs := ⟨Nat.le_trans hS.1 (by omega), fun x h1 h2 => (o1 x (Nat.lt_of_lt_of_le h1 hS.1)).trans (hS.2.1 x h1 h2), hS.2.2⟩
  have := K p e R s m args below meth c X H1 locs (cells + 1) (slots + N) ls Q hR2 hS2 hL (by omega) (by omega) (fun pc' ls' H' locs' a1 a2 a3 => by
    have := fin pc' ls' H' locs' a1 a2 a3
    rw [show cells + 1 + kc = cells + (kc + 1) by omega, show slots + N + ks = slots + (ks + N) by omega]
    exact this)
  rw [hH, ← jj_ad_lo hl]
  exact this
theorem jj_newaZ {n : Int32} {N : Nat} {h2 : List jj_C} (hd : decode (jj_b M) pc = .ok (.newarray .boolean, 2)) (hn : ¬ n < 0) (hN : n.toNatClampNeg = N) (hb : N ≤ 100000) (hh : h ++ [.inr (.inr (.inl (List.replicate N 0)))] = h2) (hl : h.length < 1000000) (hw : Cond.arrayClass .boolean ∈ jj_ws) (K : jj_Go G M d (pc + 2) lo (.ref h.length :: st) h2 kc ks r h') : jj_Go G M d pc lo (.int n :: st) h (kc + 1) (ks + N) r h' := by
  intro p e R s m args below meth c X H locs cells slots ls Q hR hS hL h4 h5 fin
  subst hh
  have hH : H.size = jj_N G + h.length := hR.2.1
  refine va_newaK (atype := .boolean) X.ex X.bt (X.ts _ hw) rfl hd rfl hn hN (by show N * componentBytes .boolean ≤ _; simp [componentBytes]; omega) (by omega) (by omega) rfl fun H1 cA e1 z1 o1 hAr hNm => ?_
  have hk : ∀ (k : Nat) (x : Nat × va_E), (jj_W G h)[k]? = some x → H1[x.1]? = H[x.1]? := fun k x hx => o1 x.1 ((hR.1 k x hx).lt)
  have hcA : cA = jj_Z G := by
    have h1 := (X.K.2 1 _ rfl).2
    exact Option.some.inj (hNm.symm.trans h1)
  have hR2 : jj_R G (h ++ [.inr (.inr (.inl (List.replicate N 0)))]) H1 := by
    refine ⟨?_, by rw [z1, hH, List.length_append]; rfl, by rw [List.length_append]; exact hl⟩
    rw [← jj_W_app]
    refine (hR.1.kept hk).app (fun k x hx => ?_)
    have hz : k < 1 := (List.getElem?_eq_some_iff.mp hx).1
    rw [show k = 0 by omega] at hx
    cases hx
    show H1[jj_N G + h.length]? = some (arrV (jj_Z G) (List.replicate N 0).length (fun j => .int ((List.replicate N 0).getD j 0)))
    rw [← hH, e1, hcA, List.length_replicate]
    congr 2
    funext j
    rw [List.getD_eq_getElem?_getD, List.getElem?_replicate]
    split <;> rfl
  have hS2 : va_S (jj_A G) s.heap H1 locs := ⟨Nat.le_trans hS.1 (by omega), fun x h1 h2 => (o1 x (Nat.lt_of_lt_of_le h1 hS.1)).trans (hS.2.1 x h1 h2), hS.2.2⟩
  have := K p e R s m args below meth c X H1 locs (cells + 1) (slots + N) ls Q hR2 hS2 hL (by omega) (by omega) (fun pc' ls' H' locs' a1 a2 a3 => by
    have := fin pc' ls' H' locs' a1 a2 a3
    rw [show cells + 1 + kc = cells + (kc + 1) by omega, show slots + N + ks = slots + (ks + N) by omega]
    exact this)
  rw [hH, ← jj_ad_lo hl]
  exact this
theorem jj_newaJ {n : Int32} {N : Nat} {h2 : List jj_C} (hd : decode (jj_b M) pc = .ok (.newarray .long, 2)) (hn : ¬ n < 0) (hN : n.toNatClampNeg = N) (hb : N ≤ 100000) (hh : h ++ [.inr (.inr (.inr (List.replicate N 0)))] = h2) (hl : h.length < 1000000) (hw : Cond.arrayClass .long ∈ jj_ws) (K : jj_Go G M d (pc + 2) lo (.ref h.length :: st) h2 kc ks r h') : jj_Go G M d pc lo (.int n :: st) h (kc + 1) (ks + N) r h' := by
  intro p e R s m args below meth c X H locs cells slots ls Q hR hS hL h4 h5 fin
  subst hh
  have hH : H.size = jj_N G + h.length := hR.2.1
  refine va_newaK (atype := .long) X.ex X.bt (X.ts _ hw) rfl hd rfl hn hN (by show N * componentBytes .long ≤ _; simp [componentBytes]; omega) (by omega) (by omega) rfl fun H1 cA e1 z1 o1 hAr hNm => ?_
  have hk : ∀ (k : Nat) (x : Nat × va_E), (jj_W G h)[k]? = some x → H1[x.1]? = H[x.1]? := fun k x hx => o1 x.1 ((hR.1 k x hx).lt)
  have hcA : cA = jj_J G := by
    have h1 := (X.K.2 2 _ rfl).2
    exact Option.some.inj (hNm.symm.trans h1)
  have hR2 : jj_R G (h ++ [.inr (.inr (.inr (List.replicate N 0)))]) H1 := by
    refine ⟨?_, by rw [z1, hH, List.length_append]; rfl, by rw [List.length_append]; exact hl⟩
    rw [← jj_W_app]
    refine (hR.1.kept hk).app (fun k x hx => ?_)
    have hz : k < 1 := (List.getElem?_eq_some_iff.mp hx).1
    rw [show k = 0 by omega] at hx
    cases hx
    show H1[jj_N G + h.length]? = some (arrV (jj_J G) (List.replicate N 0).length (fun j => .long ((List.replicate N 0).getD j 0)))
    rw [← hH, e1, hcA, List.length_replicate]
    congr 2
    funext j
    rw [List.getD_eq_getElem?_getD, List.getElem?_replicate]
    split <;> rfl
  have hS2 : va_S (jj_A G) s.heap H1 locs := ⟨Nat.le_trans hS.1 (by omega), fun x h1 h2 => (o1 x (Nat.lt_of_lt_of_le h1 hS.1)).trans (hS.2.1 x h1 h2), hS.2.2⟩
  have := K p e R s m args below meth c X H1 locs (cells + 1) (slots + N) ls Q hR2 hS2 hL (by omega) (by omega) (fun pc' ls' H' locs' a1 a2 a3 => by
    have := fin pc' ls' H' locs' a1 a2 a3
    rw [show cells + 1 + kc = cells + (kc + 1) by omega, show slots + N + ks = slots + (ks + N) by omega]
    exact this)
  rw [hH, ← jj_ad_lo hl]
  exact this
end JM
