theorem jj_Ev_of {G : jj_G} {M : jj_M} {d : Nat} {av : List Value} {h : List jj_C} {kc ks : Nat} {r : Option Value} {h' : List jj_C} {lo : List (Option Value)} (hp : plainFor (jj_y M) = true) (hn : (lg_sl (av.map (jj_v G))).length ≤ jj_n M) (hlo : jj_lE G 0 lo = lv_args 0 (av.map (jj_v G))) (hr : jj_ok (jj_r M) r)
    (hG : jj_Go G M d 0 lo [] h kc ks r h') : jj_Ev G M d av h kc ks r h' := by
  refine va_MetF (cc := jj_b M) (maxL := jj_n M) (ret := jj_r M) hp rfl ?_
  intro p e s m args below meth c s₁ B hml hv
  obtain ⟨rfl, hR, hK, hO1, hO2⟩ := hv
  have hts := atoms_spec B.pre
  have hX : jj_X G M d p ({ frames := d, cells := kc, slots := ks, locals := 64 * d } : Room) s m (av.map (jj_v G)).toArray meth c := ⟨B.exec, B.bytes, B.returns, hml, findClass_of_methodNamed B.named, fun w hw => hts w (List.mem_cons_of_mem _ hw), B.notSynchronized, (name_of_methodNamed B.named B.method).1, Nat.le_refl d, Nat.le_refl _, hK, hO1, hO2, by rw [hR.2.1]; exact Nat.le_add_right _ _⟩
  have hl := lv_entry (av.map (jj_v G)) (n := jj_n M) hn
  rw [lg_entry_eq]
  refine hG p e _ s m _ below meth c hX s.heap [] 0 0 _ _ hR va_S.rf (by unfold jj_L; rw [hlo]; exact hl) (by show 0 + kc ≤ kc; omega) (by show 0 + ks ≤ ks; omega) ?_
  intro pc' ls' H' locs' hdg hR' hS'
  rw [Nat.zero_add, Nat.zero_add]
  have hrt := B.returns
  have hlocks := B.notSynchronized
  have key : ∀ t : State, t.heap = H' → jj_R G h' t.heap ∧ va_F (jj_A G) s t := fun t ht => ⟨by rw [ht]; exact hR', hS'.F ht⟩
  generalize jj_r M = rt at hr hdg hrt
  cases rt with
  | none =>
    cases r with
    | none => exact W.vret B.exec B.bytes hrt (fun t ht _ => ⟨rfl, key t ht⟩) hS'.2.2 hdg
    | some v => exact absurd hr (by simp [jj_ok])
  | some ty =>
    cases r with
    | none => cases ty <;> exact absurd hr (by simp [jj_ok])
    | some v =>
      cases ty with
      | int =>
        cases v with
        | int x => exact W.iret B.exec B.bytes hrt (fun t ht _ => ⟨rfl, key t ht⟩) hS'.2.2 hdg
        | _ => exact absurd hr (by simp [jj_ok])
      | long =>
        cases v with
        | long x => exact W.lret B.exec B.bytes hrt (fun t ht _ => ⟨rfl, key t ht⟩) hS'.2.2 hdg
        | _ => exact absurd hr (by simp [jj_ok])
      | boolean =>
        cases v with
        | int x =>
          have hn : narrow .boolean (.int x) = .int x := by
            have h2 : x = 0 ∨ x = 1 := hr
            rcases h2 with rfl | rfl <;> rfl
          exact W.zret B.exec B.bytes hrt hn (fun t ht _ => ⟨rfl, key t ht⟩) hS'.2.2 hdg
        | _ => exact absurd hr (by simp [jj_ok])
      | char =>
        cases v with
        | int x => exact W.zret B.exec B.bytes hrt (show narrow .char (.int x) = .int x from hr) (fun t ht _ => ⟨rfl, key t ht⟩) hS'.2.2 hdg
        | _ => exact absurd hr (by simp [jj_ok])
      | byte =>
        cases v with
        | int x => exact W.zret B.exec B.bytes hrt (show narrow .byte (.int x) = .int x from hr) (fun t ht _ => ⟨rfl, key t ht⟩) hS'.2.2 hdg
        | _ => exact absurd hr (by simp [jj_ok])
      | object C =>
        cases v with
        | ref x => exact W.aret B.exec B.bytes hrt (Or.inl ⟨C, rfl⟩) (Or.inr ⟨_, rfl⟩) (fun t ht _ => ⟨rfl, key t ht⟩) hS'.2.2 hdg
        | _ => exact absurd hr (by simp [jj_ok])
      | _ => exact absurd hr (by cases v <;> simp [jj_ok])
section JJ
variable {G : jj_G} {M : jj_M} {d pc : Nat} {lo : List (Option Value)} {st : List Value} {h : List jj_C} {kc ks : Nat} {r : Option Value} {h' : List jj_C}
/-- the return -/
theorem jj_ret {st : List Value} (hd : decode (jj_b M) pc = .ok (jj_rI (jj_r M), 1)) (hst : st = r.toList) : jj_Go G M d pc lo st h 0 0 r h := by
  subst hst
  intro p e R s m args below meth c X H locs cells slots ls Q hR hS hL h4 h5 fin
  have h6 := fin pc ls H locs hd hR hS
  rw [Nat.add_zero, Nat.add_zero] at h6
  cases r <;> exact h6
/-- another way to write the same place -/
theorem jj_eq {pc' : Nat} {lo' : List (Option Value)} {st' : List Value} {hh : List jj_C} (e1 : pc = pc') (e2 : lo = lo') (e3 : st = st') (e4 : h = hh) (k : jj_Go G M d pc' lo' st' hh kc ks r h') : jj_Go G M d pc lo st h kc ks r h' := by
  subst e1; subst e2; subst e3; subst e4; exact k
/-- less is known of the locals -/
theorem jj_less {lo' : List (Option Value)} (hs : ∀ (j : Nat) (v : Value), lo'[j]? = some (some v) → lo[j]? = some (some v)) (k : jj_Go G M d pc lo' st h kc ks r h') : jj_Go G M d pc lo st h kc ks r h' := by
  intro p e R s m args below meth c X H locs cells slots ls Q hR hS hL h4 h5 fin
  refine k p e R s m args below meth c X H locs cells slots ls Q hR hS (jj_L_mono hL fun j v hj => (jj_lE_mem lo 0 _).mpr ⟨j, v, hs j v hj, by rw [Nat.zero_add]⟩) h4 h5 fin
def jj_le : List (Option Value) → List (Option Value) → Bool
  | [], _ => true
  | none :: t, _ :: u => jj_le t u
  | none :: t, [] => jj_le t []
  | some _ :: t, some _ :: u => jj_le t u
  | _, _ => false
theorem jj_iconst {n : Int} {v : Int32} (hd : decode (jj_b M) pc = .ok (.iconst n, 1)) (hv : Int32.ofInt n = v) (k : jj_Go G M d (pc + 1) lo (.int v :: st) h kc ks r h') : jj_Go G M d pc lo st h kc ks r h' := by
  intro p e R s m args below meth c X H locs cells slots ls Q hR hS hL h4 h5 fin
  exact lv_iconst X.ex X.bt hd hv (k p e R s m args below meth c X H locs cells slots ls Q hR hS hL h4 h5 fin)
theorem jj_bipush {n : Int} {v : Int32} (hd : decode (jj_b M) pc = .ok (.bipush n, 2)) (hv : (Int8.ofInt n).toInt32 = v) (k : jj_Go G M d (pc + 2) lo (.int v :: st) h kc ks r h') : jj_Go G M d pc lo st h kc ks r h' := by
  intro p e R s m args below meth c X H locs cells slots ls Q hR hS hL h4 h5 fin
  exact lv_bipush X.ex X.bt hd hv (k p e R s m args below meth c X H locs cells slots ls Q hR hS hL h4 h5 fin)
theorem jj_sipush {n : Int} {v : Int32} (hd : decode (jj_b M) pc = .ok (.sipush n, 3)) (hv : (Int16.ofInt n).toInt32 = v) (k : jj_Go G M d (pc + 3) lo (.int v :: st) h kc ks r h') : jj_Go G M d pc lo st h kc ks r h' := by
  intro p e R s m args below meth c X H locs cells slots ls Q hR hS hL h4 h5 fin
  exact lv_sipush X.ex X.bt hd hv (k p e R s m args below meth c X H locs cells slots ls Q hR hS hL h4 h5 fin)
theorem jj_lconst {n : Fin 2} {v : Int64} (hd : decode (jj_b M) pc = .ok (.lconst n, 1)) (hv : Int64.ofNat (n : Nat) = v) (k : jj_Go G M d (pc + 1) lo (.long v :: st) h kc ks r h') : jj_Go G M d pc lo st h kc ks r h' := by
  intro p e R s m args below meth c X H locs cells slots ls Q hR hS hL h4 h5 fin
  exact lv_lconst X.ex X.bt hd hv (k p e R s m args below meth c X H locs cells slots ls Q hR hS hL h4 h5 fin)
theorem jj_ldc {i : Nat} {v : Int32} (hd : decode (jj_b M) pc = .ok (.ldc i, 2)) (hw : Cond.constant (jj_y M).cls i v ∈ jj_ws) (k : jj_Go G M d (pc + 2) lo (.int v :: st) h kc ks r h') : jj_Go G M d pc lo st h kc ks r h' := by
  intro p e R s m args below meth c X H locs cells slots ls Q hR hS hL h4 h5 fin
  exact lv_ldc X.ex X.bt X.own (X.ts _ hw) hd (k p e R s m args below meth c X H locs cells slots ls Q hR hS hL h4 h5 fin)
theorem jj_ldcw {i : Nat} {v : Int32} (hd : decode (jj_b M) pc = .ok (.ldc_w i, 3)) (hw : Cond.constant (jj_y M).cls i v ∈ jj_ws) (k : jj_Go G M d (pc + 3) lo (.int v :: st) h kc ks r h') : jj_Go G M d pc lo st h kc ks r h' := by
  intro p e R s m args below meth c X H locs cells slots ls Q hR hS hL h4 h5 fin
  exact lv_ldcw X.ex X.bt X.own (X.ts _ hw) hd (k p e R s m args below meth c X H locs cells slots ls Q hR hS hL h4 h5 fin)
theorem jj_ldc2 {i : Nat} {v : Int64} (hd : decode (jj_b M) pc = .ok (.ldc2_w i, 3)) (hw : Cond.constantLong (jj_y M).cls i v ∈ jj_ws) (k : jj_Go G M d (pc + 3) lo (.long v :: st) h kc ks r h') : jj_Go G M d pc lo st h kc ks r h' := by
  intro p e R s m args below meth c X H locs cells slots ls Q hR hS hL h4 h5 fin
  exact lv_ldc2 X.ex X.bt X.own (X.ts _ hw) hd (k p e R s m args below meth c X H locs cells slots ls Q hR hS hL h4 h5 fin)
theorem jj_iload_n {n : Fin 4} {x : Int32} (hd : decode (jj_b M) pc = .ok (.iload_n n, 1)) (hl : lo[(n : Nat)]? = some (some (.int x))) (k : jj_Go G M d (pc + 1) lo (.int x :: st) h kc ks r h') : jj_Go G M d pc lo st h kc ks r h' := by
  intro p e R s m args below meth c X H locs cells slots ls Q hR hS hL h4 h5 fin
  exact lv_iload_n X.ex X.bt hd rfl (jj_L_at hL hl) (k p e R s m args below meth c X H locs cells slots ls Q hR hS hL h4 h5 fin)
theorem jj_iload {i : Nat} {x : Int32} (hd : decode (jj_b M) pc = .ok (.iload i, 2)) (hl : lo[i]? = some (some (.int x))) (k : jj_Go G M d (pc + 2) lo (.int x :: st) h kc ks r h') : jj_Go G M d pc lo st h kc ks r h' := by
  intro p e R s m args below meth c X H locs cells slots ls Q hR hS hL h4 h5 fin
  exact lv_iload X.ex X.bt hd (jj_L_at hL hl) (k p e R s m args below meth c X H locs cells slots ls Q hR hS hL h4 h5 fin)
theorem jj_lload_n {n : Fin 4} {x : Int64} (hd : decode (jj_b M) pc = .ok (.lload_n n, 1)) (hl : lo[(n : Nat)]? = some (some (.long x))) (k : jj_Go G M d (pc + 1) lo (.long x :: st) h kc ks r h') : jj_Go G M d pc lo st h kc ks r h' := by
  intro p e R s m args below meth c X H locs cells slots ls Q hR hS hL h4 h5 fin
  exact lv_lload_n X.ex X.bt hd rfl (jj_L_at hL hl) (k p e R s m args below meth c X H locs cells slots ls Q hR hS hL h4 h5 fin)
theorem jj_lload {i : Nat} {x : Int64} (hd : decode (jj_b M) pc = .ok (.lload i, 2)) (hl : lo[i]? = some (some (.long x))) (k : jj_Go G M d (pc + 2) lo (.long x :: st) h kc ks r h') : jj_Go G M d pc lo st h kc ks r h' := by
  intro p e R s m args below meth c X H locs cells slots ls Q hR hS hL h4 h5 fin
  exact lv_lload X.ex X.bt hd (jj_L_at hL hl) (k p e R s m args below meth c X H locs cells slots ls Q hR hS hL h4 h5 fin)
theorem jj_aload_n {n : Fin 4} {x : Nat} (hd : decode (jj_b M) pc = .ok (.aload_n n, 1)) (hl : lo[(n : Nat)]? = some (some (.ref x))) (k : jj_Go G M d (pc + 1) lo (.ref x :: st) h kc ks r h') : jj_Go G M d pc lo st h kc ks r h' := by
  intro p e R s m args below meth c X H locs cells slots ls Q hR hS hL h4 h5 fin
  exact lv_aload_n X.ex X.bt hd rfl (jj_L_at hL hl) (k p e R s m args below meth c X H locs cells slots ls Q hR hS hL h4 h5 fin)
theorem jj_aload {i : Nat} {x : Nat} (hd : decode (jj_b M) pc = .ok (.aload i, 2)) (hl : lo[i]? = some (some (.ref x))) (k : jj_Go G M d (pc + 2) lo (.ref x :: st) h kc ks r h') : jj_Go G M d pc lo st h kc ks r h' := by
  intro p e R s m args below meth c X H locs cells slots ls Q hR hS hL h4 h5 fin
  exact lv_aload X.ex X.bt hd (jj_L_at hL hl) (k p e R s m args below meth c X H locs cells slots ls Q hR hS hL h4 h5 fin)
theorem jj_iadd {x y v : Int32} (hd : decode (jj_b M) pc = .ok (.iadd, 1)) (hv : x + y = v) (k : jj_Go G M d (pc + 1) lo (.int v :: st) h kc ks r h') : jj_Go G M d pc lo (.int y :: .int x :: st) h kc ks r h' := by
  intro p e R s m args below meth c X H locs cells slots ls Q hR hS hL h4 h5 fin
  exact lv_iadd X.ex X.bt hd (hv ▸ (k p e R s m args below meth c X H locs cells slots ls Q hR hS hL h4 h5 fin))
theorem jj_isub {x y v : Int32} (hd : decode (jj_b M) pc = .ok (.isub, 1)) (hv : x - y = v) (k : jj_Go G M d (pc + 1) lo (.int v :: st) h kc ks r h') : jj_Go G M d pc lo (.int y :: .int x :: st) h kc ks r h' := by
  intro p e R s m args below meth c X H locs cells slots ls Q hR hS hL h4 h5 fin
  exact lv_isub X.ex X.bt hd (hv ▸ (k p e R s m args below meth c X H locs cells slots ls Q hR hS hL h4 h5 fin))
theorem jj_imul {x y v : Int32} (hd : decode (jj_b M) pc = .ok (.imul, 1)) (hv : x * y = v) (k : jj_Go G M d (pc + 1) lo (.int v :: st) h kc ks r h') : jj_Go G M d pc lo (.int y :: .int x :: st) h kc ks r h' := by
  intro p e R s m args below meth c X H locs cells slots ls Q hR hS hL h4 h5 fin
  exact lv_imul X.ex X.bt hd (hv ▸ (k p e R s m args below meth c X H locs cells slots ls Q hR hS hL h4 h5 fin))
theorem jj_iand {x y v : Int32} (hd : decode (jj_b M) pc = .ok (.iand, 1)) (hv : x &&& y = v) (k : jj_Go G M d (pc + 1) lo (.int v :: st) h kc ks r h') : jj_Go G M d pc lo (.int y :: .int x :: st) h kc ks r h' := by
  intro p e R s m args below meth c X H locs cells slots ls Q hR hS hL h4 h5 fin
  exact lv_iand X.ex X.bt hd (hv ▸ (k p e R s m args below meth c X H locs cells slots ls Q hR hS hL h4 h5 fin))
theorem jj_ior {x y v : Int32} (hd : decode (jj_b M) pc = .ok (.ior, 1)) (hv : x ||| y = v) (k : jj_Go G M d (pc + 1) lo (.int v :: st) h kc ks r h') : jj_Go G M d pc lo (.int y :: .int x :: st) h kc ks r h' := by
  intro p e R s m args below meth c X H locs cells slots ls Q hR hS hL h4 h5 fin
  exact lv_ior X.ex X.bt hd (hv ▸ (k p e R s m args below meth c X H locs cells slots ls Q hR hS hL h4 h5 fin))
theorem jj_ixor {x y v : Int32} (hd : decode (jj_b M) pc = .ok (.ixor, 1)) (hv : x ^^^ y = v) (k : jj_Go G M d (pc + 1) lo (.int v :: st) h kc ks r h') : jj_Go G M d pc lo (.int y :: .int x :: st) h kc ks r h' := by
  intro p e R s m args below meth c X H locs cells slots ls Q hR hS hL h4 h5 fin
  exact lv_ixor X.ex X.bt hd (hv ▸ (k p e R s m args below meth c X H locs cells slots ls Q hR hS hL h4 h5 fin))
theorem jj_ishl {x y v : Int32} (hd : decode (jj_b M) pc = .ok (.ishl, 1)) (hv : x <<< (y &&& 31) = v) (k : jj_Go G M d (pc + 1) lo (.int v :: st) h kc ks r h') : jj_Go G M d pc lo (.int y :: .int x :: st) h kc ks r h' := by
  intro p e R s m args below meth c X H locs cells slots ls Q hR hS hL h4 h5 fin
  exact lv_ishl X.ex X.bt hd (hv ▸ (k p e R s m args below meth c X H locs cells slots ls Q hR hS hL h4 h5 fin))
theorem jj_ishr {x y v : Int32} (hd : decode (jj_b M) pc = .ok (.ishr, 1)) (hv : x >>> (y &&& 31) = v) (k : jj_Go G M d (pc + 1) lo (.int v :: st) h kc ks r h') : jj_Go G M d pc lo (.int y :: .int x :: st) h kc ks r h' := by
  intro p e R s m args below meth c X H locs cells slots ls Q hR hS hL h4 h5 fin
  exact lv_ishr X.ex X.bt hd (hv ▸ (k p e R s m args below meth c X H locs cells slots ls Q hR hS hL h4 h5 fin))
theorem jj_idiv {x y v : Int32} (hd : decode (jj_b M) pc = .ok (.idiv, 1)) (hne : ¬ y = 0) (hv : x / y = v) (k : jj_Go G M d (pc + 1) lo (.int v :: st) h kc ks r h') : jj_Go G M d pc lo (.int y :: .int x :: st) h kc ks r h' := by
  intro p e R s m args below meth c X H locs cells slots ls Q hR hS hL h4 h5 fin
  exact lv_idiv X.ex X.bt hd hne (hv ▸ (k p e R s m args below meth c X H locs cells slots ls Q hR hS hL h4 h5 fin))
theorem jj_irem {x y v : Int32} (hd : decode (jj_b M) pc = .ok (.irem, 1)) (hne : ¬ y = 0) (hv : x - x / y * y = v) (k : jj_Go G M d (pc + 1) lo (.int v :: st) h kc ks r h') : jj_Go G M d pc lo (.int y :: .int x :: st) h kc ks r h' := by
  intro p e R s m args below meth c X H locs cells slots ls Q hR hS hL h4 h5 fin
  exact lv_irem X.ex X.bt hd hne (hv ▸ (k p e R s m args below meth c X H locs cells slots ls Q hR hS hL h4 h5 fin))
theorem jj_ineg {x v : Int32} (hd : decode (jj_b M) pc = .ok (.ineg, 1)) (hv : -x = v) (k : jj_Go G M d (pc + 1) lo (.int v :: st) h kc ks r h') : jj_Go G M d pc lo (.int x :: st) h kc ks r h' := by
  intro p e R s m args below meth c X H locs cells slots ls Q hR hS hL h4 h5 fin
  exact lv_ineg X.ex X.bt hd (hv ▸ (k p e R s m args below meth c X H locs cells slots ls Q hR hS hL h4 h5 fin))
theorem jj_iushr {x y v : Int32} (hd : decode (jj_b M) pc = .ok (.iushr, 1)) (hv : (x.toUInt32 >>> (y.toUInt32 &&& Int32.toUInt32 31)).toInt32 = v) (k : jj_Go G M d (pc + 1) lo (.int v :: st) h kc ks r h') : jj_Go G M d pc lo (.int y :: .int x :: st) h kc ks r h' := by
  intro p e R s m args below meth c X H locs cells slots ls Q hR hS hL h4 h5 fin
  exact lv_iushr X.ex X.bt hd hv (k p e R s m args below meth c X H locs cells slots ls Q hR hS hL h4 h5 fin)
theorem jj_ladd {x y v : Int64} (hd : decode (jj_b M) pc = .ok (.ladd, 1)) (hv : x + y = v) (k : jj_Go G M d (pc + 1) lo (.long v :: st) h kc ks r h') : jj_Go G M d pc lo (.long y :: .long x :: st) h kc ks r h' := by
  intro p e R s m args below meth c X H locs cells slots ls Q hR hS hL h4 h5 fin
  exact lv_ladd X.ex X.bt hd (hv ▸ (k p e R s m args below meth c X H locs cells slots ls Q hR hS hL h4 h5 fin))
theorem jj_lsub {x y v : Int64} (hd : decode (jj_b M) pc = .ok (.lsub, 1)) (hv : x - y = v) (k : jj_Go G M d (pc + 1) lo (.long v :: st) h kc ks r h') : jj_Go G M d pc lo (.long y :: .long x :: st) h kc ks r h' := by
  intro p e R s m args below meth c X H locs cells slots ls Q hR hS hL h4 h5 fin
  exact lv_lsub X.ex X.bt hd (hv ▸ (k p e R s m args below meth c X H locs cells slots ls Q hR hS hL h4 h5 fin))
theorem jj_lmul {x y v : Int64} (hd : decode (jj_b M) pc = .ok (.lmul, 1)) (hv : x * y = v) (k : jj_Go G M d (pc + 1) lo (.long v :: st) h kc ks r h') : jj_Go G M d pc lo (.long y :: .long x :: st) h kc ks r h' := by
  intro p e R s m args below meth c X H locs cells slots ls Q hR hS hL h4 h5 fin
  exact lv_lmul X.ex X.bt hd (hv ▸ (k p e R s m args below meth c X H locs cells slots ls Q hR hS hL h4 h5 fin))
theorem jj_land {x y v : Int64} (hd : decode (jj_b M) pc = .ok (.land, 1)) (hv : x &&& y = v) (k : jj_Go G M d (pc + 1) lo (.long v :: st) h kc ks r h') : jj_Go G M d pc lo (.long y :: .long x :: st) h kc ks r h' := by
  intro p e R s m args below meth c X H locs cells slots ls Q hR hS hL h4 h5 fin
  exact lv_land X.ex X.bt hd (hv ▸ (k p e R s m args below meth c X H locs cells slots ls Q hR hS hL h4 h5 fin))
theorem jj_lor {x y v : Int64} (hd : decode (jj_b M) pc = .ok (.lor, 1)) (hv : x ||| y = v) (k : jj_Go G M d (pc + 1) lo (.long v :: st) h kc ks r h') : jj_Go G M d pc lo (.long y :: .long x :: st) h kc ks r h' := by
  intro p e R s m args below meth c X H locs cells slots ls Q hR hS hL h4 h5 fin
  exact lv_lor X.ex X.bt hd (hv ▸ (k p e R s m args below meth c X H locs cells slots ls Q hR hS hL h4 h5 fin))
theorem jj_ldiv {x y v : Int64} (hd : decode (jj_b M) pc = .ok (.ldiv, 1)) (hne : ¬ y = 0) (hv : x / y = v) (k : jj_Go G M d (pc + 1) lo (.long v :: st) h kc ks r h') : jj_Go G M d pc lo (.long y :: .long x :: st) h kc ks r h' := by
  intro p e R s m args below meth c X H locs cells slots ls Q hR hS hL h4 h5 fin
  exact lv_ldiv X.ex X.bt hd hne (hv ▸ (k p e R s m args below meth c X H locs cells slots ls Q hR hS hL h4 h5 fin))
theorem jj_lrem {x y v : Int64} (hd : decode (jj_b M) pc = .ok (.lrem, 1)) (hne : ¬ y = 0) (hv : x - x / y * y = v) (k : jj_Go G M d (pc + 1) lo (.long v :: st) h kc ks r h') : jj_Go G M d pc lo (.long y :: .long x :: st) h kc ks r h' := by
  intro p e R s m args below meth c X H locs cells slots ls Q hR hS hL h4 h5 fin
  exact lv_lrem X.ex X.bt hd hne (hv ▸ (k p e R s m args below meth c X H locs cells slots ls Q hR hS hL h4 h5 fin))
theorem jj_lshl {x v : Int64} {y : Int32} (hd : decode (jj_b M) pc = .ok (.lshl, 1)) (hv : x <<< (y.toInt64 &&& 63) = v) (k : jj_Go G M d (pc + 1) lo (.long v :: st) h kc ks r h') : jj_Go G M d pc lo (.int y :: .long x :: st) h kc ks r h' := by
  intro p e R s m args below meth c X H locs cells slots ls Q hR hS hL h4 h5 fin
  exact lv_lshl X.ex X.bt hd hv (k p e R s m args below meth c X H locs cells slots ls Q hR hS hL h4 h5 fin)
theorem jj_lshr {x v : Int64} {y : Int32} (hd : decode (jj_b M) pc = .ok (.lshr, 1)) (hv : x >>> (y.toInt64 &&& 63) = v) (k : jj_Go G M d (pc + 1) lo (.long v :: st) h kc ks r h') : jj_Go G M d pc lo (.int y :: .long x :: st) h kc ks r h' := by
  intro p e R s m args below meth c X H locs cells slots ls Q hR hS hL h4 h5 fin
  exact lv_lshr X.ex X.bt hd hv (k p e R s m args below meth c X H locs cells slots ls Q hR hS hL h4 h5 fin)
theorem jj_lcmp {x y : Int64} {v : Int32} (hd : decode (jj_b M) pc = .ok (.lcmp, 1)) (hv : lg_cmp x y = v) (k : jj_Go G M d (pc + 1) lo (.int v :: st) h kc ks r h') : jj_Go G M d pc lo (.long y :: .long x :: st) h kc ks r h' := by
  intro p e R s m args below meth c X H locs cells slots ls Q hR hS hL h4 h5 fin
  exact W.lcmp X.ex X.bt hd (hv ▸ (k p e R s m args below meth c X H locs cells slots ls Q hR hS hL h4 h5 fin))
theorem jj_i2l {x : Int32} {v : Int64} (hd : decode (jj_b M) pc = .ok (.i2l, 1)) (hv : x.toInt64 = v) (k : jj_Go G M d (pc + 1) lo (.long v :: st) h kc ks r h') : jj_Go G M d pc lo (.int x :: st) h kc ks r h' := by
  intro p e R s m args below meth c X H locs cells slots ls Q hR hS hL h4 h5 fin
  exact lv_i2l X.ex X.bt hd hv (k p e R s m args below meth c X H locs cells slots ls Q hR hS hL h4 h5 fin)
theorem jj_l2i {x : Int64} {v : Int32} (hd : decode (jj_b M) pc = .ok (.l2i, 1)) (hv : x.toInt32 = v) (k : jj_Go G M d (pc + 1) lo (.int v :: st) h kc ks r h') : jj_Go G M d pc lo (.long x :: st) h kc ks r h' := by
  intro p e R s m args below meth c X H locs cells slots ls Q hR hS hL h4 h5 fin
  exact lv_l2i X.ex X.bt hd hv (k p e R s m args below meth c X H locs cells slots ls Q hR hS hL h4 h5 fin)
theorem jj_i2c {x : Int32} {v : Int32} (hd : decode (jj_b M) pc = .ok (.i2c, 1)) (hv : (x.toUInt32 % 65536).toInt32 = v) (k : jj_Go G M d (pc + 1) lo (.int v :: st) h kc ks r h') : jj_Go G M d pc lo (.int x :: st) h kc ks r h' := by
  intro p e R s m args below meth c X H locs cells slots ls Q hR hS hL h4 h5 fin
  exact lv_i2c X.ex X.bt hd hv (k p e R s m args below meth c X H locs cells slots ls Q hR hS hL h4 h5 fin)
theorem jj_dup {v : Value} (hd : decode (jj_b M) pc = .ok (.dup, 1)) (hv : v.category = 1) (k : jj_Go G M d (pc + 1) lo (v :: v :: st) h kc ks r h') : jj_Go G M d pc lo (v :: st) h kc ks r h' := by
  intro p e R s m args below meth c X H locs cells slots ls Q hR hS hL h4 h5 fin
  exact lv_dup X.ex X.bt hd (by rw [jj_v_cat]; exact hv) (k p e R s m args below meth c X H locs cells slots ls Q hR hS hL h4 h5 fin)
theorem jj_pop {v : Value} (hd : decode (jj_b M) pc = .ok (.pop, 1)) (hv : v.category = 1) (k : jj_Go G M d (pc + 1) lo st h kc ks r h') : jj_Go G M d pc lo (v :: st) h kc ks r h' := by
  intro p e R s m args below meth c X H locs cells slots ls Q hR hS hL h4 h5 fin
  exact lv_pop X.ex X.bt hd (by rw [jj_v_cat]; exact hv) (k p e R s m args below meth c X H locs cells slots ls Q hR hS hL h4 h5 fin)
theorem jj_dup2 {v w : Value} (hd : decode (jj_b M) pc = .ok (.dup2, 1)) (hv : v.category = 1) (hw : w.category = 1) (k : jj_Go G M d (pc + 1) lo (v :: w :: v :: w :: st) h kc ks r h') : jj_Go G M d pc lo (v :: w :: st) h kc ks r h' := by
  intro p e R s m args below meth c X H locs cells slots ls Q hR hS hL h4 h5 fin
  exact lv_dup2_11 X.ex X.bt hd (by rw [jj_v_cat]; exact hv) (by rw [jj_v_cat]; exact hw) (k p e R s m args below meth c X H locs cells slots ls Q hR hS hL h4 h5 fin)
theorem jj_dup2l {v : Value} (hd : decode (jj_b M) pc = .ok (.dup2, 1)) (hv : v.category = 2) (k : jj_Go G M d (pc + 1) lo (v :: v :: st) h kc ks r h') : jj_Go G M d pc lo (v :: st) h kc ks r h' := by
  intro p e R s m args below meth c X H locs cells slots ls Q hR hS hL h4 h5 fin
  exact lv_dup2_2 X.ex X.bt hd (by rw [jj_v_cat]; exact hv) (k p e R s m args below meth c X H locs cells slots ls Q hR hS hL h4 h5 fin)
theorem jj_goto {off : Int} {tgt : Nat} (hd : decode (jj_b M) pc = .ok (.goto off, 3)) (ht : (pc : Int) + off = (tgt : Int)) (k : jj_Go G M d tgt lo st h kc ks r h') : jj_Go G M d pc lo st h kc ks r h' := by
  intro p e R s m args below meth c X H locs cells slots ls Q hR hS hL h4 h5 fin
  exact lv_goto X.ex X.bt hd ht (k p e R s m args below meth c X H locs cells slots ls Q hR hS hL h4 h5 fin)
theorem jj_if_eq {x : Int32} {off : Int} {tgt : Nat} (hd : decode (jj_b M) pc = .ok (.ifCond .eq off, 3)) (ht : (pc : Int) + off = (tgt : Int)) (kt : x = 0 → jj_Go G M d tgt lo st h kc ks r h') (kf : ¬ (x = 0) → jj_Go G M d (pc + 3) lo st h kc ks r h') : jj_Go G M d pc lo (.int x :: st) h kc ks r h' := by
  intro p e R s m args below meth c X H locs cells slots ls Q hR hS hL h4 h5 fin
  exact lv_if_eq X.ex X.bt hd ht (fun q => ((kt q) p e R s m args below meth c X H locs cells slots ls Q hR hS hL h4 h5 fin)) (fun q => ((kf q) p e R s m args below meth c X H locs cells slots ls Q hR hS hL h4 h5 fin))
theorem jj_if_ne {x : Int32} {off : Int} {tgt : Nat} (hd : decode (jj_b M) pc = .ok (.ifCond .ne off, 3)) (ht : (pc : Int) + off = (tgt : Int)) (kt : ¬ x = 0 → jj_Go G M d tgt lo st h kc ks r h') (kf : x = 0 → jj_Go G M d (pc + 3) lo st h kc ks r h') : jj_Go G M d pc lo (.int x :: st) h kc ks r h' := by
  intro p e R s m args below meth c X H locs cells slots ls Q hR hS hL h4 h5 fin
  exact lv_if_ne X.ex X.bt hd ht (fun q => ((kt q) p e R s m args below meth c X H locs cells slots ls Q hR hS hL h4 h5 fin)) (fun q => ((kf q) p e R s m args below meth c X H locs cells slots ls Q hR hS hL h4 h5 fin))
theorem jj_if_lt {x : Int32} {off : Int} {tgt : Nat} (hd : decode (jj_b M) pc = .ok (.ifCond .lt off, 3)) (ht : (pc : Int) + off = (tgt : Int)) (kt : x < 0 → jj_Go G M d tgt lo st h kc ks r h') (kf : ¬ (x < 0) → jj_Go G M d (pc + 3) lo st h kc ks r h') : jj_Go G M d pc lo (.int x :: st) h kc ks r h' := by
  intro p e R s m args below meth c X H locs cells slots ls Q hR hS hL h4 h5 fin
  exact lv_if_lt X.ex X.bt hd ht (fun q => ((kt q) p e R s m args below meth c X H locs cells slots ls Q hR hS hL h4 h5 fin)) (fun q => ((kf q) p e R s m args below meth c X H locs cells slots ls Q hR hS hL h4 h5 fin))
theorem jj_if_ge {x : Int32} {off : Int} {tgt : Nat} (hd : decode (jj_b M) pc = .ok (.ifCond .ge off, 3)) (ht : (pc : Int) + off = (tgt : Int)) (kt : 0 ≤ x → jj_Go G M d tgt lo st h kc ks r h') (kf : ¬ (0 ≤ x) → jj_Go G M d (pc + 3) lo st h kc ks r h') : jj_Go G M d pc lo (.int x :: st) h kc ks r h' := by
  intro p e R s m args below meth c X H locs cells slots ls Q hR hS hL h4 h5 fin
  exact lv_if_ge X.ex X.bt hd ht (fun q => ((kt q) p e R s m args below meth c X H locs cells slots ls Q hR hS hL h4 h5 fin)) (fun q => ((kf q) p e R s m args below meth c X H locs cells slots ls Q hR hS hL h4 h5 fin))
theorem jj_if_gt {x : Int32} {off : Int} {tgt : Nat} (hd : decode (jj_b M) pc = .ok (.ifCond .gt off, 3)) (ht : (pc : Int) + off = (tgt : Int)) (kt : 0 < x → jj_Go G M d tgt lo st h kc ks r h') (kf : ¬ (0 < x) → jj_Go G M d (pc + 3) lo st h kc ks r h') : jj_Go G M d pc lo (.int x :: st) h kc ks r h' := by
  intro p e R s m args below meth c X H locs cells slots ls Q hR hS hL h4 h5 fin
  exact lv_if_gt X.ex X.bt hd ht (fun q => ((kt q) p e R s m args below meth c X H locs cells slots ls Q hR hS hL h4 h5 fin)) (fun q => ((kf q) p e R s m args below meth c X H locs cells slots ls Q hR hS hL h4 h5 fin))
theorem jj_if_le {x : Int32} {off : Int} {tgt : Nat} (hd : decode (jj_b M) pc = .ok (.ifCond .le off, 3)) (ht : (pc : Int) + off = (tgt : Int)) (kt : x ≤ 0 → jj_Go G M d tgt lo st h kc ks r h') (kf : ¬ (x ≤ 0) → jj_Go G M d (pc + 3) lo st h kc ks r h') : jj_Go G M d pc lo (.int x :: st) h kc ks r h' := by
  intro p e R s m args below meth c X H locs cells slots ls Q hR hS hL h4 h5 fin
  exact lv_if_le X.ex X.bt hd ht (fun q => ((kt q) p e R s m args below meth c X H locs cells slots ls Q hR hS hL h4 h5 fin)) (fun q => ((kf q) p e R s m args below meth c X H locs cells slots ls Q hR hS hL h4 h5 fin))
theorem jj_icmp_eq {x y : Int32} {off : Int} {tgt : Nat} (hd : decode (jj_b M) pc = .ok (.if_icmp .eq off, 3)) (ht : (pc : Int) + off = (tgt : Int)) (kt : x = y → jj_Go G M d tgt lo st h kc ks r h') (kf : ¬ (x = y) → jj_Go G M d (pc + 3) lo st h kc ks r h') : jj_Go G M d pc lo (.int y :: .int x :: st) h kc ks r h' := by
  intro p e R s m args below meth c X H locs cells slots ls Q hR hS hL h4 h5 fin
  exact lv_icmp_eq X.ex X.bt hd ht (fun q => ((kt q) p e R s m args below meth c X H locs cells slots ls Q hR hS hL h4 h5 fin)) (fun q => ((kf q) p e R s m args below meth c X H locs cells slots ls Q hR hS hL h4 h5 fin))
theorem jj_icmp_ne {x y : Int32} {off : Int} {tgt : Nat} (hd : decode (jj_b M) pc = .ok (.if_icmp .ne off, 3)) (ht : (pc : Int) + off = (tgt : Int)) (kt : ¬ x = y → jj_Go G M d tgt lo st h kc ks r h') (kf : x = y → jj_Go G M d (pc + 3) lo st h kc ks r h') : jj_Go G M d pc lo (.int y :: .int x :: st) h kc ks r h' := by
  intro p e R s m args below meth c X H locs cells slots ls Q hR hS hL h4 h5 fin
  exact lv_icmp_ne X.ex X.bt hd ht (fun q => ((kt q) p e R s m args below meth c X H locs cells slots ls Q hR hS hL h4 h5 fin)) (fun q => ((kf q) p e R s m args below meth c X H locs cells slots ls Q hR hS hL h4 h5 fin))
theorem jj_icmp_lt {x y : Int32} {off : Int} {tgt : Nat} (hd : decode (jj_b M) pc = .ok (.if_icmp .lt off, 3)) (ht : (pc : Int) + off = (tgt : Int)) (kt : x < y → jj_Go G M d tgt lo st h kc ks r h') (kf : ¬ (x < y) → jj_Go G M d (pc + 3) lo st h kc ks r h') : jj_Go G M d pc lo (.int y :: .int x :: st) h kc ks r h' := by
  intro p e R s m args below meth c X H locs cells slots ls Q hR hS hL h4 h5 fin
  exact lv_icmp_lt X.ex X.bt hd ht (fun q => ((kt q) p e R s m args below meth c X H locs cells slots ls Q hR hS hL h4 h5 fin)) (fun q => ((kf q) p e R s m args below meth c X H locs cells slots ls Q hR hS hL h4 h5 fin))
theorem jj_icmp_ge {x y : Int32} {off : Int} {tgt : Nat} (hd : decode (jj_b M) pc = .ok (.if_icmp .ge off, 3)) (ht : (pc : Int) + off = (tgt : Int)) (kt : y ≤ x → jj_Go G M d tgt lo st h kc ks r h') (kf : ¬ (y ≤ x) → jj_Go G M d (pc + 3) lo st h kc ks r h') : jj_Go G M d pc lo (.int y :: .int x :: st) h kc ks r h' := by
  intro p e R s m args below meth c X H locs cells slots ls Q hR hS hL h4 h5 fin
  exact lv_icmp_ge X.ex X.bt hd ht (fun q => ((kt q) p e R s m args below meth c X H locs cells slots ls Q hR hS hL h4 h5 fin)) (fun q => ((kf q) p e R s m args below meth c X H locs cells slots ls Q hR hS hL h4 h5 fin))
theorem jj_icmp_gt {x y : Int32} {off : Int} {tgt : Nat} (hd : decode (jj_b M) pc = .ok (.if_icmp .gt off, 3)) (ht : (pc : Int) + off = (tgt : Int)) (kt : y < x → jj_Go G M d tgt lo st h kc ks r h') (kf : ¬ (y < x) → jj_Go G M d (pc + 3) lo st h kc ks r h') : jj_Go G M d pc lo (.int y :: .int x :: st) h kc ks r h' := by
  intro p e R s m args below meth c X H locs cells slots ls Q hR hS hL h4 h5 fin
  exact lv_icmp_gt X.ex X.bt hd ht (fun q => ((kt q) p e R s m args below meth c X H locs cells slots ls Q hR hS hL h4 h5 fin)) (fun q => ((kf q) p e R s m args below meth c X H locs cells slots ls Q hR hS hL h4 h5 fin))
theorem jj_icmp_le {x y : Int32} {off : Int} {tgt : Nat} (hd : decode (jj_b M) pc = .ok (.if_icmp .le off, 3)) (ht : (pc : Int) + off = (tgt : Int)) (kt : x ≤ y → jj_Go G M d tgt lo st h kc ks r h') (kf : ¬ (x ≤ y) → jj_Go G M d (pc + 3) lo st h kc ks r h') : jj_Go G M d pc lo (.int y :: .int x :: st) h kc ks r h' := by
  intro p e R s m args below meth c X H locs cells slots ls Q hR hS hL h4 h5 fin
  exact lv_icmp_le X.ex X.bt hd ht (fun q => ((kt q) p e R s m args below meth c X H locs cells slots ls Q hR hS hL h4 h5 fin)) (fun q => ((kf q) p e R s m args below meth c X H locs cells slots ls Q hR hS hL h4 h5 fin))
theorem jj_swOut {dflt lo' hi : Int} {offs : Array Int} {len : Nat} {x : Int32} {tgt : Nat} (hd : decode (jj_b M) pc = .ok (.tableswitch dflt lo' hi offs, len)) (hx : x.toInt < lo' ∨ hi < x.toInt) (ht : (pc : Int) + dflt = (tgt : Int)) (k : jj_Go G M d tgt lo st h kc ks r h') : jj_Go G M d pc lo (.int x :: st) h kc ks r h' := by
  intro p e R s m args below meth c X H locs cells slots ls Q hR hS hL h4 h5 fin
  exact lv_tableOut X.ex X.bt hd hx ht (k p e R s m args below meth c X H locs cells slots ls Q hR hS hL h4 h5 fin)
theorem jj_swIn {dflt lo' hi : Int} {offs : Array Int} {len : Nat} {x : Int32} {off : Int} {tgt : Nat} (hd : decode (jj_b M) pc = .ok (.tableswitch dflt lo' hi offs, len)) (h1 : ¬ x.toInt < lo') (h2 : ¬ hi < x.toInt) (ho : offs[(x.toInt - lo').toNat]? = some off) (ht : (pc : Int) + off = (tgt : Int)) (k : jj_Go G M d tgt lo st h kc ks r h') : jj_Go G M d pc lo (.int x :: st) h kc ks r h' := by
  intro p e R s m args below meth c X H locs cells slots ls Q hR hS hL h4 h5 fin
  exact lv_tableIn X.ex X.bt hd h1 h2 ho ht (k p e R s m args below meth c X H locs cells slots ls Q hR hS hL h4 h5 fin)
theorem jj_istore_n {n : Fin 4} {i : Nat} {x : Int32} {lo2 : List (Option Value)} (hd : decode (jj_b M) pc = .ok (.istore_n n, 1)) (hi : (n : Nat) = i) (hn : i < jj_n M) (hl : jj_s lo i (.int x) = lo2) (k : jj_Go G M d (pc + 1) lo2 st h kc ks r h') : jj_Go G M d pc lo (.int x :: st) h kc ks r h' := by
  intro p e R s m args below meth c X H locs cells slots ls Q hR hS hL h4 h5 fin
  subst hl
  exact lv_istore_n X.ex X.bt hd hi hL hn rfl (fun ls' hl' => (k p e R s m args below meth c X H locs cells slots ls' Q hR hS (jj_L_s1 rfl rfl hl') h4 h5 fin))
theorem jj_istore {i : Nat} {x : Int32} {lo2 : List (Option Value)} (hd : decode (jj_b M) pc = .ok (.istore i, 2)) (hn : i < jj_n M) (hl : jj_s lo i (.int x) = lo2) (k : jj_Go G M d (pc + 2) lo2 st h kc ks r h') : jj_Go G M d pc lo (.int x :: st) h kc ks r h' := by
  intro p e R s m args below meth c X H locs cells slots ls Q hR hS hL h4 h5 fin
  subst hl
  exact lv_istore X.ex X.bt hd hL hn rfl (fun ls' hl' => (k p e R s m args below meth c X H locs cells slots ls' Q hR hS (jj_L_s1 rfl rfl hl') h4 h5 fin))
theorem jj_lstore_n {n : Fin 4} {i : Nat} {x : Int64} {lo2 : List (Option Value)} (hd : decode (jj_b M) pc = .ok (.lstore_n n, 1)) (hi : (n : Nat) = i) (hn : i + 1 < jj_n M) (hl : jj_s lo i (.long x) = lo2) (k : jj_Go G M d (pc + 1) lo2 st h kc ks r h') : jj_Go G M d pc lo (.long x :: st) h kc ks r h' := by
  intro p e R s m args below meth c X H locs cells slots ls Q hR hS hL h4 h5 fin
  subst hl
  exact lv_lstore_n X.ex X.bt hd hi hL hn rfl (fun ls' hl' => (k p e R s m args below meth c X H locs cells slots ls' Q hR hS (jj_L_s2 rfl rfl hl') h4 h5 fin))
theorem jj_lstore {i : Nat} {x : Int64} {lo2 : List (Option Value)} (hd : decode (jj_b M) pc = .ok (.lstore i, 2)) (hn : i + 1 < jj_n M) (hl : jj_s lo i (.long x) = lo2) (k : jj_Go G M d (pc + 2) lo2 st h kc ks r h') : jj_Go G M d pc lo (.long x :: st) h kc ks r h' := by
  intro p e R s m args below meth c X H locs cells slots ls Q hR hS hL h4 h5 fin
  subst hl
  exact lv_lstore X.ex X.bt hd hL hn rfl (fun ls' hl' => (k p e R s m args below meth c X H locs cells slots ls' Q hR hS (jj_L_s2 rfl rfl hl') h4 h5 fin))
theorem jj_astore_n {n : Fin 4} {i : Nat} {x : Nat} {lo2 : List (Option Value)} (hd : decode (jj_b M) pc = .ok (.astore_n n, 1)) (hi : (n : Nat) = i) (hn : i < jj_n M) (hl : jj_s lo i (.ref x) = lo2) (k : jj_Go G M d (pc + 1) lo2 st h kc ks r h') : jj_Go G M d pc lo (.ref x :: st) h kc ks r h' := by
  intro p e R s m args below meth c X H locs cells slots ls Q hR hS hL h4 h5 fin
  subst hl
  exact lv_astore_n X.ex X.bt hd hi hL hn rfl (fun ls' hl' => (k p e R s m args below meth c X H locs cells slots ls' Q hR hS (jj_L_s1 rfl rfl hl') h4 h5 fin))
theorem jj_astore {i : Nat} {x : Nat} {lo2 : List (Option Value)} (hd : decode (jj_b M) pc = .ok (.astore i, 2)) (hn : i < jj_n M) (hl : jj_s lo i (.ref x) = lo2) (k : jj_Go G M d (pc + 2) lo2 st h kc ks r h') : jj_Go G M d pc lo (.ref x :: st) h kc ks r h' := by
  intro p e R s m args below meth c X H locs cells slots ls Q hR hS hL h4 h5 fin
  subst hl
  exact lv_astore X.ex X.bt hd hL hn rfl (fun ls' hl' => (k p e R s m args below meth c X H locs cells slots ls' Q hR hS (jj_L_s1 rfl rfl hl') h4 h5 fin))
theorem jj_iinc {i : Nat} {n : Int} {x v : Int32} {lo2 : List (Option Value)} (hd : decode (jj_b M) pc = .ok (.iinc i n, 3)) (hx : lo[i]? = some (some (.int x))) (hv : x + Int32.ofInt n = v) (hn : i < jj_n M) (hl : jj_s lo i (.int v) = lo2) (k : jj_Go G M d (pc + 3) lo2 st h kc ks r h') : jj_Go G M d pc lo st h kc ks r h' := by
  intro p e R s m args below meth c X H locs cells slots ls Q hR hS hL h4 h5 fin
  subst hl
  have hm := (jj_lE_mem (G := G) lo 0 (i, .int x)).mpr ⟨i, .int x, hx, by rw [Nat.zero_add]; rfl⟩
  obtain ⟨k0, hk0⟩ := List.getElem?_of_mem hm
  exact lv_iinc X.ex X.bt hd hL hk0 hv hn rfl (fun ls' hl' => (k p e R s m args below meth c X H locs cells slots ls' Q hR hS (jj_L_s1 rfl rfl hl') h4 h5 fin))
end JJ
