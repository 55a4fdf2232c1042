/-- what the tables say of a method -/
def jj_mt (M2 : jj_M) (n : Nat) : Prop := Cond.initialized (jj_y M2).cls ∈ jj_ws ∧ Cond.code (jj_y M2) (jj_b M2) (jj_n M2) (jj_r M2) ∈ jj_ws ∧ ((jj_y M2).cls ≠ "java/lang/invoke/MethodHandle" ∧ (jj_y M2).cls ≠ "java/lang/invoke/VarHandle" ∧ (parseMethodDescriptor (jj_y M2).desc).map (fun d => d.parameters.length) = some n) ∧ jj_n M2 ≤ 40
def jj_mS (M2 : jj_M) (n : Nat) : Prop := jj_mt M2 n ∧ Cond.static (jj_y M2) ∈ jj_ws
def jj_mV (M2 : jj_M) (n : Nat) : Prop := jj_mt M2 n ∧ Cond.instanceMethod (jj_y M2) ∈ jj_ws ∧ Cond.selects (jj_y M2).cls (jj_y M2) (jj_y M2) ∈ jj_ws
def jj_mI (M2 : jj_M) (n : Nat) : Prop := jj_mt M2 n ∧ Cond.instanceMethod (jj_y M2) ∈ jj_ws ∧ (jj_y M2).name = "<init>" ∧ jj_r M2 = none
theorem jj_blind {G : jj_G} {av : List Value} {h : List jj_C} : FrameBlind (va_Pc av (fun U => jj_R G h U.heap ∧ va_K (jj_D G) vwCl (jj_tys G) U ∧ jj_O1 G U U.heap ∧ jj_O2 G U)) := by
  intro a U g mk q
  obtain ⟨q1, q2, q3, q4, q5⟩ := q
  exact ⟨q1, q2, va_K.moved (u := U) (U := U.calling g mk a) (Vm.Alike.refl U.vm) q3, jj_O1_moved (u := U) (U := U.calling g mk a) (Vm.Alike.refl U.vm) q4, jj_O2_warm (s := U) (U := U.calling g mk a) (State.WarmedH.refl U) q5⟩
section JC
variable {G : jj_G} {M : jj_M} {d pc : Nat} {lo : List (Option Value)} {st st0 : List Value} {h : List jj_C} {kc ks kc2 ks2 : Nat} {r : Option Value} {h' : List jj_C}
variable {idx d2 n : Nat} {M2 : jj_M} {av : List Value} {r2 : Option Value} {hm : List jj_C}
theorem jj_pay {p : Program} {R : Room} {s : State} {m : MethodId} {args : Array Value} {meth : Method} {c : Code} {H : Heap} {locs : List Loc} (X : jj_X G M d p R s m args meth c) (hR : jj_R G h H) (hS : va_S (jj_A G) s.heap H locs) (U : State) (hU : U.heap = H) (hW : s.WarmedH U.vm) :
    jj_R G h U.heap ∧ va_K (jj_D G) vwCl (jj_tys G) U ∧ jj_O1 G U U.heap ∧ jj_O2 G U := ⟨by rw [hU]; exact hR, va_K.moved hW.alike X.K, jj_O1_moved hW.alike (by rw [hU]; exact jj_O1_kept X.O.1 hS.2.1), jj_O2_warm hW X.O.2.1⟩
/-- behind the call -/
theorem jj_back {p : Program} {e : Env} {R : Room} {s : State} {m : MethodId} {args : Array Value} {below : List Frame} {meth : Method} {c : Code} {H : Heap} {locs : List Loc} {cells slots : Nat} {ls : Array Slot} {Q : State → Prop} {g : JFrame} (hg : g = F0 m pc ls (st0.map (jj_v G)))
    (hrun : va_Run p (jj_l G) e R s m args below meth c H locs cells slots kc2 ks2 g (st.map (jj_v G)) (fun s0 oc t => oc = .returned (r2.map (jj_v G)) ∧ jj_R G hm t.heap ∧ va_F (jj_A G) s0 t) (jj_A G))
    (X : jj_X G M d p R s m args meth c) (hS : va_S (jj_A G) s.heap H locs) (hL : jj_L G ls (jj_n M) lo) (h4 : cells + (kc2 + kc) ≤ R.cells) (h5 : slots + (ks2 + ks) ≤ R.slots)
    (fin : ∀ (pc' : Nat) (ls' : Array Slot) (H' : Heap) (locs' : List Loc), decode (jj_b M) pc' = .ok (jj_rI (jj_r M), 1) → jj_R G h' H' → va_S (jj_A G) s.heap H' locs' → W p (jj_l G) e R s m args below meth c H' locs' (cells + (kc2 + kc)) (slots + (ks2 + ks)) Q (F0 m pc' ls' (r.map (jj_v G)).toList))
    (K : jj_Go G M d (pc + 3) lo (r2.toList ++ st) hm kc ks r h') : W p (jj_l G) e R s m args below meth c H locs cells slots Q (F0 m pc ls (st0.map (jj_v G))) := by
  subst hg
  intro T hT XX
  obtain ⟨v, st₀, t, T', L, e0, X', hL', e1, e2, ⟨q1, q2, q3⟩, stp⟩ := hrun T hT XX
  have hv : v = r2.map (jj_v G) := by cases q1; rfl
  subst hv
  have hS2 : va_S (jj_A G) s.heap T'.heap (locs ++ L) := by
    refine ⟨Nat.le_trans hS.1 (by rw [e1, ← e0]; exact q3.1), fun q g1 g2 => ?_, fun q hq => ?_⟩
    · rw [e1, q3.2 q (by rw [e0]; exact Nat.lt_of_lt_of_le g1 hS.1) g2, e0]
      exact hS.2.1 q g1 g2
    · rcases List.mem_append.mp hq with hh | hh
      · exact hS.2.2 q hh
      · exact hL' _ hh
  obtain ⟨t2, a1, b1⟩ := K p e R s m args below meth c X T'.heap (locs ++ L) (cells + kc2) (slots + ks2) ls Q (by rw [e1]; exact q2) hS2 hL (by omega) (by omega) (fun pc' ls' H' locs' g1 g2 g3 => by
    have := fin pc' ls' H' locs' g1 g2 g3
    rw [Nat.add_assoc, Nat.add_assoc]
    exact this) T' rfl X'
  refine ⟨t2, stp t2 ?_, b1⟩
  have he : (r2.toList ++ st).map (jj_v G) = (r2.map (jj_v G)).toList ++ st.map (jj_v G) := by
    cases r2 <;> simp
  rw [he] at a1
  exact a1
theorem jj_callSa (hd : decode (jj_b M) pc = .ok (.invokestatic idx, 3)) (hl : Cond.methodLink (jj_y M).cls idx (jj_y M2) ∈ jj_ws) (F : jj_mS M2 n) (E : jj_Ev G M2 d2 av h kc2 ks2 r2 hm) (hn : av.length = n) (hst : st0 = av.reverse ++ st) (hd2 : d2 + 1 ≤ d) (hw : (st.map fun v => v.category).sum ≤ 8)
    (K : jj_Go G M d (pc + 3) lo (r2.toList ++ st) hm kc ks r h') : jj_Go G M d pc lo st0 h (kc2 + kc) (ks2 + ks) r h' := by
  intro p e R s m args below meth c X H locs cells slots ls Q hR hS hL h4 h5 fin
  obtain ⟨⟨f1, f2, f3, f4⟩, f5⟩ := F
  have hrm := X.rm
  have hw' : ((st.map (jj_v G)).map fun v => v.category).sum ≤ 8 := by
    rw [List.map_map, show ((fun v : Value => v.category) ∘ jj_v G) = (fun v => v.category) from funext (jj_v_cat G)]
    exact hw
  refine jj_back rfl (va_runS (As := av.map (jj_v G)) (rest := st.map (jj_v G)) (g := F0 m pc ls (st0.map (jj_v G))) ⟨X.ex, X.bt, X.2.2.2.1, X.own, X.ts⟩ E (va_cwS n X.ts (jj_good ?_) rfl rfl rfl f3 ⟨?_, ?_⟩) ⟨jj_blind, fun U hU hW => ⟨rfl, jj_pay X hR hS U hU hW⟩⟩ rfl (by rw [List.length_map]; exact hn) hL.1 (by show st0.map (jj_v G) = _; rw [hst, List.map_append, List.map_reverse]) (lv_room hw') hd ⟨by omega, by omega⟩) X hS hL h4 h5 fin K
  · intro w hw1
    simp only [va_wsS, List.cons_append, List.nil_append, List.mem_cons] at hw1
    rcases hw1 with rfl | rfl | rfl | rfl | hw1
    · exact hl
    · exact f5
    · exact f1
    · exact f2
    · exact hw1
  · show d2 + 1 ≤ R.frames
    omega
  · show 8 + (jj_n M2 + 11) + 64 * d2 ≤ R.locals
    omega
theorem jj_callVa {a ci N : Nat} {C : String} {T : u_T} {fs : List Value} (hd : decode (jj_b M) pc = .ok (.invokevirtual idx, 3)) (hl : Cond.methodLink (jj_y M).cls idx (jj_y M2) ∈ jj_ws) (F : jj_mV M2 n) (E : jj_Ev G M2 d2 (.ref a :: av) h kc2 ks2 r2 hm) (ho : h[a]? = some (.inl (ci, fs))) (hc : vwCl[ci]? = some (C, T, N)) (hC : (jj_y M2).cls = C) (hn : av.length = n) (hst : st0 = av.reverse ++ .ref a :: st) (hd2 : d2 + 1 ≤ d) (hw : (st.map fun v => v.category).sum ≤ 8)
    (K : jj_Go G M d (pc + 3) lo (r2.toList ++ st) hm kc ks r h') : jj_Go G M d pc lo st0 h (kc2 + kc) (ks2 + ks) r h' := by
  intro p e R s m args below meth c X H locs cells slots ls Q hR hS hL h4 h5 fin
  obtain ⟨⟨f1, f2, f3, f4⟩, f5, f6⟩ := F
  have hrm := X.rm
  have hw' : ((st.map (jj_v G)).map fun v => v.category).sum ≤ 8 := by
    rw [List.map_map, show ((fun v : Value => v.category) ∘ jj_v G) = (fun v => v.category) from funext (jj_v_cat G)]
    exact hw
  refine jj_back rfl (va_runV (C := C) (b := jj_ad G a) (As := av.map (jj_v G)) (rest := st.map (jj_v G)) (g := F0 m pc ls (st0.map (jj_v G))) ⟨X.ex, X.bt, X.2.2.2.1, X.own, X.ts⟩ E (cwV n X.ts (jj_good ?_) rfl rfl rfl ⟨hC, f3⟩ ⟨?_, ?_⟩) ⟨jj_blind, ?_, fun U hU hW => ⟨rfl, jj_pay X hR hS U hU hW⟩⟩ rfl (by rw [List.length_map]; exact hn) hL.1 (by show st0.map (jj_v G) = _; rw [hst, List.map_append, List.map_reverse]; rfl) (lv_room hw') hd ⟨by omega, by omega⟩) X hS hL h4 h5 fin K
  · intro w hw1
    simp only [wsV, List.cons_append, List.nil_append, List.mem_cons] at hw1
    rcases hw1 with rfl | rfl | rfl | rfl | rfl | hw1
    · exact hl
    · exact f5
    · rw [← hC]; exact f6
    · rw [← hC]; exact f1
    · exact f2
    · exact hw1
  · show d2 + 1 ≤ R.frames
    omega
  · show 8 + (jj_n M2 + 11) + 64 * d2 ≤ R.locals
    omega
  · rw [jj_ad_lo (jj_R_lt hR ho)]
    exact va_recv X.K hR.1 hc (jj_W_get ho)
theorem jj_callIa {a : Nat} (hd : decode (jj_b M) pc = .ok (.invokespecial idx, 3)) (hl : Cond.methodLink (jj_y M).cls idx (jj_y M2) ∈ jj_ws) (F : jj_mI M2 n) (E : jj_Ev G M2 d2 (.ref a :: av) h kc2 ks2 r2 hm) (hn : av.length = n) (hst : st0 = av.reverse ++ .ref a :: st) (hd2 : d2 + 1 ≤ d) (hw : (st.map fun v => v.category).sum ≤ 8)
    (K : jj_Go G M d (pc + 3) lo (r2.toList ++ st) hm kc ks r h') : jj_Go G M d pc lo st0 h (kc2 + kc) (ks2 + ks) r h' := by
  intro p e R s m args below meth c X H locs cells slots ls Q hR hS hL h4 h5 fin
  obtain ⟨⟨f1, f2, f3, f4⟩, f5, f6, f7⟩ := F
  have hrm := X.rm
  have hw' : ((st.map (jj_v G)).map fun v => v.category).sum ≤ 8 := by
    rw [List.map_map, show ((fun v : Value => v.category) ∘ jj_v G) = (fun v => v.category) from funext (jj_v_cat G)]
    exact hw
  unfold jj_Ev at E
  rw [f7] at E f2
  refine jj_back rfl (va_runI (b := jj_ad G a) (As := av.map (jj_v G)) (rest := st.map (jj_v G)) (g := F0 m pc ls (st0.map (jj_v G))) ⟨X.ex, X.bt, X.2.2.2.1, X.own, X.ts⟩ E (cwI n X.ts (jj_good ?_) rfl rfl rfl (X.ts _ f1) (X.ts _ hl) (X.ts _ f5) f6 f3 ⟨?_, ?_⟩) ⟨jj_blind, fun U hU hW => ⟨rfl, jj_pay X hR hS U hU hW⟩⟩ rfl (by rw [List.length_map]; exact hn) hL.1 (by show st0.map (jj_v G) = _; rw [hst, List.map_append, List.map_reverse]; rfl) (lv_room hw') hd ⟨by omega, by omega⟩) X hS hL h4 h5 fin K
  · intro w hw1
    simp only [List.mem_cons] at hw1
    rcases hw1 with rfl | hw1
    · exact f2
    · exact hw1
  · show d2 + 1 ≤ R.frames
    omega
  · show 8 + (jj_n M2 + 11) + 64 * d2 ≤ R.locals
    omega
theorem jj_callNa {a : Nat} {host : String} (hd : decode (jj_b M) pc = .ok (.invokespecial idx, 3)) (hl : Cond.methodLinkNest (jj_y M).cls idx (jj_y M2) host ∈ jj_nest) (F : jj_mI M2 n) (E : jj_Ev G M2 d2 (.ref a :: av) h kc2 ks2 r2 hm) (hn : av.length = n) (hst : st0 = av.reverse ++ .ref a :: st) (hd2 : d2 + 1 ≤ d) (hw : (st.map fun v => v.category).sum ≤ 8)
    (K : jj_Go G M d (pc + 3) lo (r2.toList ++ st) hm kc ks r h') : jj_Go G M d pc lo st0 h (kc2 + kc) (ks2 + ks) r h' := by
  intro p e R s m args below meth c X H locs cells slots ls Q hR hS hL h4 h5 fin
  obtain ⟨⟨f1, f2, f3, f4⟩, f5, f6, f7⟩ := F
  have hrm := X.rm
  have hw' : ((st.map (jj_v G)).map fun v => v.category).sum ≤ 8 := by
    rw [List.map_map, show ((fun v : Value => v.category) ∘ jj_v G) = (fun v => v.category) from funext (jj_v_cat G)]
    exact hw
  unfold jj_Ev at E
  rw [f7] at E f2
  refine jj_back rfl (va_runIN (host := host) (b := jj_ad G a) (As := av.map (jj_v G)) (rest := st.map (jj_v G)) (g := F0 m pc ls (st0.map (jj_v G))) ⟨X.ex, X.bt, X.2.2.2.1, X.own, X.ts⟩ E ⟨va_cnB n X.ts (jj_good ?_) rfl rfl rfl (X.O.2.1.2 _ hl) (X.ts _ f1) f3 ⟨?_, ?_⟩, f6, X.ts _ f5⟩ ⟨jj_blind, fun U hU hW => ⟨rfl, jj_pay X hR hS U hU hW⟩⟩ rfl (by rw [List.length_map]; exact hn) hL.1 (by show st0.map (jj_v G) = _; rw [hst, List.map_append, List.map_reverse]; rfl) (lv_room hw') hd ⟨by omega, by omega⟩) X hS hL h4 h5 fin K
  · intro w hw1
    simp only [List.mem_cons] at hw1
    rcases hw1 with rfl | hw1
    · exact f2
    · exact hw1
  · show d2 + 1 ≤ R.frames
    omega
  · show 8 + (jj_n M2 + 11) + 64 * d2 ≤ R.locals
    omega
/-- Object's constructor -/
theorem jj_obj {a : Nat} (hd : decode (jj_b M) pc = .ok (.invokespecial idx, 3)) (hl : Cond.methodLink (jj_y M).cls idx objectInit ∈ jj_ws) (h2 : Cond.instanceMethod objectInit ∈ jj_ws) (h3 : Cond.code objectInit ⟨#[0xb1]⟩ 1 none ∈ jj_ws) (hd2 : 1 ≤ d) (hw : (st.map fun v => v.category).sum ≤ 8)
    (K : jj_Go G M d (pc + 3) lo st h kc ks r h') : jj_Go G M d pc lo (.ref a :: st) h kc ks r h' := by
  intro p e R s m args below meth c X H locs cells slots ls Q hR hS hL h4 h5 fin
  have hrm := X.rm
  have hw' : ((st.map (jj_v G)).map fun v => v.category).sum ≤ 8 := by
    rw [List.map_map, show ((fun v : Value => v.category) ∘ jj_v G) = (fun v => v.category) from funext (jj_v_cat G)]
    exact hw
  refine W.objInit X.ex X.bt X.own (X.ts _ hl) (X.ts _ h2) (X.ts _ h3) rfl (by rw [X.2.2.2.1]; exact hL.1) rfl hd (by omega) ?_ (K p e R s m args below meth c X H locs cells slots ls Q hR hS hL h4 h5 fin)
  show 2 * 0 + _ + 12 ≤ _
  omega
/-- Math.max -/
theorem jj_max {x y v : Int32} (hd : decode (jj_b M) pc = .ok (.invokestatic idx, 3)) (hl : Cond.methodLink (jj_y M).cls idx Lib.Math.max.name ∈ jj_ws) (g2 : Cond.static Lib.Math.max.name ∈ jj_ws) (g3 : Cond.initialized "java/lang/Math" ∈ jj_ws) (g4 : Cond.code Lib.Math.max.name Lib.Math.max.code 2 (some .int) ∈ jj_ws) (hd2 : 1 ≤ d) (hw : (st.map fun v => v.category).sum ≤ 8) (hv : (if x < y then y else x) = v)
    (K : jj_Go G M d (pc + 3) lo (.int v :: st) h kc ks r h') : jj_Go G M d pc lo (.int y :: .int x :: st) h kc ks r h' := by
  intro p e R s m args below meth c X H locs cells slots ls Q hR hS hL h4 h5 fin
  subst hv
  have hrm := X.rm
  have hw' : ((st.map (jj_v G)).map fun v => v.category).sum ≤ 8 := by
    rw [List.map_map, show ((fun v : Value => v.category) ∘ jj_v G) = (fun v => v.category) from funext (jj_v_cat G)]
    exact hw
  exact va_mmax X.ex X.bt (by rw [X.2.2.2.1]; exact hL.1.symm) X.own (X.ts _ hl) (X.ts _ g2) (X.ts _ g3) (X.ts _ g4) (by omega) (by omega) (by omega) (by omega) hd (K p e R s m args below meth c X H locs cells slots ls Q hR hS hL h4 h5 fin)
/-- the same for calls that make nothing -/
theorem jj_callS (hd : decode (jj_b M) pc = .ok (.invokestatic idx, 3)) (hl : Cond.methodLink (jj_y M).cls idx (jj_y M2) ∈ jj_ws) (F : jj_mS M2 n) (E : jj_Ev G M2 d2 av h 0 0 r2 hm) (hn : av.length = n) (hst : st0 = av.reverse ++ st) (hd2 : d2 + 1 ≤ d) (hw : (st.map fun v => v.category).sum ≤ 8)
    (K : jj_Go G M d (pc + 3) lo (r2.toList ++ st) hm kc ks r h') : jj_Go G M d pc lo st0 h kc ks r h' := by
  have := jj_callSa hd hl F E hn hst hd2 hw K
  rw [Nat.zero_add, Nat.zero_add] at this
  exact this
theorem jj_callV {a ci N : Nat} {C : String} {T : u_T} {fs : List Value} (hd : decode (jj_b M) pc = .ok (.invokevirtual idx, 3)) (hl : Cond.methodLink (jj_y M).cls idx (jj_y M2) ∈ jj_ws) (F : jj_mV M2 n) (E : jj_Ev G M2 d2 (.ref a :: av) h 0 0 r2 hm) (ho : h[a]? = some (.inl (ci, fs))) (hc : vwCl[ci]? = some (C, T, N)) (hC : (jj_y M2).cls = C) (hn : av.length = n) (hst : st0 = av.reverse ++ .ref a :: st) (hd2 : d2 + 1 ≤ d) (hw : (st.map fun v => v.category).sum ≤ 8)
    (K : jj_Go G M d (pc + 3) lo (r2.toList ++ st) hm kc ks r h') : jj_Go G M d pc lo st0 h kc ks r h' := by
  have := jj_callVa hd hl F E ho hc hC hn hst hd2 hw K
  rw [Nat.zero_add, Nat.zero_add] at this
  exact this
/-- more room does no harm -/
theorem jj_deep {d3 : Nat} (hd : d2 ≤ d3) (E : jj_Go G M d2 pc lo st h kc ks r h') : jj_Go G M d3 pc lo st h kc ks r h' := by
  intro p e R s m args below meth c X
  obtain ⟨x1, x2, x3, x4, x5, x6, x7, x8, x9, x10, x11⟩ := X
  exact E p e R s m args below meth c ⟨x1, x2, x3, x4, x5, x6, x7, x8, by omega, by omega, x11⟩
end JC
