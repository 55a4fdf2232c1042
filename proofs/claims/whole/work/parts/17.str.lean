/-! THE TEXTS' CONSTANTS, by their places 0 .. 7: the string has the number 1000002 + i, its bytes 1000010 + i -/
section JS
variable {G : jj_G} {M : jj_M} {d pc : Nat} {lo : List (Option Value)} {st st0 : List Value} {h : List jj_C} {kc ks : Nat} {r : Option Value} {h' : List jj_C} {i : Nat}
theorem js_ad (G : jj_G) (i : Nat) : jj_ad G (1000002 + i) = jj_x G (2 + i) := by
  unfold jj_ad
  rw [if_neg (by omega), show 1000002 + i - 1000000 = 2 + i by omega]
theorem js_ad2 (G : jj_G) (i : Nat) : jj_ad G (1000010 + i) = jj_x G (10 + i) := by
  unfold jj_ad
  rw [if_neg (by omega), show 1000010 + i - 1000000 = 10 + i by omega]
theorem js_ldc {idx : Nat} (hd : decode (jj_b M) pc = .ok (.ldc idx, 2)) (hi : i < 8) (hx : jj_ti.getD i 0 = idx) (hc : (jj_y M).cls = RX3) (K : jj_Go G M d (pc + 2) lo (.ref (1000002 + i) :: st) h kc ks r h') : jj_Go G M d pc lo st h kc ks r h' := by
  intro p e R s m args below meth c X H locs cells slots ls Q hR hS hL h4 h5 fin
  subst hx
  have hz := X.O.2.1.1 i hi
  rw [← hc] at hz
  have := K p e R s m args below meth c X H locs cells slots ls Q hR hS hL h4 h5 fin
  refine va_ldcS X.ex X.bt X.own hz hd ?_
  rw [← js_ad]
  exact this
theorem js_val {idx : Nat} (hd : decode (jj_b M) pc = .ok (.getfield idx, 3)) (hi : i < 8) (hw : Cond.fieldLink (jj_y M).cls idx "java/lang/String" "value" "[B" ∈ jj_ws) (K : jj_Go G M d (pc + 3) lo (.ref (1000010 + i) :: st) h kc ks r h') : jj_Go G M d pc lo (.ref (1000002 + i) :: st) h kc ks r h' := by
  intro p e R s m args below meth c X H locs cells slots ls Q hR hS hL h4 h5 fin
  have hz := (X.O.1.2.2.2.1.1 i hi).2.2.1
  have := K p e R s m args below meth c X H locs cells slots ls Q hR hS hL h4 h5 fin
  show W p (jj_l G) e R s m args below meth c H locs cells slots Q (F0 m pc ls (.ref (jj_ad G (1000002 + i)) :: st.map (jj_v G)))
  rw [js_ad]
  refine vk_getf X.ex X.bt hz hS X.own (X.ts _ hw) (fun _ q => q) hd ?_
  show W p (jj_l G) e R s m args below meth c H locs cells slots Q (F0 m (pc + 3) ls (.ref (jj_x G (10 + i)) :: st.map (jj_v G)))
  rw [← js_ad2]
  exact this
theorem js_cod {idx : Nat} (hd : decode (jj_b M) pc = .ok (.getfield idx, 3)) (hi : i < 8) (hw : Cond.fieldLink (jj_y M).cls idx "java/lang/String" "coder" "B" ∈ jj_ws) (K : jj_Go G M d (pc + 3) lo (.int 0 :: st) h kc ks r h') : jj_Go G M d pc lo (.ref (1000002 + i) :: st) h kc ks r h' := by
  intro p e R s m args below meth c X H locs cells slots ls Q hR hS hL h4 h5 fin
  have hz := (X.O.1.2.2.2.1.1 i hi).2.1
  have := K p e R s m args below meth c X H locs cells slots ls Q hR hS hL h4 h5 fin
  show W p (jj_l G) e R s m args below meth c H locs cells slots Q (F0 m pc ls (.ref (jj_ad G (1000002 + i)) :: st.map (jj_v G)))
  rw [js_ad]
  exact vk_getf X.ex X.bt hz hS X.own (X.ts _ hw) (fun _ q => q) hd this
theorem js_len (hd : decode (jj_b M) pc = .ok (.arraylength, 1)) (hi : i < 8) (K : jj_Go G M d (pc + 1) lo (.int (nI (jj_tl.getD i 0)) :: st) h kc ks r h') : jj_Go G M d pc lo (.ref (1000010 + i) :: st) h kc ks r h' := by
  intro p e R s m args below meth c X H locs cells slots ls Q hR hS hL h4 h5 fin
  have hz := (X.O.1.2.2.2.1.1 i hi).2.2.2
  have := K p e R s m args below meth c X H locs cells slots ls Q hR hS hL h4 h5 fin
  show W p (jj_l G) e R s m args below meth c H locs cells slots Q (F0 m pc ls (.ref (jj_ad G (1000010 + i)) :: st.map (jj_v G)))
  rw [js_ad2]
  exact va_tlen X.ex X.bt hz hS rfl hd this
theorem js_bld {j : Nat} (hd : decode (jj_b M) pc = .ok (.baload, 1)) (hi : i < 8) (hj : j < jj_tl.getD i 0) (K : jj_Go G M d (pc + 1) lo (.int ((jj_tb.getD i []).getD j 0) :: st) h kc ks r h') : jj_Go G M d pc lo (.int (nI j) :: .ref (1000010 + i) :: st) h kc ks r h' := by
  intro p e R s m args below meth c X H locs cells slots ls Q hR hS hL h4 h5 fin
  have hz := (X.O.1.2.2.2.1.1 i hi).2.2.2
  have hl : ∀ i, i < 8 → jj_tl.getD i 0 < 100 := by decide +kernel
  have hl2 := hl i hi
  have := K p e R s m args below meth c X H locs cells slots ls Q hR hS hL h4 h5 fin
  show W p (jj_l G) e R s m args below meth c H locs cells slots Q (F0 m pc ls (.int (nI j) :: .ref (jj_ad G (1000010 + i)) :: st.map (jj_v G)))
  rw [js_ad2]
  exact va_tb X.ex X.bt hz hS (jb_in hj (by omega)) (v := .int ((jj_tb.getD i []).getD j 0)) (by rw [nI_clamp (by omega)]) hd this
theorem js_comp {idx : Nat} (hd : decode (jj_b M) pc = .ok (.getstatic idx, 3)) (hw : Cond.fieldLink (jj_y M).cls idx "java/lang/String" "COMPACT_STRINGS" "Z" ∈ jj_ws) (K : jj_Go G M d (pc + 3) lo (.int 1 :: st) h kc ks r h') : jj_Go G M d pc lo st h kc ks r h' := by
  intro p e R s m args below meth c X H locs cells slots ls Q hR hS hL h4 h5 fin
  exact va_gets X.ex X.bt X.O.1.2.2.2.2.1 hS X.own (X.ts _ hw) (fun _ q => q) hd (K p e R s m args below meth c X H locs cells slots ls Q hR hS hL h4 h5 fin)
theorem js_fmt {idx : Nat} (hd : decode (jj_b M) pc = .ok (.getstatic idx, 3)) (hw : Cond.fieldLink (jj_y M).cls idx "jdk/internal/util/Preconditions" "SIOOBE_FORMATTER" "Ljava/util/function/BiFunction;" ∈ jj_ws) (K1 : jj_Go G M d (pc + 3) lo (.null :: st) h kc ks r h') (K2 : jj_Go G M d (pc + 3) lo (.ref 1000018 :: st) h kc ks r h') : jj_Go G M d pc lo st h kc ks r h' := by
  intro p e R s m args below meth c X H locs cells slots ls Q hR hS hL h4 h5 fin
  rcases X.O.1.2.2.2.2.2 with hz | hz
  · exact va_gets X.ex X.bt hz hS X.own (X.ts _ hw) (fun _ q => q) hd (K1 p e R s m args below meth c X H locs cells slots ls Q hR hS hL h4 h5 fin)
  · have := K2 p e R s m args below meth c X H locs cells slots ls Q hR hS hL h4 h5 fin
    exact va_gets X.ex X.bt hz hS X.own (X.ts _ hw) (fun _ q => q) hd this
theorem js_call {idx n d2 : Nat} {M2 : jj_M} {av : List Value} {r2 : Option Value} {hm : List jj_C} (hi : i < 8) (hd : decode (jj_b M) pc = .ok (.invokevirtual idx, 3)) (hl : Cond.methodLink (jj_y M).cls idx (jj_y M2) ∈ jj_ws) (F : jj_mV M2 n) (E : jj_Ev G M2 d2 (.ref (1000002 + i) :: av) h 0 0 r2 hm) (hC : (jj_y M2).cls = "java/lang/String") (hn : av.length = n) (hst : st0 = av.reverse ++ .ref (1000002 + i) :: st) (hd2 : d2 + 1 ≤ d) (hw : (st.map fun v => v.category).sum ≤ 8)
    (K : jj_Go G M d (pc + 3) lo (r2.toList ++ st) hm kc ks r h') : jj_Go G M d pc lo st0 h kc ks r h' := by
  intro p e R s m args below meth c X H locs cells slots ls Q hR hS hL h4 h5 fin
  obtain ⟨⟨f1, f2, f3, f4⟩, f5, f6⟩ := F
  have hrm := X.rm
  have hw' : ((st.map (jj_v G)).map fun v => v.category).sum ≤ 8 := by
    rw [List.map_map, show ((fun v : Value => v.category) ∘ jj_v G) = (fun v => v.category) from funext (jj_v_cat G)]
    exact hw
  refine jj_back (kc2 := 0) (ks2 := 0) (kc := kc) (ks := ks) rfl (va_runV (C := "java/lang/String") (b := jj_ad G (1000002 + i)) (As := av.map (jj_v G)) (rest := st.map (jj_v G)) (g := F0 m pc ls (st0.map (jj_v G))) ⟨X.ex, X.bt, X.2.2.2.1, X.own, X.ts⟩ E (cwV n X.ts (jj_good ?_) rfl rfl rfl ⟨hC, f3⟩ ⟨?_, ?_⟩) ⟨jj_blind, ?_, fun U hU hW => ⟨rfl, jj_pay X hR hS U hU hW⟩⟩ rfl (by rw [List.length_map]; exact hn) hL.1 (by show st0.map (jj_v G) = _; rw [hst, List.map_append, List.map_reverse]; rfl) (lv_room hw') hd ⟨by omega, by omega⟩) X hS hL (by omega) (by omega) (by simpa only [Nat.zero_add] using fin) K
  · intro w hw1
    simp only [wsV, List.cons_append, List.nil_append, List.mem_cons] at hw1
    rcases hw1 with rfl | rfl | rfl | rfl | rfl | hw1
    · exact hl
    · exact f5
    · rw [← hC]; exact f6
    · rw [← hC]; exact f1
    · exact f2
    · exact hw1
  · show d2 + 1 ≤ R.frames
    omega
  · show 8 + (jj_n M2 + 11) + 64 * d2 ≤ R.locals
    omega
  · rw [js_ad]
    exact vk_recv (adK := fun i => jj_x G (2 + i)) (i := i) X.O.1.2.2.2.1 hi hS
end JS
