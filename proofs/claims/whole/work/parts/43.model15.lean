/-! THE MODEL'S TEXT: numbers, lines -/
def jx_f (X : jx_X) : jx_X := (X.1, X.2.1, X.2.2.1, X.2.2.2.1, X.2.2.2.2.1, nI X.2.1, X.2.2.2.2.2.2)
def jx_r (X : jx_X) (w : Nat) (v : Int32) : jx_X := (X.1, X.2.1, X.2.2.1, X.2.2.2.1, X.2.2.2.2.1, X.2.2.2.2.2.1, jU X.2.2.2.2.2.2 w v)
/-- the next number -/
def jx_a (sg : Nat → Int32) (L : Nat) (X : jx_X) (b : Nat) : Int32 := tk_n sg (tk_t sg L X.1).1 (tk_t sg L X.1).2 (nI (b + 1))
def jx_nm (sg : Nat → Int32) (L : Nat) (X : jx_X) (w b : Nat) : jx_X := if jx_a sg L X b = -1 then jx_f (jx_n sg L X) else jx_r (jx_n sg L X) w (jx_a sg L X b)
theorem jx_nm_1 (sg : Nat → Int32) (L : Nat) (X : jx_X) (w b : Nat) : (jx_nm sg L X w b).1 = (tk_t sg L X.1).2 ∧ (jx_nm sg L X w b).2.1 = (tk_t sg L X.1).1 := by
  unfold jx_nm
  split <;> exact ⟨rfl, rfl⟩
theorem jx_nm_le {sg : Nat → Int32} {L : Nat} {X : jx_X} (w b : Nat) (h : X.1 ≤ L) : (jx_nm sg L X w b).1 ≤ L := by
  rw [(jx_nm_1 sg L X w b).1]
  exact (tk_t_le h).2.2
theorem jx_a_num {sg : Nat → Int32} {L : Nat} {X : jx_X} {b : Nat} (hb : b < 100) : jx_a sg L X b = -1 ∨ ∃ n, n < b + 1 ∧ jx_a sg L X b = nI n := tk_n_num (by omega)
def jx_ap (sg : Nat → Int32) (L : Nat) (X : jx_X) (w : Nat) : Bool × jx_X :=
  if jx_a sg L X 11 = -1 then (false, jx_nm sg L X (w + 1) 11) else if jx_a sg L (jx_nm sg L X (w + 1) 11) 11 = -1 then (false, jx_nm sg L (jx_nm sg L X (w + 1) 11) (w + 2) 11)
  else if jb_sdI (jx_a sg L X 11) (jx_a sg L (jx_nm sg L X (w + 1) 11) 11) = -1 then (false, jx_f (jx_nm sg L (jx_nm sg L X (w + 1) 11) (w + 2) 11)) else (true, jx_nm sg L (jx_nm sg L X (w + 1) 11) (w + 2) 11)
def jx_st (sg : Nat → Int32) (L : Nat) (X : jx_X) (w : Nat) : Bool × jx_X :=
  if jx_a sg L X 11 = -1 then (false, jx_nm sg L X (w + 1) 11) else (decide (¬ jx_a sg L (jx_nm sg L X (w + 1) 11) 4 = -1), jx_nm sg L (jx_nm sg L X (w + 1) 11) (w + 2) 4)
/-- a word's number with the model -/
def jc (i : Nat) : Int32 := ([0, 1, 2, 3, 5, 6, 7, 4] : List Int32).getD i (-1)
def jx_lw (sg : Nat → Int32) (L : Nat) (Z : jx_X) (w i : Nat) : Bool × jx_X :=
  if i = 8 then (false, jx_f Z) else if i = 7 then (true, Z) else if i = 6 then jx_st sg L Z w else if i = 4 ∨ i = 5 then jx_ap sg L Z w else (decide (¬ jx_a sg L Z 11 = -1), jx_nm sg L Z (w + 1) 11)
def jx_i (sg : Nat → Int32) (L : Nat) (X : jx_X) : Nat := tk_w sg (tk_t sg L X.1).1 (tk_t sg L X.1).2
def jx_ln (sg : Nat → Int32) (L : Nat) (X : jx_X) (w : Nat) : Bool × jx_X := jx_lw sg L (jx_r (jx_n sg L X) w (jc (jx_i sg L X))) w (jx_i sg L X)
theorem jx_n_le {sg : Nat → Int32} {L : Nat} {X : jx_X} (h : X.1 ≤ L) : (jx_n sg L X).1 ≤ L := (tk_t_le h).2.2
theorem jx_ln_le {sg : Nat → Int32} {L : Nat} {X : jx_X} (w : Nat) (h : X.1 ≤ L) : (jx_ln sg L X w).2.1 ≤ L := by
  unfold jx_ln
  have h1 : (jx_r (jx_n sg L X) w (jc (jx_i sg L X))).1 ≤ L := jx_n_le h
  generalize jx_r (jx_n sg L X) w (jc (jx_i sg L X)) = Z at h1
  generalize jx_i sg L X = i
  have h2 := jx_nm_le (sg := sg) (w + 1) 11 h1
  unfold jx_lw
  split
  · exact h1
  · split
    · exact h1
    · split
      · unfold jx_st
        split
        · exact h2
        · exact jx_nm_le _ _ h2
      · split
        · unfold jx_ap
          have h3 := jx_nm_le (sg := sg) (w + 2) 11 h2
          split
          · exact h2
          · split
            · exact h3
            · split
              · exact h3
              · exact h3
        · exact h2
/-- n lines more, from line k on -/
def jx_rd (sg : Nat → Int32) (L : Nat) : Nat → Nat → jx_X → Bool × Nat × jx_X
  | 0, k, X => (false, k, jx_f X)
  | n + 1, k, X => if (jx_ln sg L X (3 * k)).1 = true then
      (if (jx_n sg L (jx_ln sg L X (3 * k)).2).2.2.1 = -3 then jx_rd sg L n (k + 1) (jx_n sg L (jx_ln sg L X (3 * k)).2)
       else if (jx_n sg L (jx_ln sg L X (3 * k)).2).2.2.1 = -2 then (true, k + 1, jx_n sg L (jx_ln sg L X (3 * k)).2) else (false, k + 1, jx_f (jx_n sg L (jx_ln sg L X (3 * k)).2)))
    else (false, k, (jx_ln sg L X (3 * k)).2)
set_option maxRecDepth 100000 in
set_option maxHeartbeats 2000000 in
theorem ev7_fails {G : jj_G} {s : jj_S} {L : Nat} {X : jx_X} : jj_Ev G m7_fails 0 [.ref 28] (jj_m (jx s L X)) 0 0 (some (.int 0)) (jj_m (jx s L (jx_f X))) := by
  refine jj_Ev_of (lo := [some (.ref 28)]) (by decide +kernel) (Nat.le_of_ble_eq_true rfl) rfl (.inl rfl) ?_
  refine jj_aload_n dX7_fails_0 rfl ?_
  refine jj_aload_n dX7_fails_1 rfl ?_
  refine jj_getf dX7_fails_2 fl7_78 rfl rfl ?_
  refine jj_putf dX7_fails_5 (fw7_103 _) rfl (Nat.le_of_ble_eq_true rfl) rfl rfl rfl ?_
  refine jj_iconst (v := 0) dX7_fails_8 (by decide) ?_
  exact jj_leaf dX7_fails_9 rfl rfl
set_option maxRecDepth 100000 in
set_option maxHeartbeats 2000000 in
theorem ev7_isNumber {G : jj_G} {s : jj_S} {L : Nat} {X : jx_X} {w b : Nat} (hL : L ≤ 200) (hp : X.1 ≤ L) (hw : w < 36) (hb : b < 100) : jj_Ev G m7_isNumber 2 [.ref 28, .int (nI w), .int (nI b)] (jj_m (jx s L X)) 0 0 (some (.int (jb_b (¬ jx_a (mo_text s) L X b = -1)))) (jj_m (jx s L (jx_nm (mo_text s) L X w b))) := by
  refine jj_Ev_of (lo := [some (.ref 28), some (.int (nI w)), some (.int (nI b))]) (by decide +kernel) (Nat.le_of_ble_eq_true rfl) rfl (jb_b01 _) ?_
  have hY := ev7_nextToken (G := G) (s := s) (X := X) hL hp
  obtain ⟨n1, n2⟩ := jx_num (sg := mo_text s) hp hb
  unfold jx_nm jx_a
  generalize tk_n (mo_text s) (tk_t (mo_text s) L X.1).1 (tk_t (mo_text s) L X.1).2 (nI (b + 1)) = A at n1 n2 ⊢
  generalize jx_n (mo_text s) L X = Y at hY n1 n2 ⊢
  by_cases z : Y.2.2.1 = -1 ∧ Y.2.2.2.2.1 ≤ nI b
  · obtain ⟨n3, n4⟩ := n1 z
    rw [if_neg n4, jb_bt n4]
    refine jj_aload_n dX7_isNumber_0 rfl ?_
    refine jj_callV (M2 := m7_nextToken) dX7_isNumber_1 ml7_106 tm7_nextToken (hY) rfl rfl rfl rfl rfl (by omega) (Nat.le_of_ble_eq_true rfl) ?_
    refine jj_aload_n dX7_isNumber_4 rfl ?_
    refine jj_getf dX7_isNumber_5 fl7_89 rfl rfl ?_
    refine jj_ldc2 dX7_isNumber_8 kc7_99 ?_
    refine jj_lcmp dX7_isNumber_11 rfl ?_
    refine jj_if_ne (tgt := 23) dX7_isNumber_12 (by decide) (fun zz => absurd (j2_c0 z.1) zz) (fun _ => ?_)
    refine jj_aload_n dX7_isNumber_15 rfl ?_
    refine jj_getf dX7_isNumber_16 fl7_84 rfl rfl ?_
    refine jj_iload_n dX7_isNumber_19 rfl ?_
    refine jj_icmp_le (tgt := 28) dX7_isNumber_20 (by decide) (fun _ => ?_) (fun zz => absurd z.2 zz)
    refine jj_aload_n dX7_isNumber_28 rfl ?_
    refine jj_getf dX7_isNumber_29 fl7_26 rfl rfl ?_
    refine jj_iload_n dX7_isNumber_32 rfl ?_
    refine jj_aload_n dX7_isNumber_33 rfl ?_
    refine jj_getf dX7_isNumber_34 fl7_84 rfl rfl ?_
    rw [show mo_num (jx s L Y) = A from n3.symm]
    refine jv_iast dX7_isNumber_37 rfl (hw) (by decide) rfl ?_
    refine jj_iconst (v := 1) dX7_isNumber_38 (by decide) ?_
    exact jj_leaf dX7_isNumber_39 rfl rfl
  · have n3 := n2 z
    subst n3
    rw [if_pos rfl, jb_bf (fun q => q rfl)]
    by_cases z1 : Y.2.2.1 = -1
    · have z2 : ¬ Y.2.2.2.2.1 ≤ nI b := fun q => z ⟨z1, q⟩
      refine jj_aload_n dX7_isNumber_0 rfl ?_
      refine jj_callV (M2 := m7_nextToken) dX7_isNumber_1 ml7_106 tm7_nextToken (hY) rfl rfl rfl rfl rfl (by omega) (Nat.le_of_ble_eq_true rfl) ?_
      refine jj_aload_n dX7_isNumber_4 rfl ?_
      refine jj_getf dX7_isNumber_5 fl7_89 rfl rfl ?_
      refine jj_ldc2 dX7_isNumber_8 kc7_99 ?_
      refine jj_lcmp dX7_isNumber_11 rfl ?_
      refine jj_if_ne (tgt := 23) dX7_isNumber_12 (by decide) (fun zz => absurd (j2_c0 z1) zz) (fun _ => ?_)
      refine jj_aload_n dX7_isNumber_15 rfl ?_
      refine jj_getf dX7_isNumber_16 fl7_84 rfl rfl ?_
      refine jj_iload_n dX7_isNumber_19 rfl ?_
      refine jj_icmp_le (tgt := 28) dX7_isNumber_20 (by decide) (fun zz => absurd zz z2) (fun _ => ?_)
      refine jj_aload_n dX7_isNumber_23 rfl ?_
      refine jj_callV (M2 := m7_fails) dX7_isNumber_24 ml7_109 tm7_fails (ev7_fails (s := s) (L := L) (X := Y)) rfl rfl rfl rfl rfl (by omega) (Nat.le_of_ble_eq_true rfl) ?_
      exact jj_leaf dX7_isNumber_27 rfl rfl
    · skip
      refine jj_aload_n dX7_isNumber_0 rfl ?_
      refine jj_callV (M2 := m7_nextToken) dX7_isNumber_1 ml7_106 tm7_nextToken (hY) rfl rfl rfl rfl rfl (by omega) (Nat.le_of_ble_eq_true rfl) ?_
      refine jj_aload_n dX7_isNumber_4 rfl ?_
      refine jj_getf dX7_isNumber_5 fl7_89 rfl rfl ?_
      refine jj_ldc2 dX7_isNumber_8 kc7_99 ?_
      refine jj_lcmp dX7_isNumber_11 rfl ?_
      refine jj_if_ne (tgt := 23) dX7_isNumber_12 (by decide) (fun _ => ?_) (fun zz => absurd zz (fun q => z1 (j2_c1 q)))
      refine jj_aload_n dX7_isNumber_23 rfl ?_
      refine jj_callV (M2 := m7_fails) dX7_isNumber_24 ml7_109 tm7_fails (ev7_fails (s := s) (L := L) (X := Y)) rfl rfl rfl rfl rfl (by omega) (Nat.le_of_ble_eq_true rfl) ?_
      exact jj_leaf dX7_isNumber_27 rfl rfl
theorem ev7_isNumber_t {G : jj_G} {s : jj_S} {L : Nat} {X : jx_X} {w b : Nat} (hL : L ≤ 200) (hp : X.1 ≤ L) (hw : w < 36) (hb : b < 100) (h : ¬ jx_a (mo_text s) L X b = -1) : jj_Ev G m7_isNumber 2 [.ref 28, .int (nI w), .int (nI b)] (jj_m (jx s L X)) 0 0 (some (.int 1)) (jj_m (jx s L (jx_nm (mo_text s) L X w b))) := by
  have e := ev7_isNumber (G := G) (s := s) (w := w) hL hp hw hb
  rwa [jb_bt h] at e
theorem ev7_isNumber_f {G : jj_G} {s : jj_S} {L : Nat} {X : jx_X} {w b : Nat} (hL : L ≤ 200) (hp : X.1 ≤ L) (hw : w < 36) (hb : b < 100) (h : jx_a (mo_text s) L X b = -1) : jj_Ev G m7_isNumber 2 [.ref 28, .int (nI w), .int (nI b)] (jj_m (jx s L X)) 0 0 (some (.int 0)) (jj_m (jx s L (jx_nm (mo_text s) L X w b))) := by
  have e := ev7_isNumber (G := G) (s := s) (w := w) hL hp hw hb
  rwa [jb_bf (fun q => q h)] at e
theorem mb_jx {s : jj_S} (L : Nat) (X : jx_X) (hb : mb_ok s) : mb_ok (jx s L X) := hb
set_option maxRecDepth 100000 in
set_option maxHeartbeats 2000000 in
theorem ev7_arePair {G : jj_G} {s : jj_S} {L : Nat} {X : jx_X} {w : Nat} (hb : mb_ok s) (hL : L ≤ 200) (hp : X.1 ≤ L) (hw : w < 34) : jj_Ev G m7_arePair 3 [.ref 28, .int (nI w)] (jj_m (jx s L X)) 0 0 (some (.int (jb_b ((jx_ap (mo_text s) L X w).1 = true)))) (jj_m (jx s L (jx_ap (mo_text s) L X w).2)) := by
  refine jj_Ev_of (lo := [some (.ref 28), some (.int (nI w))]) (by decide +kernel) (Nat.le_of_ble_eq_true rfl) rfl (jb_b01 _) ?_
  unfold jx_ap
  by_cases z1 : jx_a (mo_text s) L X 11 = -1
  · have i1 := (ev7_isNumber_f (s := s) (w := w + 1) (b := 11) hL hp (by omega) (by decide) z1)
    rw [if_pos z1]
    generalize jx_nm (mo_text s) L X (w + 1) 11 = X1 at i1 ⊢
    refine jj_aload_n dX7_arePair_0 rfl ?_
    refine jj_iload_n dX7_arePair_1 rfl ?_
    refine jj_iconst (v := 1) dX7_arePair_2 (by decide) ?_
    refine jj_iadd (v := nI (w + 1)) dX7_arePair_3 (nI_add w 1) ?_
    refine jj_bipush (v := 11) dX7_arePair_4 (by decide) ?_
    refine jj_callV (M2 := m7_isNumber) dX7_arePair_6 ml7_113 tm7_isNumber (i1) rfl rfl rfl rfl rfl (by omega) (Nat.le_of_ble_eq_true rfl) ?_
    refine jj_if_eq (tgt := 24) dX7_arePair_9 (by decide) (fun _ => ?_) (fun zz => absurd rfl zz)
    refine jj_iconst (v := 0) dX7_arePair_24 (by decide) ?_
    exact jj_leaf dX7_arePair_25 rfl rfl
  · have i1 := (ev7_isNumber_t (s := s) (w := w + 1) (b := 11) hL hp (by omega) (by decide) z1)
    have p1 := jx_nm_le (sg := mo_text s) (w + 1) 11 hp
    obtain ⟨f, hf, ef⟩ := (jx_a_num (sg := mo_text s) (L := L) (X := X) (b := 11) (by decide)).resolve_left z1
    have r1 : (jx_nm (mo_text s) L X (w + 1) 11).2.2.2.2.2.2 (w + 1) = nI f := by
      unfold jx_nm
      rw [if_neg z1, ef]
      exact jU_at _ _ _
    rw [if_neg z1, ef]
    generalize jx_nm (mo_text s) L X (w + 1) 11 = X1 at i1 p1 r1 ⊢
    by_cases z2 : jx_a (mo_text s) L X1 11 = -1
    · have i2 := (ev7_isNumber_f (s := s) (w := w + 2) (b := 11) hL p1 (by omega) (by decide) z2)
      rw [if_pos z2]
      generalize jx_nm (mo_text s) L X1 (w + 2) 11 = X2 at i2 ⊢
      refine jj_aload_n dX7_arePair_0 rfl ?_
      refine jj_iload_n dX7_arePair_1 rfl ?_
      refine jj_iconst (v := 1) dX7_arePair_2 (by decide) ?_
      refine jj_iadd (v := nI (w + 1)) dX7_arePair_3 (nI_add w 1) ?_
      refine jj_bipush (v := 11) dX7_arePair_4 (by decide) ?_
      refine jj_callV (M2 := m7_isNumber) dX7_arePair_6 ml7_113 tm7_isNumber (i1) rfl rfl rfl rfl rfl (by omega) (Nat.le_of_ble_eq_true rfl) ?_
      refine jj_if_eq (tgt := 24) dX7_arePair_9 (by decide) (fun zz => absurd zz (by decide)) (fun _ => ?_)
      refine jj_aload_n dX7_arePair_12 rfl ?_
      refine jj_iload_n dX7_arePair_13 rfl ?_
      refine jj_iconst (v := 2) dX7_arePair_14 (by decide) ?_
      refine jj_iadd (v := nI (w + 2)) dX7_arePair_15 (nI_add w 2) ?_
      refine jj_bipush (v := 11) dX7_arePair_16 (by decide) ?_
      refine jj_callV (M2 := m7_isNumber) dX7_arePair_18 ml7_113 tm7_isNumber (i2) rfl rfl rfl rfl rfl (by omega) (Nat.le_of_ble_eq_true rfl) ?_
      refine jj_if_ne (tgt := 26) dX7_arePair_21 (by decide) (fun zz => absurd rfl zz) (fun _ => ?_)
      refine jj_iconst (v := 0) dX7_arePair_24 (by decide) ?_
      exact jj_leaf dX7_arePair_25 rfl rfl
    · have i2 := (ev7_isNumber_t (s := s) (w := w + 2) (b := 11) hL p1 (by omega) (by decide) z2)
      obtain ⟨g, hg, eg⟩ := (jx_a_num (sg := mo_text s) (L := L) (X := X1) (b := 11) (by decide)).resolve_left z2
      have r2 : (jx_nm (mo_text s) L X1 (w + 2) 11).2.2.2.2.2.2 (w + 1) = nI f := by
        unfold jx_nm
        rw [if_neg z2]
        exact (jU_ne _ _ (by omega)).trans r1
      have r3 : (jx_nm (mo_text s) L X1 (w + 2) 11).2.2.2.2.2.2 (w + 2) = nI g := by
        unfold jx_nm
        rw [if_neg z2, eg]
        exact jU_at _ _ _
      have es : jb_sdI (nI f) (nI g) = jb_sd f g := by
        unfold jb_sdI
        rw [if_neg (jb_nm1 (by omega)), nI_clamp (by omega), nI_clamp (by omega)]
      rw [if_neg z2, eg, es]
      generalize jx_nm (mo_text s) L X1 (w + 2) 11 = X2 at i2 r2 r3 ⊢
      have hs := ev7_sideOf (G := G) (mb_jx L X2 hb) hf hg
      by_cases z3 : jb_sd f g = -1
      · rw [if_pos z3]
        refine jj_aload_n dX7_arePair_0 rfl ?_
        refine jj_iload_n dX7_arePair_1 rfl ?_
        refine jj_iconst (v := 1) dX7_arePair_2 (by decide) ?_
        refine jj_iadd (v := nI (w + 1)) dX7_arePair_3 (nI_add w 1) ?_
        refine jj_bipush (v := 11) dX7_arePair_4 (by decide) ?_
        refine jj_callV (M2 := m7_isNumber) dX7_arePair_6 ml7_113 tm7_isNumber (i1) rfl rfl rfl rfl rfl (by omega) (Nat.le_of_ble_eq_true rfl) ?_
        refine jj_if_eq (tgt := 24) dX7_arePair_9 (by decide) (fun zz => absurd zz (by decide)) (fun _ => ?_)
        refine jj_aload_n dX7_arePair_12 rfl ?_
        refine jj_iload_n dX7_arePair_13 rfl ?_
        refine jj_iconst (v := 2) dX7_arePair_14 (by decide) ?_
        refine jj_iadd (v := nI (w + 2)) dX7_arePair_15 (nI_add w 2) ?_
        refine jj_bipush (v := 11) dX7_arePair_16 (by decide) ?_
        refine jj_callV (M2 := m7_isNumber) dX7_arePair_18 ml7_113 tm7_isNumber (i2) rfl rfl rfl rfl rfl (by omega) (Nat.le_of_ble_eq_true rfl) ?_
        refine jj_if_ne (tgt := 26) dX7_arePair_21 (by decide) (fun _ => ?_) (fun zz => absurd zz (by decide))
        refine jj_aload_n dX7_arePair_26 rfl ?_
        refine jj_aload_n dX7_arePair_27 rfl ?_
        refine jj_getf dX7_arePair_28 fl7_26 rfl rfl ?_
        refine jj_iload_n dX7_arePair_31 rfl ?_
        refine jj_iconst (v := 1) dX7_arePair_32 (by decide) ?_
        refine jj_iadd (v := nI (w + 1)) dX7_arePair_33 (nI_add w 1) ?_
        refine jv_iald dX7_arePair_34 rfl (by omega) (by decide) ?_
        rw [show mo_read (jx s L X2) (w + 1) = nI f from r2]
        refine jj_aload_n dX7_arePair_35 rfl ?_
        refine jj_getf dX7_arePair_36 fl7_26 rfl rfl ?_
        refine jj_iload_n dX7_arePair_39 rfl ?_
        refine jj_iconst (v := 2) dX7_arePair_40 (by decide) ?_
        refine jj_iadd (v := nI (w + 2)) dX7_arePair_41 (nI_add w 2) ?_
        refine jv_iald dX7_arePair_42 rfl (by omega) (by decide) ?_
        rw [show mo_read (jx s L X2) (w + 2) = nI g from r3]
        refine jj_callV (M2 := m7_sideOf) dX7_arePair_43 ml7_117 tm7_sideOf (hs) rfl rfl rfl rfl rfl (by omega) (Nat.le_of_ble_eq_true rfl) ?_
        refine jj_iconst (v := (-1)) dX7_arePair_46 (by decide) ?_
        refine jj_icmp_ne (tgt := 57) dX7_arePair_47 (by decide) (fun zz => absurd z3 zz) (fun _ => ?_)
        refine jj_aload_n dX7_arePair_50 rfl ?_
        refine jj_callV (M2 := m7_fails) dX7_arePair_51 ml7_109 tm7_fails (ev7_fails (s := s) (L := L) (X := X2)) rfl rfl rfl rfl rfl (by omega) (Nat.le_of_ble_eq_true rfl) ?_
        refine jj_if_eq (tgt := 61) dX7_arePair_54 (by decide) (fun _ => ?_) (fun zz => absurd rfl zz)
        refine jj_iconst (v := 0) dX7_arePair_61 (by decide) ?_
        exact jj_leaf dX7_arePair_62 rfl rfl
      · rw [if_neg z3]
        refine jj_aload_n dX7_arePair_0 rfl ?_
        refine jj_iload_n dX7_arePair_1 rfl ?_
        refine jj_iconst (v := 1) dX7_arePair_2 (by decide) ?_
        refine jj_iadd (v := nI (w + 1)) dX7_arePair_3 (nI_add w 1) ?_
        refine jj_bipush (v := 11) dX7_arePair_4 (by decide) ?_
        refine jj_callV (M2 := m7_isNumber) dX7_arePair_6 ml7_113 tm7_isNumber (i1) rfl rfl rfl rfl rfl (by omega) (Nat.le_of_ble_eq_true rfl) ?_
        refine jj_if_eq (tgt := 24) dX7_arePair_9 (by decide) (fun zz => absurd zz (by decide)) (fun _ => ?_)
        refine jj_aload_n dX7_arePair_12 rfl ?_
        refine jj_iload_n dX7_arePair_13 rfl ?_
        refine jj_iconst (v := 2) dX7_arePair_14 (by decide) ?_
        refine jj_iadd (v := nI (w + 2)) dX7_arePair_15 (nI_add w 2) ?_
        refine jj_bipush (v := 11) dX7_arePair_16 (by decide) ?_
        refine jj_callV (M2 := m7_isNumber) dX7_arePair_18 ml7_113 tm7_isNumber (i2) rfl rfl rfl rfl rfl (by omega) (Nat.le_of_ble_eq_true rfl) ?_
        refine jj_if_ne (tgt := 26) dX7_arePair_21 (by decide) (fun _ => ?_) (fun zz => absurd zz (by decide))
        refine jj_aload_n dX7_arePair_26 rfl ?_
        refine jj_aload_n dX7_arePair_27 rfl ?_
        refine jj_getf dX7_arePair_28 fl7_26 rfl rfl ?_
        refine jj_iload_n dX7_arePair_31 rfl ?_
        refine jj_iconst (v := 1) dX7_arePair_32 (by decide) ?_
        refine jj_iadd (v := nI (w + 1)) dX7_arePair_33 (nI_add w 1) ?_
        refine jv_iald dX7_arePair_34 rfl (by omega) (by decide) ?_
        rw [show mo_read (jx s L X2) (w + 1) = nI f from r2]
        refine jj_aload_n dX7_arePair_35 rfl ?_
        refine jj_getf dX7_arePair_36 fl7_26 rfl rfl ?_
        refine jj_iload_n dX7_arePair_39 rfl ?_
        refine jj_iconst (v := 2) dX7_arePair_40 (by decide) ?_
        refine jj_iadd (v := nI (w + 2)) dX7_arePair_41 (nI_add w 2) ?_
        refine jv_iald dX7_arePair_42 rfl (by omega) (by decide) ?_
        rw [show mo_read (jx s L X2) (w + 2) = nI g from r3]
        refine jj_callV (M2 := m7_sideOf) dX7_arePair_43 ml7_117 tm7_sideOf (hs) rfl rfl rfl rfl rfl (by omega) (Nat.le_of_ble_eq_true rfl) ?_
        refine jj_iconst (v := (-1)) dX7_arePair_46 (by decide) ?_
        refine jj_icmp_ne (tgt := 57) dX7_arePair_47 (by decide) (fun _ => ?_) (fun zz => absurd zz z3)
        refine jj_iconst (v := 1) dX7_arePair_57 (by decide) ?_
        refine jj_goto (tgt := 62) dX7_arePair_58 (by decide) ?_
        exact jj_leaf dX7_arePair_62 rfl rfl
set_option maxRecDepth 100000 in
set_option maxHeartbeats 2000000 in
theorem ev7_isLine {G : jj_G} {s : jj_S} {L : Nat} {X : jx_X} {w : Nat} (hb : mb_ok s) (hL : L ≤ 200) (hp : X.1 ≤ L) (hw : w < 34) : jj_Ev G m7_isLine 4 [.ref 28, .int (nI w)] (jj_m (jx s L X)) 0 0 (some (.int (jb_b ((jx_ln (mo_text s) L X w).1 = true)))) (jj_m (jx s L (jx_ln (mo_text s) L X w).2)) := by
  refine jj_Ev_of (lo := [some (.ref 28), some (.int (nI w)), none, none]) (by decide +kernel) (Nat.le_of_ble_eq_true rfl) rfl (jb_b01 _) ?_
  have hY := ev7_nextToken (G := G) (s := s) (X := X) hL hp
  have hw8 := jx_w (sg := mo_text s) hp
  have hYl := jx_n_le (sg := mo_text s) hp
  unfold jx_ln
  change (jx_i (mo_text s) L X = 8 ∧ ∀ j, j < 8 → ¬ (jx_n (mo_text s) L X).2.2.1 = jW j) ∨ (jx_i (mo_text s) L X < 8 ∧ (jx_n (mo_text s) L X).2.2.1 = jW (jx_i (mo_text s) L X)) at hw8
  generalize jx_i (mo_text s) L X = i at hw8 ⊢
  generalize jx_n (mo_text s) L X = Y at hY hw8 hYl ⊢
  have hZl : ∀ v, (jx_r Y w v).1 ≤ L := fun v => hYl
  rcases hw8 with ⟨e8, hno⟩ | ⟨e8, hyes⟩
  · subst e8
    rw [show jc 8 = (-1) from rfl]
    have hZl := hZl ((-1))
    generalize hZ : jx_r Y w (-1) = Z at hZl ⊢
    rw [show jx_lw (mo_text s) L Z w 8 = (false, jx_f Z) from rfl]
    refine jj_aload_n dX7_isLine_0 rfl ?_
    refine jj_callV (M2 := m7_nextToken) dX7_isLine_1 ml7_106 tm7_nextToken (hY) rfl rfl rfl rfl rfl (by omega) (Nat.le_of_ble_eq_true rfl) ?_
    refine jj_aload_n dX7_isLine_4 rfl ?_
    refine jj_getf dX7_isLine_5 fl7_89 rfl rfl ?_
    refine jj_ldc2 dX7_isLine_8 kc7_121 ?_
    refine jj_lcmp dX7_isLine_11 rfl ?_
    refine jj_if_ne (tgt := 19) dX7_isLine_12 (by decide) (fun _ => ?_) (fun zz => absurd zz (fun e => hno 0 (by decide) (j2_c1 e)))
    refine jj_aload_n dX7_isLine_19 rfl ?_
    refine jj_getf dX7_isLine_20 fl7_89 rfl rfl ?_
    refine jj_ldc2 dX7_isLine_23 kc7_123 ?_
    refine jj_lcmp dX7_isLine_26 rfl ?_
    refine jj_if_ne (tgt := 34) dX7_isLine_27 (by decide) (fun _ => ?_) (fun zz => absurd zz (fun e => hno 1 (by decide) (j2_c1 e)))
    refine jj_aload_n dX7_isLine_34 rfl ?_
    refine jj_getf dX7_isLine_35 fl7_89 rfl rfl ?_
    refine jj_ldc2 dX7_isLine_38 kc7_125 ?_
    refine jj_lcmp dX7_isLine_41 rfl ?_
    refine jj_if_ne (tgt := 49) dX7_isLine_42 (by decide) (fun _ => ?_) (fun zz => absurd zz (fun e => hno 2 (by decide) (j2_c1 e)))
    refine jj_aload_n dX7_isLine_49 rfl ?_
    refine jj_getf dX7_isLine_50 fl7_89 rfl rfl ?_
    refine jj_ldc2 dX7_isLine_53 kc7_127 ?_
    refine jj_lcmp dX7_isLine_56 rfl ?_
    refine jj_if_ne (tgt := 64) dX7_isLine_57 (by decide) (fun _ => ?_) (fun zz => absurd zz (fun e => hno 3 (by decide) (j2_c1 e)))
    refine jj_iconst (v := (-1)) dX7_isLine_64 (by decide) ?_
    refine jj_istore_n dX7_isLine_65 rfl (by decide) rfl ?_
    refine jj_aload_n dX7_isLine_66 rfl ?_
    refine jj_getf dX7_isLine_67 fl7_89 rfl rfl ?_
    refine jj_ldc2 dX7_isLine_70 kc7_129 ?_
    refine jj_lcmp dX7_isLine_73 rfl ?_
    refine jj_if_ne (tgt := 81) dX7_isLine_74 (by decide) (fun _ => ?_) (fun zz => absurd zz (fun e => hno 7 (by decide) (j2_c1 e)))
    refine jj_aload_n dX7_isLine_81 rfl ?_
    refine jj_getf dX7_isLine_82 fl7_89 rfl rfl ?_
    refine jj_ldc2 dX7_isLine_85 kc7_131 ?_
    refine jj_lcmp dX7_isLine_88 rfl ?_
    refine jj_if_ne (tgt := 96) dX7_isLine_89 (by decide) (fun _ => ?_) (fun zz => absurd zz (fun e => hno 4 (by decide) (j2_c1 e)))
    refine jj_aload_n dX7_isLine_96 rfl ?_
    refine jj_getf dX7_isLine_97 fl7_89 rfl rfl ?_
    refine jj_ldc2 dX7_isLine_100 kc7_133 ?_
    refine jj_lcmp dX7_isLine_103 rfl ?_
    refine jj_if_ne (tgt := 112) dX7_isLine_104 (by decide) (fun _ => ?_) (fun zz => absurd zz (fun e => hno 5 (by decide) (j2_c1 e)))
    refine jj_aload_n dX7_isLine_112 rfl ?_
    refine jj_getf dX7_isLine_113 fl7_89 rfl rfl ?_
    refine jj_ldc2 dX7_isLine_116 kc7_135 ?_
    refine jj_lcmp dX7_isLine_119 rfl ?_
    refine jj_if_ne (tgt := 128) dX7_isLine_120 (by decide) (fun _ => ?_) (fun zz => absurd zz (fun e => hno 6 (by decide) (j2_c1 e)))
    refine jj_iconst (v := (-1)) dX7_isLine_128 (by decide) ?_
    refine jj_istore_n dX7_isLine_129 rfl (by decide) rfl ?_
    refine jj_aload_n dX7_isLine_130 rfl ?_
    refine jj_getf dX7_isLine_131 fl7_26 rfl rfl ?_
    refine jj_iload_n dX7_isLine_134 rfl ?_
    refine jj_iload_n dX7_isLine_135 rfl ?_
    refine jj_iconst (v := (-1)) dX7_isLine_136 (by decide) ?_
    refine jj_icmp_ne (tgt := 144) dX7_isLine_137 (by decide) (fun zz => absurd rfl zz) (fun _ => ?_)
    refine jj_iload_n dX7_isLine_140 rfl ?_
    refine jj_goto (tgt := 145) dX7_isLine_141 (by decide) ?_
    refine jv_iast dX7_isLine_145 rfl (by omega) (by decide) rfl ?_
    refine jj_eq rfl rfl rfl (show _ = jj_m (jx s L Z) from by rw [← hZ]; rfl) ?_
    refine jj_aload_n dX7_isLine_146 rfl ?_
    refine jj_getf dX7_isLine_147 fl7_26 rfl rfl ?_
    refine jj_iload_n dX7_isLine_150 rfl ?_
    refine jv_iald dX7_isLine_151 rfl (by omega) (by decide) ?_
    rw [show mo_read (jx s L Z) w = (-1) from by rw [← hZ]; exact jU_at _ _ _]
    refine jj_swOut (tgt := 247) dX7_isLine_152 (by decide) (by decide) ?_
    refine jj_aload_n dX7_isLine_247 rfl ?_
    refine jj_callV (M2 := m7_fails) dX7_isLine_248 ml7_109 tm7_fails (ev7_fails (s := s) (L := L) (X := Z)) rfl rfl rfl rfl rfl (by omega) (Nat.le_of_ble_eq_true rfl) ?_
    exact jj_leaf dX7_isLine_251 rfl rfl
  · rcases (show i = 0 ∨ i = 1 ∨ i = 2 ∨ i = 3 ∨ i = 4 ∨ i = 5 ∨ i = 6 ∨ i = 7 by omega) with q | q | q | q | q | q | q | q
    · subst q
      replace hyes : Y.2.2.1 = 86870255 := hyes
      rw [show jc 0 = 0 from rfl]
      have hZl := hZl (0)
      generalize hZ : jx_r Y w 0 = Z at hZl ⊢
      rw [show jx_lw (mo_text s) L Z w 0 = (decide (¬ jx_a (mo_text s) L Z 11 = -1), jx_nm (mo_text s) L Z (w + 1) 11) from rfl]
      have i1 := (ev7_isNumber (s := s) (X := Z) (w := w + 1) (b := 11) hL hZl (by omega) (by decide))
      rw [jb_b_iff (show ((decide (¬ jx_a (mo_text s) L Z 11 = -1), jx_nm (mo_text s) L Z (w + 1) 11) : Bool × jx_X).1 = true ↔ ¬ jx_a (mo_text s) L Z 11 = -1 from decide_eq_true_iff)]
      generalize jx_nm (mo_text s) L Z (w + 1) 11 = Z2 at i1 ⊢
      refine jj_aload_n dX7_isLine_0 rfl ?_
      refine jj_callV (M2 := m7_nextToken) dX7_isLine_1 ml7_106 tm7_nextToken (hY) rfl rfl rfl rfl rfl (by omega) (Nat.le_of_ble_eq_true rfl) ?_
      refine jj_aload_n dX7_isLine_4 rfl ?_
      refine jj_getf dX7_isLine_5 fl7_89 rfl rfl ?_
      rw [show mo_tok (jx s L Y) = 86870255 from hyes]
      refine jj_ldc2 dX7_isLine_8 kc7_121 ?_
      refine jj_lcmp dX7_isLine_11 rfl ?_
      refine jj_if_ne (tgt := 19) dX7_isLine_12 (by decide) (fun zz => absurd (j2_c0 rfl) zz) (fun _ => ?_)
      refine jj_iconst (v := 0) dX7_isLine_15 (by decide) ?_
      refine jj_goto (tgt := 65) dX7_isLine_16 (by decide) ?_
      refine jj_istore_n dX7_isLine_65 rfl (by decide) rfl ?_
      refine jj_aload_n dX7_isLine_66 rfl ?_
      refine jj_getf dX7_isLine_67 fl7_89 rfl rfl ?_
      rw [show mo_tok (jx s L Y) = 86870255 from hyes]
      refine jj_ldc2 dX7_isLine_70 kc7_129 ?_
      refine jj_lcmp dX7_isLine_73 rfl ?_
      refine jj_if_ne (tgt := 81) dX7_isLine_74 (by decide) (fun _ => ?_) (fun zz => absurd zz (by decide))
      refine jj_aload_n dX7_isLine_81 rfl ?_
      refine jj_getf dX7_isLine_82 fl7_89 rfl rfl ?_
      rw [show mo_tok (jx s L Y) = 86870255 from hyes]
      refine jj_ldc2 dX7_isLine_85 kc7_131 ?_
      refine jj_lcmp dX7_isLine_88 rfl ?_
      refine jj_if_ne (tgt := 96) dX7_isLine_89 (by decide) (fun _ => ?_) (fun zz => absurd zz (by decide))
      refine jj_aload_n dX7_isLine_96 rfl ?_
      refine jj_getf dX7_isLine_97 fl7_89 rfl rfl ?_
      rw [show mo_tok (jx s L Y) = 86870255 from hyes]
      refine jj_ldc2 dX7_isLine_100 kc7_133 ?_
      refine jj_lcmp dX7_isLine_103 rfl ?_
      refine jj_if_ne (tgt := 112) dX7_isLine_104 (by decide) (fun _ => ?_) (fun zz => absurd zz (by decide))
      refine jj_aload_n dX7_isLine_112 rfl ?_
      refine jj_getf dX7_isLine_113 fl7_89 rfl rfl ?_
      rw [show mo_tok (jx s L Y) = 86870255 from hyes]
      refine jj_ldc2 dX7_isLine_116 kc7_135 ?_
      refine jj_lcmp dX7_isLine_119 rfl ?_
      refine jj_if_ne (tgt := 128) dX7_isLine_120 (by decide) (fun _ => ?_) (fun zz => absurd zz (by decide))
      refine jj_iconst (v := (-1)) dX7_isLine_128 (by decide) ?_
      refine jj_istore_n dX7_isLine_129 rfl (by decide) rfl ?_
      refine jj_aload_n dX7_isLine_130 rfl ?_
      refine jj_getf dX7_isLine_131 fl7_26 rfl rfl ?_
      refine jj_iload_n dX7_isLine_134 rfl ?_
      refine jj_iload_n dX7_isLine_135 rfl ?_
      refine jj_iconst (v := (-1)) dX7_isLine_136 (by decide) ?_
      refine jj_icmp_ne (tgt := 144) dX7_isLine_137 (by decide) (fun _ => ?_) (fun zz => absurd zz (by decide))
      refine jj_iload_n dX7_isLine_144 rfl ?_
      refine jv_iast dX7_isLine_145 rfl (by omega) (by decide) rfl ?_
      refine jj_eq rfl rfl rfl (show _ = jj_m (jx s L Z) from by rw [← hZ]; rfl) ?_
      refine jj_aload_n dX7_isLine_146 rfl ?_
      refine jj_getf dX7_isLine_147 fl7_26 rfl rfl ?_
      refine jj_iload_n dX7_isLine_150 rfl ?_
      refine jv_iald dX7_isLine_151 rfl (by omega) (by decide) ?_
      rw [show mo_read (jx s L Z) w = 0 from by rw [← hZ]; exact jU_at _ _ _]
      refine jj_swIn (tgt := 200) (off := 48) dX7_isLine_152 (by decide) (by decide) (by decide) (by decide) ?_
      refine jj_aload_n dX7_isLine_200 rfl ?_
      refine jj_iload_n dX7_isLine_201 rfl ?_
      refine jj_iconst (v := 1) dX7_isLine_202 (by decide) ?_
      refine jj_iadd (v := nI (w + 1)) dX7_isLine_203 (nI_add w 1) ?_
      refine jj_bipush (v := 11) dX7_isLine_204 (by decide) ?_
      refine jj_callV (M2 := m7_isNumber) dX7_isLine_206 ml7_113 tm7_isNumber (i1) rfl rfl rfl rfl rfl (by omega) (Nat.le_of_ble_eq_true rfl) ?_
      exact jj_leaf dX7_isLine_209 rfl rfl
    · subst q
      replace hyes : Y.2.2.1 = 12384299 := hyes
      rw [show jc 1 = 1 from rfl]
      have hZl := hZl (1)
      generalize hZ : jx_r Y w 1 = Z at hZl ⊢
      rw [show jx_lw (mo_text s) L Z w 1 = (decide (¬ jx_a (mo_text s) L Z 11 = -1), jx_nm (mo_text s) L Z (w + 1) 11) from rfl]
      have i1 := (ev7_isNumber (s := s) (X := Z) (w := w + 1) (b := 11) hL hZl (by omega) (by decide))
      rw [jb_b_iff (show ((decide (¬ jx_a (mo_text s) L Z 11 = -1), jx_nm (mo_text s) L Z (w + 1) 11) : Bool × jx_X).1 = true ↔ ¬ jx_a (mo_text s) L Z 11 = -1 from decide_eq_true_iff)]
      generalize jx_nm (mo_text s) L Z (w + 1) 11 = Z2 at i1 ⊢
      refine jj_aload_n dX7_isLine_0 rfl ?_
      refine jj_callV (M2 := m7_nextToken) dX7_isLine_1 ml7_106 tm7_nextToken (hY) rfl rfl rfl rfl rfl (by omega) (Nat.le_of_ble_eq_true rfl) ?_
      refine jj_aload_n dX7_isLine_4 rfl ?_
      refine jj_getf dX7_isLine_5 fl7_89 rfl rfl ?_
      rw [show mo_tok (jx s L Y) = 12384299 from hyes]
      refine jj_ldc2 dX7_isLine_8 kc7_121 ?_
      refine jj_lcmp dX7_isLine_11 rfl ?_
      refine jj_if_ne (tgt := 19) dX7_isLine_12 (by decide) (fun _ => ?_) (fun zz => absurd zz (by decide))
      refine jj_aload_n dX7_isLine_19 rfl ?_
      refine jj_getf dX7_isLine_20 fl7_89 rfl rfl ?_
      rw [show mo_tok (jx s L Y) = 12384299 from hyes]
      refine jj_ldc2 dX7_isLine_23 kc7_123 ?_
      refine jj_lcmp dX7_isLine_26 rfl ?_
      refine jj_if_ne (tgt := 34) dX7_isLine_27 (by decide) (fun zz => absurd (j2_c0 rfl) zz) (fun _ => ?_)
      refine jj_iconst (v := 1) dX7_isLine_30 (by decide) ?_
      refine jj_goto (tgt := 65) dX7_isLine_31 (by decide) ?_
      refine jj_istore_n dX7_isLine_65 rfl (by decide) rfl ?_
      refine jj_aload_n dX7_isLine_66 rfl ?_
      refine jj_getf dX7_isLine_67 fl7_89 rfl rfl ?_
      rw [show mo_tok (jx s L Y) = 12384299 from hyes]
      refine jj_ldc2 dX7_isLine_70 kc7_129 ?_
      refine jj_lcmp dX7_isLine_73 rfl ?_
      refine jj_if_ne (tgt := 81) dX7_isLine_74 (by decide) (fun _ => ?_) (fun zz => absurd zz (by decide))
      refine jj_aload_n dX7_isLine_81 rfl ?_
      refine jj_getf dX7_isLine_82 fl7_89 rfl rfl ?_
      rw [show mo_tok (jx s L Y) = 12384299 from hyes]
      refine jj_ldc2 dX7_isLine_85 kc7_131 ?_
      refine jj_lcmp dX7_isLine_88 rfl ?_
      refine jj_if_ne (tgt := 96) dX7_isLine_89 (by decide) (fun _ => ?_) (fun zz => absurd zz (by decide))
      refine jj_aload_n dX7_isLine_96 rfl ?_
      refine jj_getf dX7_isLine_97 fl7_89 rfl rfl ?_
      rw [show mo_tok (jx s L Y) = 12384299 from hyes]
      refine jj_ldc2 dX7_isLine_100 kc7_133 ?_
      refine jj_lcmp dX7_isLine_103 rfl ?_
      refine jj_if_ne (tgt := 112) dX7_isLine_104 (by decide) (fun _ => ?_) (fun zz => absurd zz (by decide))
      refine jj_aload_n dX7_isLine_112 rfl ?_
      refine jj_getf dX7_isLine_113 fl7_89 rfl rfl ?_
      rw [show mo_tok (jx s L Y) = 12384299 from hyes]
      refine jj_ldc2 dX7_isLine_116 kc7_135 ?_
      refine jj_lcmp dX7_isLine_119 rfl ?_
      refine jj_if_ne (tgt := 128) dX7_isLine_120 (by decide) (fun _ => ?_) (fun zz => absurd zz (by decide))
      refine jj_iconst (v := (-1)) dX7_isLine_128 (by decide) ?_
      refine jj_istore_n dX7_isLine_129 rfl (by decide) rfl ?_
      refine jj_aload_n dX7_isLine_130 rfl ?_
      refine jj_getf dX7_isLine_131 fl7_26 rfl rfl ?_
      refine jj_iload_n dX7_isLine_134 rfl ?_
      refine jj_iload_n dX7_isLine_135 rfl ?_
      refine jj_iconst (v := (-1)) dX7_isLine_136 (by decide) ?_
      refine jj_icmp_ne (tgt := 144) dX7_isLine_137 (by decide) (fun _ => ?_) (fun zz => absurd zz (by decide))
      refine jj_iload_n dX7_isLine_144 rfl ?_
      refine jv_iast dX7_isLine_145 rfl (by omega) (by decide) rfl ?_
      refine jj_eq rfl rfl rfl (show _ = jj_m (jx s L Z) from by rw [← hZ]; rfl) ?_
      refine jj_aload_n dX7_isLine_146 rfl ?_
      refine jj_getf dX7_isLine_147 fl7_26 rfl rfl ?_
      refine jj_iload_n dX7_isLine_150 rfl ?_
      refine jv_iald dX7_isLine_151 rfl (by omega) (by decide) ?_
      rw [show mo_read (jx s L Z) w = 1 from by rw [← hZ]; exact jU_at _ _ _]
      refine jj_swIn (tgt := 200) (off := 48) dX7_isLine_152 (by decide) (by decide) (by decide) (by decide) ?_
      refine jj_aload_n dX7_isLine_200 rfl ?_
      refine jj_iload_n dX7_isLine_201 rfl ?_
      refine jj_iconst (v := 1) dX7_isLine_202 (by decide) ?_
      refine jj_iadd (v := nI (w + 1)) dX7_isLine_203 (nI_add w 1) ?_
      refine jj_bipush (v := 11) dX7_isLine_204 (by decide) ?_
      refine jj_callV (M2 := m7_isNumber) dX7_isLine_206 ml7_113 tm7_isNumber (i1) rfl rfl rfl rfl rfl (by omega) (Nat.le_of_ble_eq_true rfl) ?_
      exact jj_leaf dX7_isLine_209 rfl rfl
    · subst q
      replace hyes : Y.2.2.1 = 439970 := hyes
      rw [show jc 2 = 2 from rfl]
      have hZl := hZl (2)
      generalize hZ : jx_r Y w 2 = Z at hZl ⊢
      rw [show jx_lw (mo_text s) L Z w 2 = (decide (¬ jx_a (mo_text s) L Z 11 = -1), jx_nm (mo_text s) L Z (w + 1) 11) from rfl]
      have i1 := (ev7_isNumber (s := s) (X := Z) (w := w + 1) (b := 11) hL hZl (by omega) (by decide))
      rw [jb_b_iff (show ((decide (¬ jx_a (mo_text s) L Z 11 = -1), jx_nm (mo_text s) L Z (w + 1) 11) : Bool × jx_X).1 = true ↔ ¬ jx_a (mo_text s) L Z 11 = -1 from decide_eq_true_iff)]
      generalize jx_nm (mo_text s) L Z (w + 1) 11 = Z2 at i1 ⊢
      refine jj_aload_n dX7_isLine_0 rfl ?_
      refine jj_callV (M2 := m7_nextToken) dX7_isLine_1 ml7_106 tm7_nextToken (hY) rfl rfl rfl rfl rfl (by omega) (Nat.le_of_ble_eq_true rfl) ?_
      refine jj_aload_n dX7_isLine_4 rfl ?_
      refine jj_getf dX7_isLine_5 fl7_89 rfl rfl ?_
      rw [show mo_tok (jx s L Y) = 439970 from hyes]
      refine jj_ldc2 dX7_isLine_8 kc7_121 ?_
      refine jj_lcmp dX7_isLine_11 rfl ?_
      refine jj_if_ne (tgt := 19) dX7_isLine_12 (by decide) (fun _ => ?_) (fun zz => absurd zz (by decide))
      refine jj_aload_n dX7_isLine_19 rfl ?_
      refine jj_getf dX7_isLine_20 fl7_89 rfl rfl ?_
      rw [show mo_tok (jx s L Y) = 439970 from hyes]
      refine jj_ldc2 dX7_isLine_23 kc7_123 ?_
      refine jj_lcmp dX7_isLine_26 rfl ?_
      refine jj_if_ne (tgt := 34) dX7_isLine_27 (by decide) (fun _ => ?_) (fun zz => absurd zz (by decide))
      refine jj_aload_n dX7_isLine_34 rfl ?_
      refine jj_getf dX7_isLine_35 fl7_89 rfl rfl ?_
      rw [show mo_tok (jx s L Y) = 439970 from hyes]
      refine jj_ldc2 dX7_isLine_38 kc7_125 ?_
      refine jj_lcmp dX7_isLine_41 rfl ?_
      refine jj_if_ne (tgt := 49) dX7_isLine_42 (by decide) (fun zz => absurd (j2_c0 rfl) zz) (fun _ => ?_)
      refine jj_iconst (v := 2) dX7_isLine_45 (by decide) ?_
      refine jj_goto (tgt := 65) dX7_isLine_46 (by decide) ?_
      refine jj_istore_n dX7_isLine_65 rfl (by decide) rfl ?_
      refine jj_aload_n dX7_isLine_66 rfl ?_
      refine jj_getf dX7_isLine_67 fl7_89 rfl rfl ?_
      rw [show mo_tok (jx s L Y) = 439970 from hyes]
      refine jj_ldc2 dX7_isLine_70 kc7_129 ?_
      refine jj_lcmp dX7_isLine_73 rfl ?_
      refine jj_if_ne (tgt := 81) dX7_isLine_74 (by decide) (fun _ => ?_) (fun zz => absurd zz (by decide))
      refine jj_aload_n dX7_isLine_81 rfl ?_
      refine jj_getf dX7_isLine_82 fl7_89 rfl rfl ?_
      rw [show mo_tok (jx s L Y) = 439970 from hyes]
      refine jj_ldc2 dX7_isLine_85 kc7_131 ?_
      refine jj_lcmp dX7_isLine_88 rfl ?_
      refine jj_if_ne (tgt := 96) dX7_isLine_89 (by decide) (fun _ => ?_) (fun zz => absurd zz (by decide))
      refine jj_aload_n dX7_isLine_96 rfl ?_
      refine jj_getf dX7_isLine_97 fl7_89 rfl rfl ?_
      rw [show mo_tok (jx s L Y) = 439970 from hyes]
      refine jj_ldc2 dX7_isLine_100 kc7_133 ?_
      refine jj_lcmp dX7_isLine_103 rfl ?_
      refine jj_if_ne (tgt := 112) dX7_isLine_104 (by decide) (fun _ => ?_) (fun zz => absurd zz (by decide))
      refine jj_aload_n dX7_isLine_112 rfl ?_
      refine jj_getf dX7_isLine_113 fl7_89 rfl rfl ?_
      rw [show mo_tok (jx s L Y) = 439970 from hyes]
      refine jj_ldc2 dX7_isLine_116 kc7_135 ?_
      refine jj_lcmp dX7_isLine_119 rfl ?_
      refine jj_if_ne (tgt := 128) dX7_isLine_120 (by decide) (fun _ => ?_) (fun zz => absurd zz (by decide))
      refine jj_iconst (v := (-1)) dX7_isLine_128 (by decide) ?_
      refine jj_istore_n dX7_isLine_129 rfl (by decide) rfl ?_
      refine jj_aload_n dX7_isLine_130 rfl ?_
      refine jj_getf dX7_isLine_131 fl7_26 rfl rfl ?_
      refine jj_iload_n dX7_isLine_134 rfl ?_
      refine jj_iload_n dX7_isLine_135 rfl ?_
      refine jj_iconst (v := (-1)) dX7_isLine_136 (by decide) ?_
      refine jj_icmp_ne (tgt := 144) dX7_isLine_137 (by decide) (fun _ => ?_) (fun zz => absurd zz (by decide))
      refine jj_iload_n dX7_isLine_144 rfl ?_
      refine jv_iast dX7_isLine_145 rfl (by omega) (by decide) rfl ?_
      refine jj_eq rfl rfl rfl (show _ = jj_m (jx s L Z) from by rw [← hZ]; rfl) ?_
      refine jj_aload_n dX7_isLine_146 rfl ?_
      refine jj_getf dX7_isLine_147 fl7_26 rfl rfl ?_
      refine jj_iload_n dX7_isLine_150 rfl ?_
      refine jv_iald dX7_isLine_151 rfl (by omega) (by decide) ?_
      rw [show mo_read (jx s L Z) w = 2 from by rw [← hZ]; exact jU_at _ _ _]
      refine jj_swIn (tgt := 200) (off := 48) dX7_isLine_152 (by decide) (by decide) (by decide) (by decide) ?_
      refine jj_aload_n dX7_isLine_200 rfl ?_
      refine jj_iload_n dX7_isLine_201 rfl ?_
      refine jj_iconst (v := 1) dX7_isLine_202 (by decide) ?_
      refine jj_iadd (v := nI (w + 1)) dX7_isLine_203 (nI_add w 1) ?_
      refine jj_bipush (v := 11) dX7_isLine_204 (by decide) ?_
      refine jj_callV (M2 := m7_isNumber) dX7_isLine_206 ml7_113 tm7_isNumber (i1) rfl rfl rfl rfl rfl (by omega) (Nat.le_of_ble_eq_true rfl) ?_
      exact jj_leaf dX7_isLine_209 rfl rfl
    · subst q
      replace hyes : Y.2.2.1 = 456690 := hyes
      rw [show jc 3 = 3 from rfl]
      have hZl := hZl (3)
      generalize hZ : jx_r Y w 3 = Z at hZl ⊢
      rw [show jx_lw (mo_text s) L Z w 3 = (decide (¬ jx_a (mo_text s) L Z 11 = -1), jx_nm (mo_text s) L Z (w + 1) 11) from rfl]
      have i1 := (ev7_isNumber (s := s) (X := Z) (w := w + 1) (b := 11) hL hZl (by omega) (by decide))
      rw [jb_b_iff (show ((decide (¬ jx_a (mo_text s) L Z 11 = -1), jx_nm (mo_text s) L Z (w + 1) 11) : Bool × jx_X).1 = true ↔ ¬ jx_a (mo_text s) L Z 11 = -1 from decide_eq_true_iff)]
      generalize jx_nm (mo_text s) L Z (w + 1) 11 = Z2 at i1 ⊢
      refine jj_aload_n dX7_isLine_0 rfl ?_
      refine jj_callV (M2 := m7_nextToken) dX7_isLine_1 ml7_106 tm7_nextToken (hY) rfl rfl rfl rfl rfl (by omega) (Nat.le_of_ble_eq_true rfl) ?_
      refine jj_aload_n dX7_isLine_4 rfl ?_
      refine jj_getf dX7_isLine_5 fl7_89 rfl rfl ?_
      rw [show mo_tok (jx s L Y) = 456690 from hyes]
      refine jj_ldc2 dX7_isLine_8 kc7_121 ?_
      refine jj_lcmp dX7_isLine_11 rfl ?_
      refine jj_if_ne (tgt := 19) dX7_isLine_12 (by decide) (fun _ => ?_) (fun zz => absurd zz (by decide))
      refine jj_aload_n dX7_isLine_19 rfl ?_
      refine jj_getf dX7_isLine_20 fl7_89 rfl rfl ?_
      rw [show mo_tok (jx s L Y) = 456690 from hyes]
      refine jj_ldc2 dX7_isLine_23 kc7_123 ?_
      refine jj_lcmp dX7_isLine_26 rfl ?_
      refine jj_if_ne (tgt := 34) dX7_isLine_27 (by decide) (fun _ => ?_) (fun zz => absurd zz (by decide))
      refine jj_aload_n dX7_isLine_34 rfl ?_
      refine jj_getf dX7_isLine_35 fl7_89 rfl rfl ?_
      rw [show mo_tok (jx s L Y) = 456690 from hyes]
      refine jj_ldc2 dX7_isLine_38 kc7_125 ?_
      refine jj_lcmp dX7_isLine_41 rfl ?_
      refine jj_if_ne (tgt := 49) dX7_isLine_42 (by decide) (fun _ => ?_) (fun zz => absurd zz (by decide))
      refine jj_aload_n dX7_isLine_49 rfl ?_
      refine jj_getf dX7_isLine_50 fl7_89 rfl rfl ?_
      rw [show mo_tok (jx s L Y) = 456690 from hyes]
      refine jj_ldc2 dX7_isLine_53 kc7_127 ?_
      refine jj_lcmp dX7_isLine_56 rfl ?_
      refine jj_if_ne (tgt := 64) dX7_isLine_57 (by decide) (fun zz => absurd (j2_c0 rfl) zz) (fun _ => ?_)
      refine jj_iconst (v := 3) dX7_isLine_60 (by decide) ?_
      refine jj_goto (tgt := 65) dX7_isLine_61 (by decide) ?_
      refine jj_istore_n dX7_isLine_65 rfl (by decide) rfl ?_
      refine jj_aload_n dX7_isLine_66 rfl ?_
      refine jj_getf dX7_isLine_67 fl7_89 rfl rfl ?_
      rw [show mo_tok (jx s L Y) = 456690 from hyes]
      refine jj_ldc2 dX7_isLine_70 kc7_129 ?_
      refine jj_lcmp dX7_isLine_73 rfl ?_
      refine jj_if_ne (tgt := 81) dX7_isLine_74 (by decide) (fun _ => ?_) (fun zz => absurd zz (by decide))
      refine jj_aload_n dX7_isLine_81 rfl ?_
      refine jj_getf dX7_isLine_82 fl7_89 rfl rfl ?_
      rw [show mo_tok (jx s L Y) = 456690 from hyes]
      refine jj_ldc2 dX7_isLine_85 kc7_131 ?_
      refine jj_lcmp dX7_isLine_88 rfl ?_
      refine jj_if_ne (tgt := 96) dX7_isLine_89 (by decide) (fun _ => ?_) (fun zz => absurd zz (by decide))
      refine jj_aload_n dX7_isLine_96 rfl ?_
      refine jj_getf dX7_isLine_97 fl7_89 rfl rfl ?_
      rw [show mo_tok (jx s L Y) = 456690 from hyes]
      refine jj_ldc2 dX7_isLine_100 kc7_133 ?_
      refine jj_lcmp dX7_isLine_103 rfl ?_
      refine jj_if_ne (tgt := 112) dX7_isLine_104 (by decide) (fun _ => ?_) (fun zz => absurd zz (by decide))
      refine jj_aload_n dX7_isLine_112 rfl ?_
      refine jj_getf dX7_isLine_113 fl7_89 rfl rfl ?_
      rw [show mo_tok (jx s L Y) = 456690 from hyes]
      refine jj_ldc2 dX7_isLine_116 kc7_135 ?_
      refine jj_lcmp dX7_isLine_119 rfl ?_
      refine jj_if_ne (tgt := 128) dX7_isLine_120 (by decide) (fun _ => ?_) (fun zz => absurd zz (by decide))
      refine jj_iconst (v := (-1)) dX7_isLine_128 (by decide) ?_
      refine jj_istore_n dX7_isLine_129 rfl (by decide) rfl ?_
      refine jj_aload_n dX7_isLine_130 rfl ?_
      refine jj_getf dX7_isLine_131 fl7_26 rfl rfl ?_
      refine jj_iload_n dX7_isLine_134 rfl ?_
      refine jj_iload_n dX7_isLine_135 rfl ?_
      refine jj_iconst (v := (-1)) dX7_isLine_136 (by decide) ?_
      refine jj_icmp_ne (tgt := 144) dX7_isLine_137 (by decide) (fun _ => ?_) (fun zz => absurd zz (by decide))
      refine jj_iload_n dX7_isLine_144 rfl ?_
      refine jv_iast dX7_isLine_145 rfl (by omega) (by decide) rfl ?_
      refine jj_eq rfl rfl rfl (show _ = jj_m (jx s L Z) from by rw [← hZ]; rfl) ?_
      refine jj_aload_n dX7_isLine_146 rfl ?_
      refine jj_getf dX7_isLine_147 fl7_26 rfl rfl ?_
      refine jj_iload_n dX7_isLine_150 rfl ?_
      refine jv_iald dX7_isLine_151 rfl (by omega) (by decide) ?_
      rw [show mo_read (jx s L Z) w = 3 from by rw [← hZ]; exact jU_at _ _ _]
      refine jj_swIn (tgt := 200) (off := 48) dX7_isLine_152 (by decide) (by decide) (by decide) (by decide) ?_
      refine jj_aload_n dX7_isLine_200 rfl ?_
      refine jj_iload_n dX7_isLine_201 rfl ?_
      refine jj_iconst (v := 1) dX7_isLine_202 (by decide) ?_
      refine jj_iadd (v := nI (w + 1)) dX7_isLine_203 (nI_add w 1) ?_
      refine jj_bipush (v := 11) dX7_isLine_204 (by decide) ?_
      refine jj_callV (M2 := m7_isNumber) dX7_isLine_206 ml7_113 tm7_isNumber (i1) rfl rfl rfl rfl rfl (by omega) (Nat.le_of_ble_eq_true rfl) ?_
      exact jj_leaf dX7_isLine_209 rfl rfl
    · subst q
      replace hyes : Y.2.2.1 = 453774 := hyes
      rw [show jc 4 = 5 from rfl]
      have hZl := hZl (5)
      generalize hZ : jx_r Y w 5 = Z at hZl ⊢
      rw [show jx_lw (mo_text s) L Z w 4 = jx_ap (mo_text s) L Z w from rfl]
      have i1 := ev7_arePair (G := G) (s := s) (X := Z) (w := w) hb hL hZl hw
      generalize jx_ap (mo_text s) L Z w = Z2 at i1 ⊢
      refine jj_aload_n dX7_isLine_0 rfl ?_
      refine jj_callV (M2 := m7_nextToken) dX7_isLine_1 ml7_106 tm7_nextToken (hY) rfl rfl rfl rfl rfl (by omega) (Nat.le_of_ble_eq_true rfl) ?_
      refine jj_aload_n dX7_isLine_4 rfl ?_
      refine jj_getf dX7_isLine_5 fl7_89 rfl rfl ?_
      rw [show mo_tok (jx s L Y) = 453774 from hyes]
      refine jj_ldc2 dX7_isLine_8 kc7_121 ?_
      refine jj_lcmp dX7_isLine_11 rfl ?_
      refine jj_if_ne (tgt := 19) dX7_isLine_12 (by decide) (fun _ => ?_) (fun zz => absurd zz (by decide))
      refine jj_aload_n dX7_isLine_19 rfl ?_
      refine jj_getf dX7_isLine_20 fl7_89 rfl rfl ?_
      rw [show mo_tok (jx s L Y) = 453774 from hyes]
      refine jj_ldc2 dX7_isLine_23 kc7_123 ?_
      refine jj_lcmp dX7_isLine_26 rfl ?_
      refine jj_if_ne (tgt := 34) dX7_isLine_27 (by decide) (fun _ => ?_) (fun zz => absurd zz (by decide))
      refine jj_aload_n dX7_isLine_34 rfl ?_
      refine jj_getf dX7_isLine_35 fl7_89 rfl rfl ?_
      rw [show mo_tok (jx s L Y) = 453774 from hyes]
      refine jj_ldc2 dX7_isLine_38 kc7_125 ?_
      refine jj_lcmp dX7_isLine_41 rfl ?_
      refine jj_if_ne (tgt := 49) dX7_isLine_42 (by decide) (fun _ => ?_) (fun zz => absurd zz (by decide))
      refine jj_aload_n dX7_isLine_49 rfl ?_
      refine jj_getf dX7_isLine_50 fl7_89 rfl rfl ?_
      rw [show mo_tok (jx s L Y) = 453774 from hyes]
      refine jj_ldc2 dX7_isLine_53 kc7_127 ?_
      refine jj_lcmp dX7_isLine_56 rfl ?_
      refine jj_if_ne (tgt := 64) dX7_isLine_57 (by decide) (fun _ => ?_) (fun zz => absurd zz (by decide))
      refine jj_iconst (v := (-1)) dX7_isLine_64 (by decide) ?_
      refine jj_istore_n dX7_isLine_65 rfl (by decide) rfl ?_
      refine jj_aload_n dX7_isLine_66 rfl ?_
      refine jj_getf dX7_isLine_67 fl7_89 rfl rfl ?_
      rw [show mo_tok (jx s L Y) = 453774 from hyes]
      refine jj_ldc2 dX7_isLine_70 kc7_129 ?_
      refine jj_lcmp dX7_isLine_73 rfl ?_
      refine jj_if_ne (tgt := 81) dX7_isLine_74 (by decide) (fun _ => ?_) (fun zz => absurd zz (by decide))
      refine jj_aload_n dX7_isLine_81 rfl ?_
      refine jj_getf dX7_isLine_82 fl7_89 rfl rfl ?_
      rw [show mo_tok (jx s L Y) = 453774 from hyes]
      refine jj_ldc2 dX7_isLine_85 kc7_131 ?_
      refine jj_lcmp dX7_isLine_88 rfl ?_
      refine jj_if_ne (tgt := 96) dX7_isLine_89 (by decide) (fun zz => absurd (j2_c0 rfl) zz) (fun _ => ?_)
      refine jj_iconst (v := 5) dX7_isLine_92 (by decide) ?_
      refine jj_goto (tgt := 129) dX7_isLine_93 (by decide) ?_
      refine jj_istore_n dX7_isLine_129 rfl (by decide) rfl ?_
      refine jj_aload_n dX7_isLine_130 rfl ?_
      refine jj_getf dX7_isLine_131 fl7_26 rfl rfl ?_
      refine jj_iload_n dX7_isLine_134 rfl ?_
      refine jj_iload_n dX7_isLine_135 rfl ?_
      refine jj_iconst (v := (-1)) dX7_isLine_136 (by decide) ?_
      refine jj_icmp_ne (tgt := 144) dX7_isLine_137 (by decide) (fun zz => absurd rfl zz) (fun _ => ?_)
      refine jj_iload_n dX7_isLine_140 rfl ?_
      refine jj_goto (tgt := 145) dX7_isLine_141 (by decide) ?_
      refine jv_iast dX7_isLine_145 rfl (by omega) (by decide) rfl ?_
      refine jj_eq rfl rfl rfl (show _ = jj_m (jx s L Z) from by rw [← hZ]; rfl) ?_
      refine jj_aload_n dX7_isLine_146 rfl ?_
      refine jj_getf dX7_isLine_147 fl7_26 rfl rfl ?_
      refine jj_iload_n dX7_isLine_150 rfl ?_
      refine jv_iald dX7_isLine_151 rfl (by omega) (by decide) ?_
      rw [show mo_read (jx s L Z) w = 5 from by rw [← hZ]; exact jU_at _ _ _]
      refine jj_swIn (tgt := 212) (off := 60) dX7_isLine_152 (by decide) (by decide) (by decide) (by decide) ?_
      refine jj_aload_n dX7_isLine_212 rfl ?_
      refine jj_iload_n dX7_isLine_213 rfl ?_
      refine jj_callV (M2 := m7_arePair) dX7_isLine_214 ml7_137 tm7_arePair (i1) rfl rfl rfl rfl rfl (by omega) (Nat.le_of_ble_eq_true rfl) ?_
      exact jj_leaf dX7_isLine_217 rfl rfl
    · subst q
      replace hyes : Y.2.2.1 = 139055 := hyes
      rw [show jc 5 = 6 from rfl]
      have hZl := hZl (6)
      generalize hZ : jx_r Y w 6 = Z at hZl ⊢
      rw [show jx_lw (mo_text s) L Z w 5 = jx_ap (mo_text s) L Z w from rfl]
      have i1 := ev7_arePair (G := G) (s := s) (X := Z) (w := w) hb hL hZl hw
      generalize jx_ap (mo_text s) L Z w = Z2 at i1 ⊢
      refine jj_aload_n dX7_isLine_0 rfl ?_
      refine jj_callV (M2 := m7_nextToken) dX7_isLine_1 ml7_106 tm7_nextToken (hY) rfl rfl rfl rfl rfl (by omega) (Nat.le_of_ble_eq_true rfl) ?_
      refine jj_aload_n dX7_isLine_4 rfl ?_
      refine jj_getf dX7_isLine_5 fl7_89 rfl rfl ?_
      rw [show mo_tok (jx s L Y) = 139055 from hyes]
      refine jj_ldc2 dX7_isLine_8 kc7_121 ?_
      refine jj_lcmp dX7_isLine_11 rfl ?_
      refine jj_if_ne (tgt := 19) dX7_isLine_12 (by decide) (fun _ => ?_) (fun zz => absurd zz (by decide))
      refine jj_aload_n dX7_isLine_19 rfl ?_
      refine jj_getf dX7_isLine_20 fl7_89 rfl rfl ?_
      rw [show mo_tok (jx s L Y) = 139055 from hyes]
      refine jj_ldc2 dX7_isLine_23 kc7_123 ?_
      refine jj_lcmp dX7_isLine_26 rfl ?_
      refine jj_if_ne (tgt := 34) dX7_isLine_27 (by decide) (fun _ => ?_) (fun zz => absurd zz (by decide))
      refine jj_aload_n dX7_isLine_34 rfl ?_
      refine jj_getf dX7_isLine_35 fl7_89 rfl rfl ?_
      rw [show mo_tok (jx s L Y) = 139055 from hyes]
      refine jj_ldc2 dX7_isLine_38 kc7_125 ?_
      refine jj_lcmp dX7_isLine_41 rfl ?_
      refine jj_if_ne (tgt := 49) dX7_isLine_42 (by decide) (fun _ => ?_) (fun zz => absurd zz (by decide))
      refine jj_aload_n dX7_isLine_49 rfl ?_
      refine jj_getf dX7_isLine_50 fl7_89 rfl rfl ?_
      rw [show mo_tok (jx s L Y) = 139055 from hyes]
      refine jj_ldc2 dX7_isLine_53 kc7_127 ?_
      refine jj_lcmp dX7_isLine_56 rfl ?_
      refine jj_if_ne (tgt := 64) dX7_isLine_57 (by decide) (fun _ => ?_) (fun zz => absurd zz (by decide))
      refine jj_iconst (v := (-1)) dX7_isLine_64 (by decide) ?_
      refine jj_istore_n dX7_isLine_65 rfl (by decide) rfl ?_
      refine jj_aload_n dX7_isLine_66 rfl ?_
      refine jj_getf dX7_isLine_67 fl7_89 rfl rfl ?_
      rw [show mo_tok (jx s L Y) = 139055 from hyes]
      refine jj_ldc2 dX7_isLine_70 kc7_129 ?_
      refine jj_lcmp dX7_isLine_73 rfl ?_
      refine jj_if_ne (tgt := 81) dX7_isLine_74 (by decide) (fun _ => ?_) (fun zz => absurd zz (by decide))
      refine jj_aload_n dX7_isLine_81 rfl ?_
      refine jj_getf dX7_isLine_82 fl7_89 rfl rfl ?_
      rw [show mo_tok (jx s L Y) = 139055 from hyes]
      refine jj_ldc2 dX7_isLine_85 kc7_131 ?_
      refine jj_lcmp dX7_isLine_88 rfl ?_
      refine jj_if_ne (tgt := 96) dX7_isLine_89 (by decide) (fun _ => ?_) (fun zz => absurd zz (by decide))
      refine jj_aload_n dX7_isLine_96 rfl ?_
      refine jj_getf dX7_isLine_97 fl7_89 rfl rfl ?_
      rw [show mo_tok (jx s L Y) = 139055 from hyes]
      refine jj_ldc2 dX7_isLine_100 kc7_133 ?_
      refine jj_lcmp dX7_isLine_103 rfl ?_
      refine jj_if_ne (tgt := 112) dX7_isLine_104 (by decide) (fun zz => absurd (j2_c0 rfl) zz) (fun _ => ?_)
      refine jj_bipush (v := 6) dX7_isLine_107 (by decide) ?_
      refine jj_goto (tgt := 129) dX7_isLine_109 (by decide) ?_
      refine jj_istore_n dX7_isLine_129 rfl (by decide) rfl ?_
      refine jj_aload_n dX7_isLine_130 rfl ?_
      refine jj_getf dX7_isLine_131 fl7_26 rfl rfl ?_
      refine jj_iload_n dX7_isLine_134 rfl ?_
      refine jj_iload_n dX7_isLine_135 rfl ?_
      refine jj_iconst (v := (-1)) dX7_isLine_136 (by decide) ?_
      refine jj_icmp_ne (tgt := 144) dX7_isLine_137 (by decide) (fun zz => absurd rfl zz) (fun _ => ?_)
      refine jj_iload_n dX7_isLine_140 rfl ?_
      refine jj_goto (tgt := 145) dX7_isLine_141 (by decide) ?_
      refine jv_iast dX7_isLine_145 rfl (by omega) (by decide) rfl ?_
      refine jj_eq rfl rfl rfl (show _ = jj_m (jx s L Z) from by rw [← hZ]; rfl) ?_
      refine jj_aload_n dX7_isLine_146 rfl ?_
      refine jj_getf dX7_isLine_147 fl7_26 rfl rfl ?_
      refine jj_iload_n dX7_isLine_150 rfl ?_
      refine jv_iald dX7_isLine_151 rfl (by omega) (by decide) ?_
      rw [show mo_read (jx s L Z) w = 6 from by rw [← hZ]; exact jU_at _ _ _]
      refine jj_swIn (tgt := 212) (off := 60) dX7_isLine_152 (by decide) (by decide) (by decide) (by decide) ?_
      refine jj_aload_n dX7_isLine_212 rfl ?_
      refine jj_iload_n dX7_isLine_213 rfl ?_
      refine jj_callV (M2 := m7_arePair) dX7_isLine_214 ml7_137 tm7_arePair (i1) rfl rfl rfl rfl rfl (by omega) (Nat.le_of_ble_eq_true rfl) ?_
      exact jj_leaf dX7_isLine_217 rfl rfl
    · subst q
      replace hyes : Y.2.2.1 = 10492150 := hyes
      rw [show jc 6 = 7 from rfl]
      have hZl := hZl (7)
      generalize hZ : jx_r Y w 7 = Z at hZl ⊢
      rw [show jx_lw (mo_text s) L Z w 6 = jx_st (mo_text s) L Z w from rfl]
      unfold jx_st
      by_cases z1 : jx_a (mo_text s) L Z 11 = -1
      · have i1 := (ev7_isNumber_f (G := G) (s := s) (X := Z) (w := w + 1) (b := 11) hL hZl (by omega) (by decide) z1)
        rw [if_pos z1]
        generalize jx_nm (mo_text s) L Z (w + 1) 11 = X1 at i1 ⊢
        refine jj_aload_n dX7_isLine_0 rfl ?_
        refine jj_callV (M2 := m7_nextToken) dX7_isLine_1 ml7_106 tm7_nextToken (hY) rfl rfl rfl rfl rfl (by omega) (Nat.le_of_ble_eq_true rfl) ?_
        refine jj_aload_n dX7_isLine_4 rfl ?_
        refine jj_getf dX7_isLine_5 fl7_89 rfl rfl ?_
        rw [show mo_tok (jx s L Y) = 10492150 from hyes]
        refine jj_ldc2 dX7_isLine_8 kc7_121 ?_
        refine jj_lcmp dX7_isLine_11 rfl ?_
        refine jj_if_ne (tgt := 19) dX7_isLine_12 (by decide) (fun _ => ?_) (fun zz => absurd zz (by decide))
        refine jj_aload_n dX7_isLine_19 rfl ?_
        refine jj_getf dX7_isLine_20 fl7_89 rfl rfl ?_
        rw [show mo_tok (jx s L Y) = 10492150 from hyes]
        refine jj_ldc2 dX7_isLine_23 kc7_123 ?_
        refine jj_lcmp dX7_isLine_26 rfl ?_
        refine jj_if_ne (tgt := 34) dX7_isLine_27 (by decide) (fun _ => ?_) (fun zz => absurd zz (by decide))
        refine jj_aload_n dX7_isLine_34 rfl ?_
        refine jj_getf dX7_isLine_35 fl7_89 rfl rfl ?_
        rw [show mo_tok (jx s L Y) = 10492150 from hyes]
        refine jj_ldc2 dX7_isLine_38 kc7_125 ?_
        refine jj_lcmp dX7_isLine_41 rfl ?_
        refine jj_if_ne (tgt := 49) dX7_isLine_42 (by decide) (fun _ => ?_) (fun zz => absurd zz (by decide))
        refine jj_aload_n dX7_isLine_49 rfl ?_
        refine jj_getf dX7_isLine_50 fl7_89 rfl rfl ?_
        rw [show mo_tok (jx s L Y) = 10492150 from hyes]
        refine jj_ldc2 dX7_isLine_53 kc7_127 ?_
        refine jj_lcmp dX7_isLine_56 rfl ?_
        refine jj_if_ne (tgt := 64) dX7_isLine_57 (by decide) (fun _ => ?_) (fun zz => absurd zz (by decide))
        refine jj_iconst (v := (-1)) dX7_isLine_64 (by decide) ?_
        refine jj_istore_n dX7_isLine_65 rfl (by decide) rfl ?_
        refine jj_aload_n dX7_isLine_66 rfl ?_
        refine jj_getf dX7_isLine_67 fl7_89 rfl rfl ?_
        rw [show mo_tok (jx s L Y) = 10492150 from hyes]
        refine jj_ldc2 dX7_isLine_70 kc7_129 ?_
        refine jj_lcmp dX7_isLine_73 rfl ?_
        refine jj_if_ne (tgt := 81) dX7_isLine_74 (by decide) (fun _ => ?_) (fun zz => absurd zz (by decide))
        refine jj_aload_n dX7_isLine_81 rfl ?_
        refine jj_getf dX7_isLine_82 fl7_89 rfl rfl ?_
        rw [show mo_tok (jx s L Y) = 10492150 from hyes]
        refine jj_ldc2 dX7_isLine_85 kc7_131 ?_
        refine jj_lcmp dX7_isLine_88 rfl ?_
        refine jj_if_ne (tgt := 96) dX7_isLine_89 (by decide) (fun _ => ?_) (fun zz => absurd zz (by decide))
        refine jj_aload_n dX7_isLine_96 rfl ?_
        refine jj_getf dX7_isLine_97 fl7_89 rfl rfl ?_
        rw [show mo_tok (jx s L Y) = 10492150 from hyes]
        refine jj_ldc2 dX7_isLine_100 kc7_133 ?_
        refine jj_lcmp dX7_isLine_103 rfl ?_
        refine jj_if_ne (tgt := 112) dX7_isLine_104 (by decide) (fun _ => ?_) (fun zz => absurd zz (by decide))
        refine jj_aload_n dX7_isLine_112 rfl ?_
        refine jj_getf dX7_isLine_113 fl7_89 rfl rfl ?_
        rw [show mo_tok (jx s L Y) = 10492150 from hyes]
        refine jj_ldc2 dX7_isLine_116 kc7_135 ?_
        refine jj_lcmp dX7_isLine_119 rfl ?_
        refine jj_if_ne (tgt := 128) dX7_isLine_120 (by decide) (fun zz => absurd (j2_c0 rfl) zz) (fun _ => ?_)
        refine jj_bipush (v := 7) dX7_isLine_123 (by decide) ?_
        refine jj_goto (tgt := 129) dX7_isLine_125 (by decide) ?_
        refine jj_istore_n dX7_isLine_129 rfl (by decide) rfl ?_
        refine jj_aload_n dX7_isLine_130 rfl ?_
        refine jj_getf dX7_isLine_131 fl7_26 rfl rfl ?_
        refine jj_iload_n dX7_isLine_134 rfl ?_
        refine jj_iload_n dX7_isLine_135 rfl ?_
        refine jj_iconst (v := (-1)) dX7_isLine_136 (by decide) ?_
        refine jj_icmp_ne (tgt := 144) dX7_isLine_137 (by decide) (fun zz => absurd rfl zz) (fun _ => ?_)
        refine jj_iload_n dX7_isLine_140 rfl ?_
        refine jj_goto (tgt := 145) dX7_isLine_141 (by decide) ?_
        refine jv_iast dX7_isLine_145 rfl (by omega) (by decide) rfl ?_
        refine jj_eq rfl rfl rfl (show _ = jj_m (jx s L Z) from by rw [← hZ]; rfl) ?_
        refine jj_aload_n dX7_isLine_146 rfl ?_
        refine jj_getf dX7_isLine_147 fl7_26 rfl rfl ?_
        refine jj_iload_n dX7_isLine_150 rfl ?_
        refine jv_iald dX7_isLine_151 rfl (by omega) (by decide) ?_
        rw [show mo_read (jx s L Z) w = 7 from by rw [← hZ]; exact jU_at _ _ _]
        refine jj_swIn (tgt := 218) (off := 66) dX7_isLine_152 (by decide) (by decide) (by decide) (by decide) ?_
        refine jj_aload_n dX7_isLine_218 rfl ?_
        refine jj_iload_n dX7_isLine_219 rfl ?_
        refine jj_iconst (v := 1) dX7_isLine_220 (by decide) ?_
        refine jj_iadd (v := nI (w + 1)) dX7_isLine_221 (nI_add w 1) ?_
        refine jj_bipush (v := 11) dX7_isLine_222 (by decide) ?_
        refine jj_callV (M2 := m7_isNumber) dX7_isLine_224 ml7_113 tm7_isNumber (i1) rfl rfl rfl rfl rfl (by omega) (Nat.le_of_ble_eq_true rfl) ?_
        refine jj_if_eq (tgt := 245) dX7_isLine_227 (by decide) (fun _ => ?_) (fun zz => absurd rfl zz)
        refine jj_iconst (v := 0) dX7_isLine_245 (by decide) ?_
        exact jj_leaf dX7_isLine_246 rfl rfl
      · have i1 := (ev7_isNumber_t (G := G) (s := s) (X := Z) (w := w + 1) (b := 11) hL hZl (by omega) (by decide) z1)
        have p1 := jx_nm_le (sg := mo_text s) (w + 1) 11 hZl
        rw [if_neg z1]
        generalize jx_nm (mo_text s) L Z (w + 1) 11 = X1 at i1 p1 ⊢
        by_cases z2 : jx_a (mo_text s) L X1 4 = -1
        · have i2 := (ev7_isNumber_f (G := G) (s := s) (X := X1) (w := w + 2) (b := 4) hL p1 (by omega) (by decide) z2)
          rw [decide_eq_false (fun q => q z2)]
          generalize jx_nm (mo_text s) L X1 (w + 2) 4 = X2 at i2 ⊢
          refine jj_aload_n dX7_isLine_0 rfl ?_
          refine jj_callV (M2 := m7_nextToken) dX7_isLine_1 ml7_106 tm7_nextToken (hY) rfl rfl rfl rfl rfl (by omega) (Nat.le_of_ble_eq_true rfl) ?_
          refine jj_aload_n dX7_isLine_4 rfl ?_
          refine jj_getf dX7_isLine_5 fl7_89 rfl rfl ?_
          rw [show mo_tok (jx s L Y) = 10492150 from hyes]
          refine jj_ldc2 dX7_isLine_8 kc7_121 ?_
          refine jj_lcmp dX7_isLine_11 rfl ?_
          refine jj_if_ne (tgt := 19) dX7_isLine_12 (by decide) (fun _ => ?_) (fun zz => absurd zz (by decide))
          refine jj_aload_n dX7_isLine_19 rfl ?_
          refine jj_getf dX7_isLine_20 fl7_89 rfl rfl ?_
          rw [show mo_tok (jx s L Y) = 10492150 from hyes]
          refine jj_ldc2 dX7_isLine_23 kc7_123 ?_
          refine jj_lcmp dX7_isLine_26 rfl ?_
          refine jj_if_ne (tgt := 34) dX7_isLine_27 (by decide) (fun _ => ?_) (fun zz => absurd zz (by decide))
          refine jj_aload_n dX7_isLine_34 rfl ?_
          refine jj_getf dX7_isLine_35 fl7_89 rfl rfl ?_
          rw [show mo_tok (jx s L Y) = 10492150 from hyes]
          refine jj_ldc2 dX7_isLine_38 kc7_125 ?_
          refine jj_lcmp dX7_isLine_41 rfl ?_
          refine jj_if_ne (tgt := 49) dX7_isLine_42 (by decide) (fun _ => ?_) (fun zz => absurd zz (by decide))
          refine jj_aload_n dX7_isLine_49 rfl ?_
          refine jj_getf dX7_isLine_50 fl7_89 rfl rfl ?_
          rw [show mo_tok (jx s L Y) = 10492150 from hyes]
          refine jj_ldc2 dX7_isLine_53 kc7_127 ?_
          refine jj_lcmp dX7_isLine_56 rfl ?_
          refine jj_if_ne (tgt := 64) dX7_isLine_57 (by decide) (fun _ => ?_) (fun zz => absurd zz (by decide))
          refine jj_iconst (v := (-1)) dX7_isLine_64 (by decide) ?_
          refine jj_istore_n dX7_isLine_65 rfl (by decide) rfl ?_
          refine jj_aload_n dX7_isLine_66 rfl ?_
          refine jj_getf dX7_isLine_67 fl7_89 rfl rfl ?_
          rw [show mo_tok (jx s L Y) = 10492150 from hyes]
          refine jj_ldc2 dX7_isLine_70 kc7_129 ?_
          refine jj_lcmp dX7_isLine_73 rfl ?_
          refine jj_if_ne (tgt := 81) dX7_isLine_74 (by decide) (fun _ => ?_) (fun zz => absurd zz (by decide))
          refine jj_aload_n dX7_isLine_81 rfl ?_
          refine jj_getf dX7_isLine_82 fl7_89 rfl rfl ?_
          rw [show mo_tok (jx s L Y) = 10492150 from hyes]
          refine jj_ldc2 dX7_isLine_85 kc7_131 ?_
          refine jj_lcmp dX7_isLine_88 rfl ?_
          refine jj_if_ne (tgt := 96) dX7_isLine_89 (by decide) (fun _ => ?_) (fun zz => absurd zz (by decide))
          refine jj_aload_n dX7_isLine_96 rfl ?_
          refine jj_getf dX7_isLine_97 fl7_89 rfl rfl ?_
          rw [show mo_tok (jx s L Y) = 10492150 from hyes]
          refine jj_ldc2 dX7_isLine_100 kc7_133 ?_
          refine jj_lcmp dX7_isLine_103 rfl ?_
          refine jj_if_ne (tgt := 112) dX7_isLine_104 (by decide) (fun _ => ?_) (fun zz => absurd zz (by decide))
          refine jj_aload_n dX7_isLine_112 rfl ?_
          refine jj_getf dX7_isLine_113 fl7_89 rfl rfl ?_
          rw [show mo_tok (jx s L Y) = 10492150 from hyes]
          refine jj_ldc2 dX7_isLine_116 kc7_135 ?_
          refine jj_lcmp dX7_isLine_119 rfl ?_
          refine jj_if_ne (tgt := 128) dX7_isLine_120 (by decide) (fun zz => absurd (j2_c0 rfl) zz) (fun _ => ?_)
          refine jj_bipush (v := 7) dX7_isLine_123 (by decide) ?_
          refine jj_goto (tgt := 129) dX7_isLine_125 (by decide) ?_
          refine jj_istore_n dX7_isLine_129 rfl (by decide) rfl ?_
          refine jj_aload_n dX7_isLine_130 rfl ?_
          refine jj_getf dX7_isLine_131 fl7_26 rfl rfl ?_
          refine jj_iload_n dX7_isLine_134 rfl ?_
          refine jj_iload_n dX7_isLine_135 rfl ?_
          refine jj_iconst (v := (-1)) dX7_isLine_136 (by decide) ?_
          refine jj_icmp_ne (tgt := 144) dX7_isLine_137 (by decide) (fun zz => absurd rfl zz) (fun _ => ?_)
          refine jj_iload_n dX7_isLine_140 rfl ?_
          refine jj_goto (tgt := 145) dX7_isLine_141 (by decide) ?_
          refine jv_iast dX7_isLine_145 rfl (by omega) (by decide) rfl ?_
          refine jj_eq rfl rfl rfl (show _ = jj_m (jx s L Z) from by rw [← hZ]; rfl) ?_
          refine jj_aload_n dX7_isLine_146 rfl ?_
          refine jj_getf dX7_isLine_147 fl7_26 rfl rfl ?_
          refine jj_iload_n dX7_isLine_150 rfl ?_
          refine jv_iald dX7_isLine_151 rfl (by omega) (by decide) ?_
          rw [show mo_read (jx s L Z) w = 7 from by rw [← hZ]; exact jU_at _ _ _]
          refine jj_swIn (tgt := 218) (off := 66) dX7_isLine_152 (by decide) (by decide) (by decide) (by decide) ?_
          refine jj_aload_n dX7_isLine_218 rfl ?_
          refine jj_iload_n dX7_isLine_219 rfl ?_
          refine jj_iconst (v := 1) dX7_isLine_220 (by decide) ?_
          refine jj_iadd (v := nI (w + 1)) dX7_isLine_221 (nI_add w 1) ?_
          refine jj_bipush (v := 11) dX7_isLine_222 (by decide) ?_
          refine jj_callV (M2 := m7_isNumber) dX7_isLine_224 ml7_113 tm7_isNumber (i1) rfl rfl rfl rfl rfl (by omega) (Nat.le_of_ble_eq_true rfl) ?_
          refine jj_if_eq (tgt := 245) dX7_isLine_227 (by decide) (fun zz => absurd zz (by decide)) (fun _ => ?_)
          refine jj_aload_n dX7_isLine_230 rfl ?_
          refine jj_iload_n dX7_isLine_231 rfl ?_
          refine jj_iconst (v := 2) dX7_isLine_232 (by decide) ?_
          refine jj_iadd (v := nI (w + 2)) dX7_isLine_233 (nI_add w 2) ?_
          refine jj_iconst (v := 4) dX7_isLine_234 (by decide) ?_
          refine jj_callV (M2 := m7_isNumber) dX7_isLine_235 ml7_113 tm7_isNumber (i2) rfl rfl rfl rfl rfl (by omega) (Nat.le_of_ble_eq_true rfl) ?_
          refine jj_if_eq (tgt := 245) dX7_isLine_238 (by decide) (fun _ => ?_) (fun zz => absurd rfl zz)
          refine jj_iconst (v := 0) dX7_isLine_245 (by decide) ?_
          exact jj_leaf dX7_isLine_246 rfl rfl
        · have i2 := (ev7_isNumber_t (G := G) (s := s) (X := X1) (w := w + 2) (b := 4) hL p1 (by omega) (by decide) z2)
          rw [decide_eq_true z2]
          generalize jx_nm (mo_text s) L X1 (w + 2) 4 = X2 at i2 ⊢
          refine jj_aload_n dX7_isLine_0 rfl ?_
          refine jj_callV (M2 := m7_nextToken) dX7_isLine_1 ml7_106 tm7_nextToken (hY) rfl rfl rfl rfl rfl (by omega) (Nat.le_of_ble_eq_true rfl) ?_
          refine jj_aload_n dX7_isLine_4 rfl ?_
          refine jj_getf dX7_isLine_5 fl7_89 rfl rfl ?_
          rw [show mo_tok (jx s L Y) = 10492150 from hyes]
          refine jj_ldc2 dX7_isLine_8 kc7_121 ?_
          refine jj_lcmp dX7_isLine_11 rfl ?_
          refine jj_if_ne (tgt := 19) dX7_isLine_12 (by decide) (fun _ => ?_) (fun zz => absurd zz (by decide))
          refine jj_aload_n dX7_isLine_19 rfl ?_
          refine jj_getf dX7_isLine_20 fl7_89 rfl rfl ?_
          rw [show mo_tok (jx s L Y) = 10492150 from hyes]
          refine jj_ldc2 dX7_isLine_23 kc7_123 ?_
          refine jj_lcmp dX7_isLine_26 rfl ?_
          refine jj_if_ne (tgt := 34) dX7_isLine_27 (by decide) (fun _ => ?_) (fun zz => absurd zz (by decide))
          refine jj_aload_n dX7_isLine_34 rfl ?_
          refine jj_getf dX7_isLine_35 fl7_89 rfl rfl ?_
          rw [show mo_tok (jx s L Y) = 10492150 from hyes]
          refine jj_ldc2 dX7_isLine_38 kc7_125 ?_
          refine jj_lcmp dX7_isLine_41 rfl ?_
          refine jj_if_ne (tgt := 49) dX7_isLine_42 (by decide) (fun _ => ?_) (fun zz => absurd zz (by decide))
          refine jj_aload_n dX7_isLine_49 rfl ?_
          refine jj_getf dX7_isLine_50 fl7_89 rfl rfl ?_
          rw [show mo_tok (jx s L Y) = 10492150 from hyes]
          refine jj_ldc2 dX7_isLine_53 kc7_127 ?_
          refine jj_lcmp dX7_isLine_56 rfl ?_
          refine jj_if_ne (tgt := 64) dX7_isLine_57 (by decide) (fun _ => ?_) (fun zz => absurd zz (by decide))
          refine jj_iconst (v := (-1)) dX7_isLine_64 (by decide) ?_
          refine jj_istore_n dX7_isLine_65 rfl (by decide) rfl ?_
          refine jj_aload_n dX7_isLine_66 rfl ?_
          refine jj_getf dX7_isLine_67 fl7_89 rfl rfl ?_
          rw [show mo_tok (jx s L Y) = 10492150 from hyes]
          refine jj_ldc2 dX7_isLine_70 kc7_129 ?_
          refine jj_lcmp dX7_isLine_73 rfl ?_
          refine jj_if_ne (tgt := 81) dX7_isLine_74 (by decide) (fun _ => ?_) (fun zz => absurd zz (by decide))
          refine jj_aload_n dX7_isLine_81 rfl ?_
          refine jj_getf dX7_isLine_82 fl7_89 rfl rfl ?_
          rw [show mo_tok (jx s L Y) = 10492150 from hyes]
          refine jj_ldc2 dX7_isLine_85 kc7_131 ?_
          refine jj_lcmp dX7_isLine_88 rfl ?_
          refine jj_if_ne (tgt := 96) dX7_isLine_89 (by decide) (fun _ => ?_) (fun zz => absurd zz (by decide))
          refine jj_aload_n dX7_isLine_96 rfl ?_
          refine jj_getf dX7_isLine_97 fl7_89 rfl rfl ?_
          rw [show mo_tok (jx s L Y) = 10492150 from hyes]
          refine jj_ldc2 dX7_isLine_100 kc7_133 ?_
          refine jj_lcmp dX7_isLine_103 rfl ?_
          refine jj_if_ne (tgt := 112) dX7_isLine_104 (by decide) (fun _ => ?_) (fun zz => absurd zz (by decide))
          refine jj_aload_n dX7_isLine_112 rfl ?_
          refine jj_getf dX7_isLine_113 fl7_89 rfl rfl ?_
          rw [show mo_tok (jx s L Y) = 10492150 from hyes]
          refine jj_ldc2 dX7_isLine_116 kc7_135 ?_
          refine jj_lcmp dX7_isLine_119 rfl ?_
          refine jj_if_ne (tgt := 128) dX7_isLine_120 (by decide) (fun zz => absurd (j2_c0 rfl) zz) (fun _ => ?_)
          refine jj_bipush (v := 7) dX7_isLine_123 (by decide) ?_
          refine jj_goto (tgt := 129) dX7_isLine_125 (by decide) ?_
          refine jj_istore_n dX7_isLine_129 rfl (by decide) rfl ?_
          refine jj_aload_n dX7_isLine_130 rfl ?_
          refine jj_getf dX7_isLine_131 fl7_26 rfl rfl ?_
          refine jj_iload_n dX7_isLine_134 rfl ?_
          refine jj_iload_n dX7_isLine_135 rfl ?_
          refine jj_iconst (v := (-1)) dX7_isLine_136 (by decide) ?_
          refine jj_icmp_ne (tgt := 144) dX7_isLine_137 (by decide) (fun zz => absurd rfl zz) (fun _ => ?_)
          refine jj_iload_n dX7_isLine_140 rfl ?_
          refine jj_goto (tgt := 145) dX7_isLine_141 (by decide) ?_
          refine jv_iast dX7_isLine_145 rfl (by omega) (by decide) rfl ?_
          refine jj_eq rfl rfl rfl (show _ = jj_m (jx s L Z) from by rw [← hZ]; rfl) ?_
          refine jj_aload_n dX7_isLine_146 rfl ?_
          refine jj_getf dX7_isLine_147 fl7_26 rfl rfl ?_
          refine jj_iload_n dX7_isLine_150 rfl ?_
          refine jv_iald dX7_isLine_151 rfl (by omega) (by decide) ?_
          rw [show mo_read (jx s L Z) w = 7 from by rw [← hZ]; exact jU_at _ _ _]
          refine jj_swIn (tgt := 218) (off := 66) dX7_isLine_152 (by decide) (by decide) (by decide) (by decide) ?_
          refine jj_aload_n dX7_isLine_218 rfl ?_
          refine jj_iload_n dX7_isLine_219 rfl ?_
          refine jj_iconst (v := 1) dX7_isLine_220 (by decide) ?_
          refine jj_iadd (v := nI (w + 1)) dX7_isLine_221 (nI_add w 1) ?_
          refine jj_bipush (v := 11) dX7_isLine_222 (by decide) ?_
          refine jj_callV (M2 := m7_isNumber) dX7_isLine_224 ml7_113 tm7_isNumber (i1) rfl rfl rfl rfl rfl (by omega) (Nat.le_of_ble_eq_true rfl) ?_
          refine jj_if_eq (tgt := 245) dX7_isLine_227 (by decide) (fun zz => absurd zz (by decide)) (fun _ => ?_)
          refine jj_aload_n dX7_isLine_230 rfl ?_
          refine jj_iload_n dX7_isLine_231 rfl ?_
          refine jj_iconst (v := 2) dX7_isLine_232 (by decide) ?_
          refine jj_iadd (v := nI (w + 2)) dX7_isLine_233 (nI_add w 2) ?_
          refine jj_iconst (v := 4) dX7_isLine_234 (by decide) ?_
          refine jj_callV (M2 := m7_isNumber) dX7_isLine_235 ml7_113 tm7_isNumber (i2) rfl rfl rfl rfl rfl (by omega) (Nat.le_of_ble_eq_true rfl) ?_
          refine jj_if_eq (tgt := 245) dX7_isLine_238 (by decide) (fun zz => absurd zz (by decide)) (fun _ => ?_)
          refine jj_iconst (v := 1) dX7_isLine_241 (by decide) ?_
          refine jj_goto (tgt := 246) dX7_isLine_242 (by decide) ?_
          exact jj_leaf dX7_isLine_246 rfl rfl
    · subst q
      replace hyes : Y.2.2.1 = 405230 := hyes
      rw [show jc 7 = 4 from rfl]
      have hZl := hZl (4)
      generalize hZ : jx_r Y w 4 = Z at hZl ⊢
      rw [show jx_lw (mo_text s) L Z w 7 = (true, Z) from rfl]
      refine jj_aload_n dX7_isLine_0 rfl ?_
      refine jj_callV (M2 := m7_nextToken) dX7_isLine_1 ml7_106 tm7_nextToken (hY) rfl rfl rfl rfl rfl (by omega) (Nat.le_of_ble_eq_true rfl) ?_
      refine jj_aload_n dX7_isLine_4 rfl ?_
      refine jj_getf dX7_isLine_5 fl7_89 rfl rfl ?_
      rw [show mo_tok (jx s L Y) = 405230 from hyes]
      refine jj_ldc2 dX7_isLine_8 kc7_121 ?_
      refine jj_lcmp dX7_isLine_11 rfl ?_
      refine jj_if_ne (tgt := 19) dX7_isLine_12 (by decide) (fun _ => ?_) (fun zz => absurd zz (by decide))
      refine jj_aload_n dX7_isLine_19 rfl ?_
      refine jj_getf dX7_isLine_20 fl7_89 rfl rfl ?_
      rw [show mo_tok (jx s L Y) = 405230 from hyes]
      refine jj_ldc2 dX7_isLine_23 kc7_123 ?_
      refine jj_lcmp dX7_isLine_26 rfl ?_
      refine jj_if_ne (tgt := 34) dX7_isLine_27 (by decide) (fun _ => ?_) (fun zz => absurd zz (by decide))
      refine jj_aload_n dX7_isLine_34 rfl ?_
      refine jj_getf dX7_isLine_35 fl7_89 rfl rfl ?_
      rw [show mo_tok (jx s L Y) = 405230 from hyes]
      refine jj_ldc2 dX7_isLine_38 kc7_125 ?_
      refine jj_lcmp dX7_isLine_41 rfl ?_
      refine jj_if_ne (tgt := 49) dX7_isLine_42 (by decide) (fun _ => ?_) (fun zz => absurd zz (by decide))
      refine jj_aload_n dX7_isLine_49 rfl ?_
      refine jj_getf dX7_isLine_50 fl7_89 rfl rfl ?_
      rw [show mo_tok (jx s L Y) = 405230 from hyes]
      refine jj_ldc2 dX7_isLine_53 kc7_127 ?_
      refine jj_lcmp dX7_isLine_56 rfl ?_
      refine jj_if_ne (tgt := 64) dX7_isLine_57 (by decide) (fun _ => ?_) (fun zz => absurd zz (by decide))
      refine jj_iconst (v := (-1)) dX7_isLine_64 (by decide) ?_
      refine jj_istore_n dX7_isLine_65 rfl (by decide) rfl ?_
      refine jj_aload_n dX7_isLine_66 rfl ?_
      refine jj_getf dX7_isLine_67 fl7_89 rfl rfl ?_
      rw [show mo_tok (jx s L Y) = 405230 from hyes]
      refine jj_ldc2 dX7_isLine_70 kc7_129 ?_
      refine jj_lcmp dX7_isLine_73 rfl ?_
      refine jj_if_ne (tgt := 81) dX7_isLine_74 (by decide) (fun zz => absurd (j2_c0 rfl) zz) (fun _ => ?_)
      refine jj_iconst (v := 4) dX7_isLine_77 (by decide) ?_
      refine jj_goto (tgt := 129) dX7_isLine_78 (by decide) ?_
      refine jj_istore_n dX7_isLine_129 rfl (by decide) rfl ?_
      refine jj_aload_n dX7_isLine_130 rfl ?_
      refine jj_getf dX7_isLine_131 fl7_26 rfl rfl ?_
      refine jj_iload_n dX7_isLine_134 rfl ?_
      refine jj_iload_n dX7_isLine_135 rfl ?_
      refine jj_iconst (v := (-1)) dX7_isLine_136 (by decide) ?_
      refine jj_icmp_ne (tgt := 144) dX7_isLine_137 (by decide) (fun zz => absurd rfl zz) (fun _ => ?_)
      refine jj_iload_n dX7_isLine_140 rfl ?_
      refine jj_goto (tgt := 145) dX7_isLine_141 (by decide) ?_
      refine jv_iast dX7_isLine_145 rfl (by omega) (by decide) rfl ?_
      refine jj_eq rfl rfl rfl (show _ = jj_m (jx s L Z) from by rw [← hZ]; rfl) ?_
      refine jj_aload_n dX7_isLine_146 rfl ?_
      refine jj_getf dX7_isLine_147 fl7_26 rfl rfl ?_
      refine jj_iload_n dX7_isLine_150 rfl ?_
      refine jv_iald dX7_isLine_151 rfl (by omega) (by decide) ?_
      rw [show mo_read (jx s L Z) w = 4 from by rw [← hZ]; exact jU_at _ _ _]
      refine jj_swIn (tgt := 210) (off := 58) dX7_isLine_152 (by decide) (by decide) (by decide) (by decide) ?_
      refine jj_iconst (v := 1) dX7_isLine_210 (by decide) ?_
      exact jj_leaf dX7_isLine_211 rfl rfl
set_option maxRecDepth 100000 in
set_option maxHeartbeats 2000000 in
theorem ev7_isRead {G : jj_G} {s : jj_S} {L : Nat} {X : jx_X} (hb : mb_ok s) (hL : L ≤ 200) : jj_Ev G m7_isRead 5 [.ref 28] (jj_m (jx s L X)) 0 0 (some (.int (jb_b ((jx_rd (mo_text s) L 12 0 (0, X.2)).1 = true)))) (jj_m (jx (mo_rmS s (nI ((jx_rd (mo_text s) L 12 0 (0, X.2)).2.1))) L ((jx_rd (mo_text s) L 12 0 (0, X.2)).2.2))) := by
  refine jj_Ev_of (lo := [some (.ref 28), none]) (by decide +kernel) (Nat.le_of_ble_eq_true rfl) rfl (jb_b01 _) ?_
  have M : ∀ n k X, k + n = 12 → 1 ≤ n → X.1 ≤ L → jj_Go G m7_isRead 5 12 [some (.ref 28), some (.int 1)] [] (jj_m (jx (mo_rmS s (nI k)) L X)) 0 0 (some (.int (jb_b ((jx_rd (mo_text s) L n k X).1 = true)))) (jj_m (jx (mo_rmS s (nI ((jx_rd (mo_text s) L n k X).2.1))) L ((jx_rd (mo_text s) L n k X).2.2))) := by
    intro n
    induction n with
    | zero => intro k X _ h1 _; exact absurd h1 (by decide)
    | succ n ihn =>
      intro k X hk _ hp
      have iL := ev7_isLine (G := G) (s := mo_rmS s (nI k)) (X := X) (w := 3 * k) hb hL hp (by omega)
      change jj_Ev G m7_isLine _ _ _ 0 0 (some (.int (jb_b ((jx_ln (mo_text s) L X (3 * k)).1 = true)))) (jj_m (jx (mo_rmS s (nI k)) L (jx_ln (mo_text s) L X (3 * k)).2)) at iL
      have hLl := jx_ln_le (sg := mo_text s) (3 * k) hp
      rw [jx_rd]
      generalize jx_ln (mo_text s) L X (3 * k) = A at iL hLl ⊢
      by_cases z1 : A.1 = true
      · rw [jb_bt z1] at iL
        rw [if_pos z1]
        have iN := ev7_nextToken (G := G) (s := mo_rmS s (nI (k + 1))) (X := A.2) hL hLl
        change jj_Ev G m7_nextToken _ _ _ 0 0 none (jj_m (jx (mo_rmS s (nI (k + 1))) L (jx_n (mo_text s) L A.2))) at iN
        have hNl := jx_n_le (sg := mo_text s) hLl
        generalize jx_n (mo_text s) L A.2 = Y at iN hNl ⊢
        by_cases z2 : Y.2.2.1 = -3
        · rw [if_pos z2]
          by_cases z3 : n = 0
          · subst z3
            rw [jx_rd]
            obtain rfl : k = 11 := by omega
            refine jj_iload_n dX7_isRead_12 rfl ?_
            refine jj_if_eq (tgt := 74) dX7_isRead_13 (by decide) (fun zz => absurd zz (by decide)) (fun _ => ?_)
            refine jj_aload_n dX7_isRead_16 rfl ?_
            refine jj_iconst (v := 3) dX7_isRead_17 (by decide) ?_
            refine jj_aload_n dX7_isRead_18 rfl ?_
            refine jj_getf dX7_isRead_19 fl7_141 rfl rfl ?_
            refine jj_eq (st' := [.int (nI k), .int (nI 3), .ref 28]) rfl rfl rfl rfl ?_
            refine jj_imul dX7_isRead_22 (j4_mul 3 k) ?_
            refine jj_callV (M2 := m7_isLine) dX7_isRead_23 ml7_144 tm7_isLine (iL) rfl rfl rfl rfl rfl (by omega) (Nat.le_of_ble_eq_true rfl) ?_
            refine jj_if_ne (tgt := 31) dX7_isRead_26 (by decide) (fun _ => ?_) (fun zz => absurd zz (by decide))
            refine jj_aload_n dX7_isRead_31 rfl ?_
            refine jj_dup dX7_isRead_32 rfl ?_
            refine jj_getf dX7_isRead_33 fl7_141 rfl rfl ?_
            refine jj_iconst (v := 1) dX7_isRead_36 (by decide) ?_
            refine jj_eq (st' := [.int 1, .int (nI k), .ref 28]) rfl rfl rfl rfl ?_
            refine jj_iadd (v := nI (k + 1)) dX7_isRead_37 (nI_add k 1) ?_
            refine jj_putf dX7_isRead_38 (fw7_141 _) rfl (Nat.le_of_ble_eq_true rfl) rfl rfl rfl ?_
            refine jj_aload_n dX7_isRead_41 rfl ?_
            refine jj_eq rfl rfl rfl (show _ = jj_m (jx (mo_rmS s (nI (k + 1))) L A.2) from rfl) ?_
            refine jj_callV (M2 := m7_nextToken) dX7_isRead_42 ml7_106 tm7_nextToken (iN) rfl rfl rfl rfl rfl (by omega) (Nat.le_of_ble_eq_true rfl) ?_
            refine jj_aload_n dX7_isRead_45 rfl ?_
            refine jj_getf dX7_isRead_46 fl7_89 rfl rfl ?_
            refine jj_ldc2 dX7_isRead_49 kc7_101 ?_
            refine jj_lcmp dX7_isRead_52 rfl ?_
            refine jj_if_ne (tgt := 69) dX7_isRead_53 (by decide) (fun zz => absurd (j2_c0 z2) zz) (fun _ => ?_)
            refine jj_aload_n dX7_isRead_56 rfl ?_
            refine jj_getf dX7_isRead_57 fl7_141 rfl rfl ?_
            refine jj_bipush (v := 12) dX7_isRead_60 (by decide) ?_
            refine jj_icmp_ge (tgt := 69) dX7_isRead_62 (by decide) (fun _ => ?_) (fun zz => absurd (by decide) zz)
            refine jj_iconst (v := 0) dX7_isRead_69 (by decide) ?_
            refine jj_istore_n dX7_isRead_70 rfl (by decide) rfl ?_
            refine jj_goto (tgt := 12) dX7_isRead_71 (by decide) ?_
            refine jj_iload_n dX7_isRead_12 rfl ?_
            refine jj_if_eq (tgt := 74) dX7_isRead_13 (by decide) (fun _ => ?_) (fun zz => absurd rfl zz)
            refine jj_aload_n dX7_isRead_74 rfl ?_
            refine jj_getf dX7_isRead_75 fl7_89 rfl rfl ?_
            refine jj_ldc2 dX7_isRead_78 kc7_87 ?_
            refine jj_lcmp dX7_isRead_81 rfl ?_
            refine jj_if_eq (tgt := 92) dX7_isRead_82 (by decide) (fun zz => absurd zz (fun q => by have q2 : Y.2.2.1 = -2 := j2_c1 q; rw [z2] at q2; exact absurd q2 (by decide))) (fun _ => ?_)
            refine jj_aload_n dX7_isRead_85 rfl ?_
            refine jj_callV (M2 := m7_fails) dX7_isRead_86 ml7_109 tm7_fails (ev7_fails (s := mo_rmS s (nI (k + 1))) (L := L) (X := Y)) rfl rfl rfl rfl rfl (by omega) (Nat.le_of_ble_eq_true rfl) ?_
            refine jj_if_eq (tgt := 96) dX7_isRead_89 (by decide) (fun _ => ?_) (fun zz => absurd rfl zz)
            refine jj_iconst (v := 0) dX7_isRead_96 (by decide) ?_
            exact jj_leaf dX7_isRead_97 rfl rfl
          · have ih := ihn (k + 1) Y (by omega) (by omega) hNl
            refine jj_iload_n dX7_isRead_12 rfl ?_
            refine jj_if_eq (tgt := 74) dX7_isRead_13 (by decide) (fun zz => absurd zz (by decide)) (fun _ => ?_)
            refine jj_aload_n dX7_isRead_16 rfl ?_
            refine jj_iconst (v := 3) dX7_isRead_17 (by decide) ?_
            refine jj_aload_n dX7_isRead_18 rfl ?_
            refine jj_getf dX7_isRead_19 fl7_141 rfl rfl ?_
            refine jj_eq (st' := [.int (nI k), .int (nI 3), .ref 28]) rfl rfl rfl rfl ?_
            refine jj_imul dX7_isRead_22 (j4_mul 3 k) ?_
            refine jj_callV (M2 := m7_isLine) dX7_isRead_23 ml7_144 tm7_isLine (iL) rfl rfl rfl rfl rfl (by omega) (Nat.le_of_ble_eq_true rfl) ?_
            refine jj_if_ne (tgt := 31) dX7_isRead_26 (by decide) (fun _ => ?_) (fun zz => absurd zz (by decide))
            refine jj_aload_n dX7_isRead_31 rfl ?_
            refine jj_dup dX7_isRead_32 rfl ?_
            refine jj_getf dX7_isRead_33 fl7_141 rfl rfl ?_
            refine jj_iconst (v := 1) dX7_isRead_36 (by decide) ?_
            refine jj_eq (st' := [.int 1, .int (nI k), .ref 28]) rfl rfl rfl rfl ?_
            refine jj_iadd (v := nI (k + 1)) dX7_isRead_37 (nI_add k 1) ?_
            refine jj_putf dX7_isRead_38 (fw7_141 _) rfl (Nat.le_of_ble_eq_true rfl) rfl rfl rfl ?_
            refine jj_aload_n dX7_isRead_41 rfl ?_
            refine jj_eq rfl rfl rfl (show _ = jj_m (jx (mo_rmS s (nI (k + 1))) L A.2) from rfl) ?_
            refine jj_callV (M2 := m7_nextToken) dX7_isRead_42 ml7_106 tm7_nextToken (iN) rfl rfl rfl rfl rfl (by omega) (Nat.le_of_ble_eq_true rfl) ?_
            refine jj_aload_n dX7_isRead_45 rfl ?_
            refine jj_getf dX7_isRead_46 fl7_89 rfl rfl ?_
            refine jj_ldc2 dX7_isRead_49 kc7_101 ?_
            refine jj_lcmp dX7_isRead_52 rfl ?_
            refine jj_if_ne (tgt := 69) dX7_isRead_53 (by decide) (fun zz => absurd (j2_c0 z2) zz) (fun _ => ?_)
            refine jj_aload_n dX7_isRead_56 rfl ?_
            refine jj_getf dX7_isRead_57 fl7_141 rfl rfl ?_
            refine jj_bipush (v := 12) dX7_isRead_60 (by decide) ?_
            refine jj_icmp_ge (tgt := 69) dX7_isRead_62 (by decide) (fun zz => absurd zz (nI_ge (a := k + 1) (b := 12) (by omega) (by decide))) (fun _ => ?_)
            refine jj_iconst (v := 1) dX7_isRead_65 (by decide) ?_
            refine jj_goto (tgt := 70) dX7_isRead_66 (by decide) ?_
            refine jj_istore_n dX7_isRead_70 rfl (by decide) rfl ?_
            refine jj_goto (tgt := 12) dX7_isRead_71 (by decide) ?_
            exact ih
        · rw [if_neg z2]
          by_cases z4 : Y.2.2.1 = -2
          · rw [if_pos z4]
            refine jj_iload_n dX7_isRead_12 rfl ?_
            refine jj_if_eq (tgt := 74) dX7_isRead_13 (by decide) (fun zz => absurd zz (by decide)) (fun _ => ?_)
            refine jj_aload_n dX7_isRead_16 rfl ?_
            refine jj_iconst (v := 3) dX7_isRead_17 (by decide) ?_
            refine jj_aload_n dX7_isRead_18 rfl ?_
            refine jj_getf dX7_isRead_19 fl7_141 rfl rfl ?_
            refine jj_eq (st' := [.int (nI k), .int (nI 3), .ref 28]) rfl rfl rfl rfl ?_
            refine jj_imul dX7_isRead_22 (j4_mul 3 k) ?_
            refine jj_callV (M2 := m7_isLine) dX7_isRead_23 ml7_144 tm7_isLine (iL) rfl rfl rfl rfl rfl (by omega) (Nat.le_of_ble_eq_true rfl) ?_
            refine jj_if_ne (tgt := 31) dX7_isRead_26 (by decide) (fun _ => ?_) (fun zz => absurd zz (by decide))
            refine jj_aload_n dX7_isRead_31 rfl ?_
            refine jj_dup dX7_isRead_32 rfl ?_
            refine jj_getf dX7_isRead_33 fl7_141 rfl rfl ?_
            refine jj_iconst (v := 1) dX7_isRead_36 (by decide) ?_
            refine jj_eq (st' := [.int 1, .int (nI k), .ref 28]) rfl rfl rfl rfl ?_
            refine jj_iadd (v := nI (k + 1)) dX7_isRead_37 (nI_add k 1) ?_
            refine jj_putf dX7_isRead_38 (fw7_141 _) rfl (Nat.le_of_ble_eq_true rfl) rfl rfl rfl ?_
            refine jj_aload_n dX7_isRead_41 rfl ?_
            refine jj_eq rfl rfl rfl (show _ = jj_m (jx (mo_rmS s (nI (k + 1))) L A.2) from rfl) ?_
            refine jj_callV (M2 := m7_nextToken) dX7_isRead_42 ml7_106 tm7_nextToken (iN) rfl rfl rfl rfl rfl (by omega) (Nat.le_of_ble_eq_true rfl) ?_
            refine jj_aload_n dX7_isRead_45 rfl ?_
            refine jj_getf dX7_isRead_46 fl7_89 rfl rfl ?_
            refine jj_ldc2 dX7_isRead_49 kc7_101 ?_
            refine jj_lcmp dX7_isRead_52 rfl ?_
            refine jj_if_ne (tgt := 69) dX7_isRead_53 (by decide) (fun _ => ?_) (fun zz => absurd zz (fun q => z2 (j2_c1 q)))
            refine jj_iconst (v := 0) dX7_isRead_69 (by decide) ?_
            refine jj_istore_n dX7_isRead_70 rfl (by decide) rfl ?_
            refine jj_goto (tgt := 12) dX7_isRead_71 (by decide) ?_
            refine jj_iload_n dX7_isRead_12 rfl ?_
            refine jj_if_eq (tgt := 74) dX7_isRead_13 (by decide) (fun _ => ?_) (fun zz => absurd rfl zz)
            refine jj_aload_n dX7_isRead_74 rfl ?_
            refine jj_getf dX7_isRead_75 fl7_89 rfl rfl ?_
            refine jj_ldc2 dX7_isRead_78 kc7_87 ?_
            refine jj_lcmp dX7_isRead_81 rfl ?_
            refine jj_if_eq (tgt := 92) dX7_isRead_82 (by decide) (fun _ => ?_) (fun zz => absurd (j2_c0 z4) zz)
            refine jj_iconst (v := 1) dX7_isRead_92 (by decide) ?_
            refine jj_goto (tgt := 97) dX7_isRead_93 (by decide) ?_
            exact jj_leaf dX7_isRead_97 rfl rfl
          · rw [if_neg z4]
            refine jj_iload_n dX7_isRead_12 rfl ?_
            refine jj_if_eq (tgt := 74) dX7_isRead_13 (by decide) (fun zz => absurd zz (by decide)) (fun _ => ?_)
            refine jj_aload_n dX7_isRead_16 rfl ?_
            refine jj_iconst (v := 3) dX7_isRead_17 (by decide) ?_
            refine jj_aload_n dX7_isRead_18 rfl ?_
            refine jj_getf dX7_isRead_19 fl7_141 rfl rfl ?_
            refine jj_eq (st' := [.int (nI k), .int (nI 3), .ref 28]) rfl rfl rfl rfl ?_
            refine jj_imul dX7_isRead_22 (j4_mul 3 k) ?_
            refine jj_callV (M2 := m7_isLine) dX7_isRead_23 ml7_144 tm7_isLine (iL) rfl rfl rfl rfl rfl (by omega) (Nat.le_of_ble_eq_true rfl) ?_
            refine jj_if_ne (tgt := 31) dX7_isRead_26 (by decide) (fun _ => ?_) (fun zz => absurd zz (by decide))
            refine jj_aload_n dX7_isRead_31 rfl ?_
            refine jj_dup dX7_isRead_32 rfl ?_
            refine jj_getf dX7_isRead_33 fl7_141 rfl rfl ?_
            refine jj_iconst (v := 1) dX7_isRead_36 (by decide) ?_
            refine jj_eq (st' := [.int 1, .int (nI k), .ref 28]) rfl rfl rfl rfl ?_
            refine jj_iadd (v := nI (k + 1)) dX7_isRead_37 (nI_add k 1) ?_
            refine jj_putf dX7_isRead_38 (fw7_141 _) rfl (Nat.le_of_ble_eq_true rfl) rfl rfl rfl ?_
            refine jj_aload_n dX7_isRead_41 rfl ?_
            refine jj_eq rfl rfl rfl (show _ = jj_m (jx (mo_rmS s (nI (k + 1))) L A.2) from rfl) ?_
            refine jj_callV (M2 := m7_nextToken) dX7_isRead_42 ml7_106 tm7_nextToken (iN) rfl rfl rfl rfl rfl (by omega) (Nat.le_of_ble_eq_true rfl) ?_
            refine jj_aload_n dX7_isRead_45 rfl ?_
            refine jj_getf dX7_isRead_46 fl7_89 rfl rfl ?_
            refine jj_ldc2 dX7_isRead_49 kc7_101 ?_
            refine jj_lcmp dX7_isRead_52 rfl ?_
            refine jj_if_ne (tgt := 69) dX7_isRead_53 (by decide) (fun _ => ?_) (fun zz => absurd zz (fun q => z2 (j2_c1 q)))
            refine jj_iconst (v := 0) dX7_isRead_69 (by decide) ?_
            refine jj_istore_n dX7_isRead_70 rfl (by decide) rfl ?_
            refine jj_goto (tgt := 12) dX7_isRead_71 (by decide) ?_
            refine jj_iload_n dX7_isRead_12 rfl ?_
            refine jj_if_eq (tgt := 74) dX7_isRead_13 (by decide) (fun _ => ?_) (fun zz => absurd rfl zz)
            refine jj_aload_n dX7_isRead_74 rfl ?_
            refine jj_getf dX7_isRead_75 fl7_89 rfl rfl ?_
            refine jj_ldc2 dX7_isRead_78 kc7_87 ?_
            refine jj_lcmp dX7_isRead_81 rfl ?_
            refine jj_if_eq (tgt := 92) dX7_isRead_82 (by decide) (fun zz => absurd zz (fun q => z4 (j2_c1 q))) (fun _ => ?_)
            refine jj_aload_n dX7_isRead_85 rfl ?_
            refine jj_callV (M2 := m7_fails) dX7_isRead_86 ml7_109 tm7_fails (ev7_fails (s := mo_rmS s (nI (k + 1))) (L := L) (X := Y)) rfl rfl rfl rfl rfl (by omega) (Nat.le_of_ble_eq_true rfl) ?_
            refine jj_if_eq (tgt := 96) dX7_isRead_89 (by decide) (fun _ => ?_) (fun zz => absurd rfl zz)
            refine jj_iconst (v := 0) dX7_isRead_96 (by decide) ?_
            exact jj_leaf dX7_isRead_97 rfl rfl
      · rw [jb_bf z1] at iL
        rw [if_neg z1]
        refine jj_iload_n dX7_isRead_12 rfl ?_
        refine jj_if_eq (tgt := 74) dX7_isRead_13 (by decide) (fun zz => absurd zz (by decide)) (fun _ => ?_)
        refine jj_aload_n dX7_isRead_16 rfl ?_
        refine jj_iconst (v := 3) dX7_isRead_17 (by decide) ?_
        refine jj_aload_n dX7_isRead_18 rfl ?_
        refine jj_getf dX7_isRead_19 fl7_141 rfl rfl ?_
        refine jj_eq (st' := [.int (nI k), .int (nI 3), .ref 28]) rfl rfl rfl rfl ?_
        refine jj_imul dX7_isRead_22 (j4_mul 3 k) ?_
        refine jj_callV (M2 := m7_isLine) dX7_isRead_23 ml7_144 tm7_isLine (iL) rfl rfl rfl rfl rfl (by omega) (Nat.le_of_ble_eq_true rfl) ?_
        refine jj_if_ne (tgt := 31) dX7_isRead_26 (by decide) (fun zz => absurd rfl zz) (fun _ => ?_)
        refine jj_iconst (v := 0) dX7_isRead_29 (by decide) ?_
        exact jj_leaf dX7_isRead_30 rfl rfl
  refine jj_aload_n dX7_isRead_0 rfl ?_
  refine jj_iconst (v := 0) dX7_isRead_1 (by decide) ?_
  refine jj_putf dX7_isRead_2 (fw7_75 _) rfl (Nat.le_of_ble_eq_true rfl) rfl rfl rfl ?_
  refine jj_aload_n dX7_isRead_5 rfl ?_
  refine jj_iconst (v := 0) dX7_isRead_6 (by decide) ?_
  refine jj_putf dX7_isRead_7 (fw7_141 _) rfl (Nat.le_of_ble_eq_true rfl) rfl rfl rfl ?_
  refine jj_iconst (v := 1) dX7_isRead_10 (by decide) ?_
  refine jj_istore_n dX7_isRead_11 rfl (by decide) rfl ?_
  exact jj_eq rfl rfl rfl rfl (M 12 0 (0, X.2) rfl (by decide) (Nat.zero_le L))
set_option maxRecDepth 100000 in
set_option maxHeartbeats 2000000 in
theorem ev7_fault {G : jj_G} {s : jj_S} {L : Nat} {X : jx_X} (hb : mb_ok s) (hL : L ≤ 200) : jj_Ev G m7_fault 6 [.ref 28] (jj_m (jx s L X)) 0 0 (some (.int (if (jx_rd (mo_text s) L 12 0 (0, X.2)).1 = true then -1 else (jx_rd (mo_text s) L 12 0 (0, X.2)).2.2.2.2.2.2.2.1))) (jj_m (jx (mo_rmS s (nI ((jx_rd (mo_text s) L 12 0 (0, X.2)).2.1))) L ((jx_rd (mo_text s) L 12 0 (0, X.2)).2.2))) := by
  refine jj_Ev_of (lo := [some (.ref 28)]) (by decide +kernel) (Nat.le_of_ble_eq_true rfl) rfl (by trivial) ?_
  have iR := ev7_isRead (G := G) (s := s) (X := X) hb hL
  generalize jx_rd (mo_text s) L 12 0 (0, X.2) = R at iR ⊢
  by_cases z : R.1 = true
  · rw [jb_bt z] at iR
    rw [if_pos z]
    refine jj_aload_n dX7_fault_0 rfl ?_
    refine jj_callV (M2 := m7_isRead) dX7_fault_1 ml7_147 tm7_isRead (iR) rfl rfl rfl rfl rfl (by omega) (Nat.le_of_ble_eq_true rfl) ?_
    refine jj_if_eq (tgt := 11) dX7_fault_4 (by decide) (fun zz => absurd zz (by decide)) (fun _ => ?_)
    refine jj_iconst (v := (-1)) dX7_fault_7 (by decide) ?_
    refine jj_goto (tgt := 15) dX7_fault_8 (by decide) ?_
    exact jj_leaf dX7_fault_15 rfl rfl
  · rw [jb_bf z] at iR
    rw [if_neg z]
    refine jj_aload_n dX7_fault_0 rfl ?_
    refine jj_callV (M2 := m7_isRead) dX7_fault_1 ml7_147 tm7_isRead (iR) rfl rfl rfl rfl rfl (by omega) (Nat.le_of_ble_eq_true rfl) ?_
    refine jj_if_eq (tgt := 11) dX7_fault_4 (by decide) (fun _ => ?_) (fun zz => absurd rfl zz)
    refine jj_aload_n dX7_fault_11 rfl ?_
    refine jj_getf dX7_fault_12 fl7_103 rfl rfl ?_
    exact jj_leaf dX7_fault_15 rfl rfl
