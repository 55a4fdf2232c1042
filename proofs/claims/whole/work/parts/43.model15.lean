/-! THE MODEL'S TEXT: numbers, lines -/
def jx_f (X : jx_X) : jx_X := (X.1, X.2.1, X.2.2.1, X.2.2.2.1, X.2.2.2.2.1, nI X.2.1, X.2.2.2.2.2.2)
def jx_r (X : jx_X) (w : Nat) (v : Int32) : jx_X := (X.1, X.2.1, X.2.2.1, X.2.2.2.1, X.2.2.2.2.1, X.2.2.2.2.2.1, jU X.2.2.2.2.2.2 w v)
/-- the next number -/
def jx_a (sg : Nat → Int32) (L : Nat) (X : jx_X) (b : Nat) : Int32 := tk_n sg (tk_t sg L X.1).1 (tk_t sg L X.1).2 (nI (b + 1))
def jx_nm (sg : Nat → Int32) (L : Nat) (X : jx_X) (w b : Nat) : jx_X := if jx_a sg L X b = -1 then jx_f (jx_n sg L X) else jx_r (jx_n sg L X) w (jx_a sg L X b)
theorem jx_nm_1 (sg : Nat → Int32) (L : Nat) (X : jx_X) (w b : Nat) : (jx_nm sg L X w b).1 = (tk_t sg L X.1).2 ∧ (jx_nm sg L X w b).2.1 = (tk_t sg L X.1).1 := by
  unfold jx_nm
  split <;> exact ⟨rfl, rfl⟩
theorem jx_nm_le {sg : Nat → Int32} {L : Nat} {X : jx_X} (w b : Nat) (h : X.1 ≤ L) : (jx_nm sg L X w b).1 ≤ L := by
  rw [(jx_nm_1 sg L X w b).1]
  exact (tk_t_le h).2.2
theorem jx_a_num {sg : Nat → Int32} {L : Nat} {X : jx_X} {b : Nat} (hb : b < 100) : jx_a sg L X b = -1 ∨ ∃ n, n < b + 1 ∧ jx_a sg L X b = nI n := tk_n_num (by omega)
def jx_ap (sg : Nat → Int32) (L : Nat) (X : jx_X) (w : Nat) : Bool × jx_X :=
  if jx_a sg L X 11 = -1 then (false, jx_nm sg L X (w + 1) 11) else if jx_a sg L (jx_nm sg L X (w + 1) 11) 11 = -1 then (false, jx_nm sg L (jx_nm sg L X (w + 1) 11) (w + 2) 11)
  else if jb_sdI (jx_a sg L X 11) (jx_a sg L (jx_nm sg L X (w + 1) 11) 11) = -1 then (false, jx_f (jx_nm sg L (jx_nm sg L X (w + 1) 11) (w + 2) 11)) else (true, jx_nm sg L (jx_nm sg L X (w + 1) 11) (w + 2) 11)
def jx_st (sg : Nat → Int32) (L : Nat) (X : jx_X) (w : Nat) : Bool × jx_X :=
  if jx_a sg L X 11 = -1 then (false, jx_nm sg L X (w + 1) 11) else (decide (¬ jx_a sg L (jx_nm sg L X (w + 1) 11) 4 = -1), jx_nm sg L (jx_nm sg L X (w + 1) 11) (w + 2) 4)
/-- a word's number with the model -/
def jc (i : Nat) : Int32 := ([0, 1, 2, 3, 5, 6, 7, 4] : List Int32).getD i (-1)
def jx_lw (sg : Nat → Int32) (L : Nat) (Z : jx_X) (w i : Nat) : Bool × jx_X :=
  if i = 8 then (false, jx_f Z) else if i = 7 then (true, Z) else if i = 6 then jx_st sg L Z w else if i = 4 ∨ i = 5 then jx_ap sg L Z w else (decide (¬ jx_a sg L Z 11 = -1), jx_nm sg L Z (w + 1) 11)
def jx_i (sg : Nat → Int32) (L : Nat) (X : jx_X) : Nat := tk_w sg (tk_t sg L X.1).1 (tk_t sg L X.1).2
def jx_ln (sg : Nat → Int32) (L : Nat) (X : jx_X) (w : Nat) : Bool × jx_X := jx_lw sg L (jx_r (jx_n sg L X) w (jc (jx_i sg L X))) w (jx_i sg L X)
theorem jx_n_le {sg : Nat → Int32} {L : Nat} {X : jx_X} (h : X.1 ≤ L) : (jx_n sg L X).1 ≤ L := (tk_t_le h).2.2
theorem jx_ln_le {sg : Nat → Int32} {L : Nat} {X : jx_X} (w : Nat) (h : X.1 ≤ L) : (jx_ln sg L X w).2.1 ≤ L := by
  unfold jx_ln
  have h1 : (jx_r (jx_n sg L X) w (jc (jx_i sg L X))).1 ≤ L := jx_n_le h
  generalize jx_r (jx_n sg L X) w (jc (jx_i sg L X)) = Z at h1
  generalize jx_i sg L X = i
  have h2 := jx_nm_le (sg := sg) (w + 1) 11 h1
  unfold jx_lw
  split
  · exact h1
  · split
    · exact h1
    · split
      · unfold jx_st
        have h3 := jx_nm_le (sg := sg) (w + 2) 4 h2
        generalize jx_nm sg L (jx_nm sg L Z (w + 1) 11) (w + 2) 4 = X2 at h3 ⊢
        generalize jx_nm sg L Z (w + 1) 11 = X1 at h2 ⊢
        split
        · exact h2
        · exact h3
      · split
        · unfold jx_ap
          have h3 := jx_nm_le (sg := sg) (w + 2) 11 h2
          generalize jx_nm sg L (jx_nm sg L Z (w + 1) 11) (w + 2) 11 = X2 at h3 ⊢
          generalize jx_nm sg L Z (w + 1) 11 = X1 at h2 ⊢
          split
          · exact h2
          · split
            · exact h3
            · split
              · exact h3
              · exact h3
        · exact h2
/-- n lines more, from line k on -/
def jx_rd (sg : Nat → Int32) (L : Nat) : Nat → Nat → jx_X → Bool × Nat × jx_X
  | 0, k, X => (false, k, jx_f X)
  | n + 1, k, X => if (jx_ln sg L X (3 * k)).1 = true then
      (if (jx_n sg L (jx_ln sg L X (3 * k)).2).2.2.1 = -3 then jx_rd sg L n (k + 1) (jx_n sg L (jx_ln sg L X (3 * k)).2)
       else if (jx_n sg L (jx_ln sg L X (3 * k)).2).2.2.1 = -2 then (true, k + 1, jx_n sg L (jx_ln sg L X (3 * k)).2) else (false, k + 1, jx_f (jx_n sg L (jx_ln sg L X (3 * k)).2)))
    else (false, k, (jx_ln sg L X (3 * k)).2)
set_option maxRecDepth 100000 in
set_option maxHeartbeats 2000000 in
theorem ev7_fails {G : jj_G} {s : jj_S} {L : Nat} {X : jx_X} : jj_Ev G m7_fails 0 [.ref 28] (jj_m (jx s L X)) 0 0 (some (.int 0)) (jj_m (jx s L (jx_f X))) := by
  refine jj_Ev_of (lo := [some (.ref 28)]) (by decide +kernel) (Nat.le_of_ble_eq_true rfl) rfl (.inl rfl) ?_
  refine jj_aload_n dX7_fails_0 rfl ?_
  refine jj_aload_n dX7_fails_1 rfl ?_
  refine jj_getf dX7_fails_2 fl7_78 rfl rfl ?_
  refine jj_putf dX7_fails_5 (fw7_103 _) rfl (Nat.le_of_ble_eq_true rfl) rfl rfl rfl ?_
  refine jj_iconst (v := 0) dX7_fails_8 (by decide) ?_
  exact jj_leaf dX7_fails_9 rfl rfl
set_option maxRecDepth 100000 in
set_option maxHeartbeats 2000000 in
theorem ev7_isNumber {G : jj_G} {s : jj_S} {L : Nat} {X : jx_X} {w b : Nat} (hL : L ≤ 200) (hp : X.1 ≤ L) (hw : w < 36) (hb : b < 100) : jj_Ev G m7_isNumber 2 [.ref 28, .int (nI w), .int (nI b)] (jj_m (jx s L X)) 0 0 (some (.int (jb_b (¬ jx_a (mo_text s) L X b = -1)))) (jj_m (jx s L (jx_nm (mo_text s) L X w b))) := by
  refine jj_Ev_of (lo := [some (.ref 28), some (.int (nI w)), some (.int (nI b))]) (by decide +kernel) (Nat.le_of_ble_eq_true rfl) rfl (jb_b01 _) ?_
  have hY := ev7_nextToken (G := G) (s := s) (X := X) hL hp
  obtain ⟨n1, n2⟩ := jx_num (sg := mo_text s) hp hb
  unfold jx_nm jx_a
  generalize tk_n (mo_text s) (tk_t (mo_text s) L X.1).1 (tk_t (mo_text s) L X.1).2 (nI (b + 1)) = A at n1 n2 ⊢
  generalize jx_n (mo_text s) L X = Y at hY n1 n2 ⊢
  by_cases z : Y.2.2.1 = -1 ∧ Y.2.2.2.2.1 ≤ nI b
  · obtain ⟨n3, n4⟩ := n1 z
    rw [if_neg n4, jb_bt n4]
    refine jj_aload_n dX7_isNumber_0 rfl ?_
    refine jj_callV (M2 := m7_nextToken) dX7_isNumber_1 ml7_106 tm7_nextToken (hY) rfl rfl rfl rfl rfl (by omega) (Nat.le_of_ble_eq_true rfl) ?_
    refine jj_aload_n dX7_isNumber_4 rfl ?_
    refine jj_getf dX7_isNumber_5 fl7_89 rfl rfl ?_
    refine jj_ldc2 dX7_isNumber_8 kc7_99 ?_
    refine jj_lcmp dX7_isNumber_11 rfl ?_
    refine jj_if_ne (tgt := 23) dX7_isNumber_12 (by decide) (fun zz => absurd (j2_c0 z.1) zz) (fun _ => ?_)
    refine jj_aload_n dX7_isNumber_15 rfl ?_
    refine jj_getf dX7_isNumber_16 fl7_84 rfl rfl ?_
    refine jj_iload_n dX7_isNumber_19 rfl ?_
    refine jj_icmp_le (tgt := 28) dX7_isNumber_20 (by decide) (fun _ => ?_) (fun zz => absurd z.2 zz)
    refine jj_aload_n dX7_isNumber_28 rfl ?_
    refine jj_getf dX7_isNumber_29 fl7_26 rfl rfl ?_
    refine jj_iload_n dX7_isNumber_32 rfl ?_
    refine jj_aload_n dX7_isNumber_33 rfl ?_
    refine jj_getf dX7_isNumber_34 fl7_84 rfl rfl ?_
    rw [show mo_num (jx s L Y) = A from n3.symm]
    refine jv_iast dX7_isNumber_37 rfl (hw) (by decide) rfl ?_
    refine jj_iconst (v := 1) dX7_isNumber_38 (by decide) ?_
    exact jj_leaf dX7_isNumber_39 rfl rfl
  · have n3 := n2 z
    subst n3
    rw [if_pos rfl, jb_bf (fun q => q rfl)]
    by_cases z1 : Y.2.2.1 = -1
    · have z2 : ¬ Y.2.2.2.2.1 ≤ nI b := fun q => z ⟨z1, q⟩
      refine jj_aload_n dX7_isNumber_0 rfl ?_
      refine jj_callV (M2 := m7_nextToken) dX7_isNumber_1 ml7_106 tm7_nextToken (hY) rfl rfl rfl rfl rfl (by omega) (Nat.le_of_ble_eq_true rfl) ?_
      refine jj_aload_n dX7_isNumber_4 rfl ?_
      refine jj_getf dX7_isNumber_5 fl7_89 rfl rfl ?_
      refine jj_ldc2 dX7_isNumber_8 kc7_99 ?_
      refine jj_lcmp dX7_isNumber_11 rfl ?_
      refine jj_if_ne (tgt := 23) dX7_isNumber_12 (by decide) (fun zz => absurd (j2_c0 z1) zz) (fun _ => ?_)
      refine jj_aload_n dX7_isNumber_15 rfl ?_
      refine jj_getf dX7_isNumber_16 fl7_84 rfl rfl ?_
      refine jj_iload_n dX7_isNumber_19 rfl ?_
      refine jj_icmp_le (tgt := 28) dX7_isNumber_20 (by decide) (fun zz => absurd zz z2) (fun _ => ?_)
      refine jj_aload_n dX7_isNumber_23 rfl ?_
      refine jj_callV (M2 := m7_fails) dX7_isNumber_24 ml7_109 tm7_fails (ev7_fails (s := s) (L := L) (X := Y)) rfl rfl rfl rfl rfl (by omega) (Nat.le_of_ble_eq_true rfl) ?_
      exact jj_leaf dX7_isNumber_27 rfl rfl
    · skip
      refine jj_aload_n dX7_isNumber_0 rfl ?_
      refine jj_callV (M2 := m7_nextToken) dX7_isNumber_1 ml7_106 tm7_nextToken (hY) rfl rfl rfl rfl rfl (by omega) (Nat.le_of_ble_eq_true rfl) ?_
      refine jj_aload_n dX7_isNumber_4 rfl ?_
      refine jj_getf dX7_isNumber_5 fl7_89 rfl rfl ?_
      refine jj_ldc2 dX7_isNumber_8 kc7_99 ?_
      refine jj_lcmp dX7_isNumber_11 rfl ?_
      refine jj_if_ne (tgt := 23) dX7_isNumber_12 (by decide) (fun _ => ?_) (fun zz => absurd zz (fun q => z1 (j2_c1 q)))
      refine jj_aload_n dX7_isNumber_23 rfl ?_
      refine jj_callV (M2 := m7_fails) dX7_isNumber_24 ml7_109 tm7_fails (ev7_fails (s := s) (L := L) (X := Y)) rfl rfl rfl rfl rfl (by omega) (Nat.le_of_ble_eq_true rfl) ?_
      exact jj_leaf dX7_isNumber_27 rfl rfl
theorem ev7_isNumber_t {G : jj_G} {s : jj_S} {L : Nat} {X : jx_X} {w b : Nat} (hL : L ≤ 200) (hp : X.1 ≤ L) (hw : w < 36) (hb : b < 100) (h : ¬ jx_a (mo_text s) L X b = -1) : jj_Ev G m7_isNumber 2 [.ref 28, .int (nI w), .int (nI b)] (jj_m (jx s L X)) 0 0 (some (.int 1)) (jj_m (jx s L (jx_nm (mo_text s) L X w b))) := by
  have e := ev7_isNumber (G := G) (s := s) (w := w) hL hp hw hb
  rwa [jb_bt h] at e
theorem ev7_isNumber_f {G : jj_G} {s : jj_S} {L : Nat} {X : jx_X} {w b : Nat} (hL : L ≤ 200) (hp : X.1 ≤ L) (hw : w < 36) (hb : b < 100) (h : jx_a (mo_text s) L X b = -1) : jj_Ev G m7_isNumber 2 [.ref 28, .int (nI w), .int (nI b)] (jj_m (jx s L X)) 0 0 (some (.int 0)) (jj_m (jx s L (jx_nm (mo_text s) L X w b))) := by
  have e := ev7_isNumber (G := G) (s := s) (w := w) hL hp hw hb
  rwa [jb_bf (fun q => q h)] at e
theorem mb_jx {s : jj_S} (L : Nat) (X : jx_X) (hb : mb_ok s) : mb_ok (jx s L X) := hb
set_option maxRecDepth 100000 in
set_option maxHeartbeats 2000000 in
theorem ev7_arePair {G : jj_G} {s : jj_S} {L : Nat} {X : jx_X} {w : Nat} (hb : mb_ok s) (hL : L ≤ 200) (hp : X.1 ≤ L) (hw : w < 34) : jj_Ev G m7_arePair 3 [.ref 28, .int (nI w)] (jj_m (jx s L X)) 0 0 (some (.int (jb_b ((jx_ap (mo_text s) L X w).1 = true)))) (jj_m (jx s L (jx_ap (mo_text s) L X w).2)) := by
  refine jj_Ev_of (lo := [some (.ref 28), some (.int (nI w))]) (by decide +kernel) (Nat.le_of_ble_eq_true rfl) rfl (jb_b01 _) ?_
  unfold jx_ap
  by_cases z1 : jx_a (mo_text s) L X 11 = -1
  · have i1 := (ev7_isNumber_f (G := G) (s := s) (w := w + 1) (b := 11) hL hp (by omega) (by decide) z1)
    rw [if_pos z1]
    generalize jx_nm (mo_text s) L X (w + 1) 11 = X1 at i1 ⊢
    refine jj_aload_n dX7_arePair_0 rfl ?_
    refine jj_iload_n dX7_arePair_1 rfl ?_
    refine jj_iconst (v := 1) dX7_arePair_2 (by decide) ?_
    refine jj_iadd (v := nI (w + 1)) dX7_arePair_3 (nI_add w 1) ?_
    refine jj_bipush (v := 11) dX7_arePair_4 (by decide) ?_
    refine jj_callV (M2 := m7_isNumber) dX7_arePair_6 ml7_113 tm7_isNumber (i1) rfl rfl rfl rfl rfl (by omega) (Nat.le_of_ble_eq_true rfl) ?_
    refine jj_if_eq (tgt := 24) dX7_arePair_9 (by decide) (fun _ => ?_) (fun zz => absurd rfl zz)
    refine jj_iconst (v := 0) dX7_arePair_24 (by decide) ?_
    exact jj_leaf dX7_arePair_25 rfl rfl
  · have i1 := (ev7_isNumber_t (G := G) (s := s) (w := w + 1) (b := 11) hL hp (by omega) (by decide) z1)
    have p1 := jx_nm_le (sg := mo_text s) (w + 1) 11 hp
    obtain ⟨f, hf, ef⟩ := (jx_a_num (sg := mo_text s) (L := L) (X := X) (b := 11) (by decide)).resolve_left z1
    have r1 : (jx_nm (mo_text s) L X (w + 1) 11).2.2.2.2.2.2 (w + 1) = nI f := by
      unfold jx_nm
      rw [if_neg z1, ef]
      exact jU_at _ _ _
    rw [if_neg z1, ef]
    generalize jx_nm (mo_text s) L X (w + 1) 11 = X1 at i1 p1 r1 ⊢
    by_cases z2 : jx_a (mo_text s) L X1 11 = -1
    · have i2 := (ev7_isNumber_f (G := G) (s := s) (w := w + 2) (b := 11) hL p1 (by omega) (by decide) z2)
      rw [if_pos z2]
      generalize jx_nm (mo_text s) L X1 (w + 2) 11 = X2 at i2 ⊢
      refine jj_aload_n dX7_arePair_0 rfl ?_
      refine jj_iload_n dX7_arePair_1 rfl ?_
      refine jj_iconst (v := 1) dX7_arePair_2 (by decide) ?_
      refine jj_iadd (v := nI (w + 1)) dX7_arePair_3 (nI_add w 1) ?_
      refine jj_bipush (v := 11) dX7_arePair_4 (by decide) ?_
      refine jj_callV (M2 := m7_isNumber) dX7_arePair_6 ml7_113 tm7_isNumber (i1) rfl rfl rfl rfl rfl (by omega) (Nat.le_of_ble_eq_true rfl) ?_
      refine jj_if_eq (tgt := 24) dX7_arePair_9 (by decide) (fun zz => absurd zz (by decide)) (fun _ => ?_)
      refine jj_aload_n dX7_arePair_12 rfl ?_
      refine jj_iload_n dX7_arePair_13 rfl ?_
      refine jj_iconst (v := 2) dX7_arePair_14 (by decide) ?_
      refine jj_iadd (v := nI (w + 2)) dX7_arePair_15 (nI_add w 2) ?_
      refine jj_bipush (v := 11) dX7_arePair_16 (by decide) ?_
      refine jj_callV (M2 := m7_isNumber) dX7_arePair_18 ml7_113 tm7_isNumber (i2) rfl rfl rfl rfl rfl (by omega) (Nat.le_of_ble_eq_true rfl) ?_
      refine jj_if_ne (tgt := 26) dX7_arePair_21 (by decide) (fun zz => absurd rfl zz) (fun _ => ?_)
      refine jj_iconst (v := 0) dX7_arePair_24 (by decide) ?_
      exact jj_leaf dX7_arePair_25 rfl rfl
    · have i2 := (ev7_isNumber_t (G := G) (s := s) (w := w + 2) (b := 11) hL p1 (by omega) (by decide) z2)
      obtain ⟨g, hg, eg⟩ := (jx_a_num (sg := mo_text s) (L := L) (X := X1) (b := 11) (by decide)).resolve_left z2
      have r2 : (jx_nm (mo_text s) L X1 (w + 2) 11).2.2.2.2.2.2 (w + 1) = nI f := by
        unfold jx_nm
        rw [if_neg z2]
        exact (jU_ne _ _ (by omega)).trans r1
      have r3 : (jx_nm (mo_text s) L X1 (w + 2) 11).2.2.2.2.2.2 (w + 2) = nI g := by
        unfold jx_nm
        rw [if_neg z2, eg]
        exact jU_at _ _ _
      have es : jb_sdI (nI f) (nI g) = jb_sd f g := by
        unfold jb_sdI
        rw [if_neg (jb_nm1 (by omega)), nI_clamp (by omega), nI_clamp (by omega)]
      rw [if_neg z2, eg, es]
      generalize jx_nm (mo_text s) L X1 (w + 2) 11 = X2 at i2 r2 r3 ⊢
      have hs := ev7_sideOf (G := G) (mb_jx L X2 hb) hf hg
      by_cases z3 : jb_sd f g = -1
      · rw [if_pos z3]
        refine jj_aload_n dX7_arePair_0 rfl ?_
        refine jj_iload_n dX7_arePair_1 rfl ?_
        refine jj_iconst (v := 1) dX7_arePair_2 (by decide) ?_
        refine jj_iadd (v := nI (w + 1)) dX7_arePair_3 (nI_add w 1) ?_
        refine jj_bipush (v := 11) dX7_arePair_4 (by decide) ?_
        refine jj_callV (M2 := m7_isNumber) dX7_arePair_6 ml7_113 tm7_isNumber (i1) rfl rfl rfl rfl rfl (by omega) (Nat.le_of_ble_eq_true rfl) ?_
        refine jj_if_eq (tgt := 24) dX7_arePair_9 (by decide) (fun zz => absurd zz (by decide)) (fun _ => ?_)
        refine jj_aload_n dX7_arePair_12 rfl ?_
        refine jj_iload_n dX7_arePair_13 rfl ?_
        refine jj_iconst (v := 2) dX7_arePair_14 (by decide) ?_
        refine jj_iadd (v := nI (w + 2)) dX7_arePair_15 (nI_add w 2) ?_
        refine jj_bipush (v := 11) dX7_arePair_16 (by decide) ?_
        refine jj_callV (M2 := m7_isNumber) dX7_arePair_18 ml7_113 tm7_isNumber (i2) rfl rfl rfl rfl rfl (by omega) (Nat.le_of_ble_eq_true rfl) ?_
        refine jj_if_ne (tgt := 26) dX7_arePair_21 (by decide) (fun _ => ?_) (fun zz => absurd zz (by decide))
        refine jj_aload_n dX7_arePair_26 rfl ?_
        refine jj_aload_n dX7_arePair_27 rfl ?_
        refine jj_getf dX7_arePair_28 fl7_26 rfl rfl ?_
        refine jj_iload_n dX7_arePair_31 rfl ?_
        refine jj_iconst (v := 1) dX7_arePair_32 (by decide) ?_
        refine jj_iadd (v := nI (w + 1)) dX7_arePair_33 (nI_add w 1) ?_
        refine jv_iald dX7_arePair_34 rfl (by omega) (by decide) ?_
        rw [show mo_read (jx s L X2) (w + 1) = nI f from r2]
        refine jj_aload_n dX7_arePair_35 rfl ?_
        refine jj_getf dX7_arePair_36 fl7_26 rfl rfl ?_
        refine jj_iload_n dX7_arePair_39 rfl ?_
        refine jj_iconst (v := 2) dX7_arePair_40 (by decide) ?_
        refine jj_iadd (v := nI (w + 2)) dX7_arePair_41 (nI_add w 2) ?_
        refine jv_iald dX7_arePair_42 rfl (by omega) (by decide) ?_
        rw [show mo_read (jx s L X2) (w + 2) = nI g from r3]
        refine jj_callV (M2 := m7_sideOf) dX7_arePair_43 ml7_117 tm7_sideOf (hs) rfl rfl rfl rfl rfl (by omega) (Nat.le_of_ble_eq_true rfl) ?_
        refine jj_iconst (v := (-1)) dX7_arePair_46 (by decide) ?_
        refine jj_icmp_ne (tgt := 57) dX7_arePair_47 (by decide) (fun zz => absurd z3 zz) (fun _ => ?_)
        refine jj_aload_n dX7_arePair_50 rfl ?_
        refine jj_callV (M2 := m7_fails) dX7_arePair_51 ml7_109 tm7_fails (ev7_fails (s := s) (L := L) (X := X2)) rfl rfl rfl rfl rfl (by omega) (Nat.le_of_ble_eq_true rfl) ?_
        refine jj_if_eq (tgt := 61) dX7_arePair_54 (by decide) (fun _ => ?_) (fun zz => absurd rfl zz)
        refine jj_iconst (v := 0) dX7_arePair_61 (by decide) ?_
        exact jj_leaf dX7_arePair_62 rfl rfl
      · rw [if_neg z3]
        refine jj_aload_n dX7_arePair_0 rfl ?_
        refine jj_iload_n dX7_arePair_1 rfl ?_
        refine jj_iconst (v := 1) dX7_arePair_2 (by decide) ?_
        refine jj_iadd (v := nI (w + 1)) dX7_arePair_3 (nI_add w 1) ?_
        refine jj_bipush (v := 11) dX7_arePair_4 (by decide) ?_
        refine jj_callV (M2 := m7_isNumber) dX7_arePair_6 ml7_113 tm7_isNumber (i1) rfl rfl rfl rfl rfl (by omega) (Nat.le_of_ble_eq_true rfl) ?_
        refine jj_if_eq (tgt := 24) dX7_arePair_9 (by decide) (fun zz => absurd zz (by decide)) (fun _ => ?_)
        refine jj_aload_n dX7_arePair_12 rfl ?_
        refine jj_iload_n dX7_arePair_13 rfl ?_
        refine jj_iconst (v := 2) dX7_arePair_14 (by decide) ?_
        refine jj_iadd (v := nI (w + 2)) dX7_arePair_15 (nI_add w 2) ?_
        refine jj_bipush (v := 11) dX7_arePair_16 (by decide) ?_
        refine jj_callV (M2 := m7_isNumber) dX7_arePair_18 ml7_113 tm7_isNumber (i2) rfl rfl rfl rfl rfl (by omega) (Nat.le_of_ble_eq_true rfl) ?_
        refine jj_if_ne (tgt := 26) dX7_arePair_21 (by decide) (fun _ => ?_) (fun zz => absurd zz (by decide))
        refine jj_aload_n dX7_arePair_26 rfl ?_
        refine jj_aload_n dX7_arePair_27 rfl ?_
        refine jj_getf dX7_arePair_28 fl7_26 rfl rfl ?_
        refine jj_iload_n dX7_arePair_31 rfl ?_
        refine jj_iconst (v := 1) dX7_arePair_32 (by decide) ?_
        refine jj_iadd (v := nI (w + 1)) dX7_arePair_33 (nI_add w 1) ?_
        refine jv_iald dX7_arePair_34 rfl (by omega) (by decide) ?_
        rw [show mo_read (jx s L X2) (w + 1) = nI f from r2]
        refine jj_aload_n dX7_arePair_35 rfl ?_
        refine jj_getf dX7_arePair_36 fl7_26 rfl rfl ?_
        refine jj_iload_n dX7_arePair_39 rfl ?_
        refine jj_iconst (v := 2) dX7_arePair_40 (by decide) ?_
        refine jj_iadd (v := nI (w + 2)) dX7_arePair_41 (nI_add w 2) ?_
        refine jv_iald dX7_arePair_42 rfl (by omega) (by decide) ?_
        rw [show mo_read (jx s L X2) (w + 2) = nI g from r3]
        refine jj_callV (M2 := m7_sideOf) dX7_arePair_43 ml7_117 tm7_sideOf (hs) rfl rfl rfl rfl rfl (by omega) (Nat.le_of_ble_eq_true rfl) ?_
        refine jj_iconst (v := (-1)) dX7_arePair_46 (by decide) ?_
        refine jj_icmp_ne (tgt := 57) dX7_arePair_47 (by decide) (fun _ => ?_) (fun zz => absurd zz z3)
        refine jj_iconst (v := 1) dX7_arePair_57 (by decide) ?_
        refine jj_goto (tgt := 62) dX7_arePair_58 (by decide) ?_
        exact jj_leaf dX7_arePair_62 rfl rfl
