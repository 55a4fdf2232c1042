/-! THE TEXT: lines, the reading -/
theorem jb_fst_pre {p : Nat → Bool} : ∀ n k j, k ≤ j → j < jb_fst p k n → p j = false := by
  intro n
  induction n with
  | zero => intro k j h1 h2; exact absurd h2 (by show ¬ j < k; omega)
  | succ n ih =>
    intro k j h1 h2
    unfold jb_fst at h2
    by_cases hp : p k = true
    · rw [if_pos hp] at h2; exact absurd h2 (by omega)
    · rw [if_neg hp] at h2
      by_cases e : j = k
      · subst e; simpa using hp
      · exact ih (k + 1) j (by omega) h2
theorem tk_dig {x : Int32} (h : tk_so x = 1) : ∃ d, d < 10 ∧ x = nI (48 + d) := by
  unfold tk_so at h
  by_cases h1 : x < 97 ∨ 122 < x
  · rw [if_pos h1] at h
    by_cases h2 : x < 48 ∨ 57 < x
    · rw [if_pos h2] at h; exact absurd h (by decide)
    · have h3 : 48 ≤ x := Int32.not_lt.mp fun q => h2 (Or.inl q)
      have h4 : x ≤ 57 := Int32.not_lt.mp fun q => h2 (Or.inr q)
      have e1 := Int32.le_iff_toInt_le.mp h3
      have e2 := Int32.le_iff_toInt_le.mp h4
      have f1 : (48 : Int32).toInt = 48 := by decide
      have f2 : (57 : Int32).toInt = 57 := by decide
      rw [f1] at e1
      rw [f2] at e2
      refine ⟨(x.toInt - 48).toNat, by omega, Int32.toInt_inj.mp ?_⟩
      rw [nI_toInt (by omega)]
      omega
  · rw [if_neg h1] at h; exact absurd h (by decide)
theorem tk_n_num {sg : Nat → Int32} {L p b : Nat} (hb : b ≤ 100) : tk_n sg (tk_t sg L p).1 (tk_t sg L p).2 (nI b) = -1 ∨ ∃ n, n < b ∧ tk_n sg (tk_t sg L p).1 (tk_t sg L p).2 (nI b) = nI n := by
  show tk_n sg (tk_q sg L p) (tk_e sg L (tk_q sg L p)) (nI b) = -1 ∨ ∃ n, n < b ∧ tk_n sg (tk_q sg L p) (tk_e sg L (tk_q sg L p)) (nI b) = nI n
  generalize tk_q sg L p = q
  by_cases hd : (1 ≤ tk_e sg L q - q ∧ tk_e sg L q - q ≤ 2) ∧ tk_so (sg q) = 1
  · have key : ∃ m, m < 100 ∧ tk_nk sg q (tk_e sg L q - q) = nI m := by
      obtain ⟨d0, hd0, e0⟩ := tk_dig hd.2
      have v1 : tk_nk sg q 1 = nI d0 := by
        show 0 * 10 + sg (q + 0) - 48 = nI d0
        rw [Nat.add_zero, e0]
        exact (by decide +kernel : ∀ d, d < 10 → (0 : Int32) * 10 + nI (48 + d) - 48 = nI d) d0 hd0
      rcases (show tk_e sg L q - q = 1 ∨ tk_e sg L q - q = 2 by omega) with h | h
      · rw [h]; exact ⟨d0, by omega, v1⟩
      · rw [h]
        have hql : q < L := by
          rcases Nat.lt_or_ge q L with z | z
          · exact z
          · have : tk_e sg L q = q := if_neg (by omega)
            omega
        have h2 : ¬ tk_so (sg q) = 2 := by rw [hd.2]; decide
        have eE : tk_e sg L q = jb_fst (fun i => tk_so (sg i) != tk_so (sg q)) (q + 1) (L - (q + 1)) := by unfold tk_e; rw [if_pos hql, if_neg h2]
        have h3 := jb_fst_pre (p := fun i => tk_so (sg i) != tk_so (sg q)) (L - (q + 1)) (q + 1) (q + 1) (Nat.le_refl _) (by rw [← eE]; omega)
        have h4 : tk_so (sg (q + 1)) = 1 := by rw [← hd.2]; simpa using h3
        obtain ⟨d1, hd1, e1⟩ := tk_dig h4
        refine ⟨d0 * 10 + d1, by omega, ?_⟩
        show tk_nk sg q 1 * 10 + sg (q + 1) - 48 = nI (d0 * 10 + d1)
        rw [v1, e1]
        exact (by decide +kernel : ∀ d, d < 10 → ∀ c, c < 10 → nI d * 10 + nI (48 + c) - 48 = nI (d * 10 + c)) d0 hd0 d1 hd1
    obtain ⟨m, hm, hv⟩ := key
    have e : tk_n sg q (tk_e sg L q) (nI b) = if nI m < nI b then nI m else -1 := by unfold tk_n; rw [if_pos hd, hv]
    rw [e]
    by_cases hmb : m < b
    · right
      exact ⟨m, hmb, if_pos (nI_lt hmb (by omega))⟩
    · left
      exact if_neg (nI_nlt (by omega) (by omega))
  · left
    exact if_neg hd
abbrev tkR : Type := Bool × (Nat × Nat) × Nat × Int32 × Int32
def jb_sdI (f g : Int32) : Int32 := if g = -1 then -1 else jb_sd f.toNatClampNeg g.toNatClampNeg
def tk_lf (w : Nat) (f : Int32) (t : Nat × Nat) (g : Int32) : tkR := if jb_sdI f g = -1 then (false, t, w, f, g) else (true, t, w, f, g)
def tk_le (sg : Nat → Int32) (w : Nat) (f : Int32) (t : Nat × Nat) : tkR := tk_lf w f t (tk_n sg t.1 t.2 12)
def tk_lh (w : Nat) (f : Int32) (t : Nat × Nat) (g : Int32) : tkR := if g = -1 then (false, t, w, f, g) else (true, t, w, f, g)
def tk_lg (sg : Nat → Int32) (w : Nat) (f : Int32) (t : Nat × Nat) : tkR := tk_lh w f t (tk_n sg t.1 t.2 5)
def tk_ld (sg : Nat → Int32) (L w : Nat) (t : Nat × Nat) (f : Int32) : tkR := if f = -1 then (false, t, w, f, 0) else if w = 4 ∨ w = 5 then tk_le sg w f (tk_t sg L t.2) else if w = 6 then tk_lg sg w f (tk_t sg L t.2) else (true, t, w, f, 0)
def tk_lc (sg : Nat → Int32) (L w : Nat) (t : Nat × Nat) : tkR := tk_ld sg L w t (tk_n sg t.1 t.2 12)
def tk_lb (sg : Nat → Int32) (L : Nat) (t : Nat × Nat) (w : Nat) : tkR := if w = 8 then (false, t, 8, 0, 0) else if w = 7 then (true, t, 7, 0, 0) else tk_lc sg L w (tk_t sg L t.2)
/-- a line: is it one; its last token; its word, its numbers -/
def tk_l (sg : Nat → Int32) (L p : Nat) : tkR := tk_lb sg L (tk_t sg L p) (tk_w sg (tk_t sg L p).1 (tk_t sg L p).2)
def j3_rl (s : jj_S) (L k : Nat) : tkR → jj_S
  | (true, t, w, f, g) => j3_s (j3_w s k (nI w) f g) L t.1 t.2
  | (false, t, _, _, _) => j3_s s L t.1 t.2
theorem tk_w_le (sg : Nat → Int32) (q e : Nat) : tk_w sg q e ≤ 8 := (jb_fst_le (tk_sp sg q e) 8 0).2
theorem ev3_nextToken_t {G : jj_G} {s : jj_S} {L a b : Nat} (hb : b ≤ L) (hL : L ≤ 200) : jj_Ev G m3_nextToken 1 [.ref 1] (jj_m (j3_s s L a b)) 0 0 none (jj_m (j3_s s L (tk_t (tx_sg s) L b).1 (tk_t (tx_sg s) L b).2)) := ev3_nextToken hb hL
set_option maxRecDepth 100000 in
set_option maxHeartbeats 4000000 in
theorem ev3_readLine {G : jj_G} {s : jj_S} {L a b k : Nat} (hb : b ≤ L) (hL : L ≤ 200) (hk : k < 12) : jj_Ev G m3_readLine 7 [.ref 1, .int (nI k)] (jj_m (j3_s s L a b)) 0 0 (some (.int (jb_b ((tk_l (tx_sg s) L b).1 = true)))) (jj_m (j3_rl s L k (tk_l (tx_sg s) L b))) := by
  refine jj_Ev_of (lo := [some (.ref 1), some (.int (nI k)), none, none, none]) (by decide +kernel) (Nat.le_of_ble_eq_true rfl) rfl (jb_b01 _) ?_
  have h1 := tk_t_le (sg := tx_sg s) hb
  have h2 := tk_t_le (sg := tx_sg s) h1.2.2
  have h3 := tk_t_le (sg := tx_sg s) h2.2.2
  have eL : tk_l (tx_sg s) L b = tk_lb (tx_sg s) L (tk_t (tx_sg s) L b) (tk_w (tx_sg s) (tk_t (tx_sg s) L b).1 (tk_t (tx_sg s) L b).2) := rfl
  have hwle := tk_w_le (tx_sg s) (tk_t (tx_sg s) L b).1 (tk_t (tx_sg s) L b).2
  generalize hw : tk_w (tx_sg s) (tk_t (tx_sg s) L b).1 (tk_t (tx_sg s) L b).2 = w at eL hwle
  by_cases w8 : w = 8
  · subst w8
    have hw8 : jb_pl 8 (tk_w (tx_sg s) (tk_t (tx_sg s) L b).1 (tk_t (tx_sg s) L b).2) = -1 := by rw [hw]; rfl
    have hR : tk_l (tx_sg s) L b = (false, (tk_t (tx_sg s) L b), 8, 0, 0) := by rw [eL]; rfl
    rw [hR]
    show jj_Go G m3_readLine 7 0 [some (.ref 1), some (.int (nI k)), none, none, none] [] (jj_m (j3_s s L a b)) 0 0 (some (.int 0)) (jj_m (j3_s s L (tk_t (tx_sg s) L b).1 (tk_t (tx_sg s) L b).2))
    refine jj_aload_n dX3_readLine_0 rfl ?_
    refine jj_callV (M2 := m3_nextToken) dX3_readLine_1 ml3_47 tm3_nextToken (ev3_nextToken_t (s := s) (L := L) (a := a) (b := b) hb hL) rfl rfl rfl rfl rfl (by omega) (Nat.le_of_ble_eq_true rfl) ?_
    refine jj_aload_n dX3_readLine_4 rfl ?_
    refine jj_callV (M2 := m3_wordHere) dX3_readLine_5 ml3_54 tm3_wordHere (ev3_wordHere (s := s) (L := L) (a := (tk_t (tx_sg s) L b).1) (b := (tk_t (tx_sg s) L b).2) h1.2.1 h1.2.2 hL) rfl rfl rfl rfl rfl (by omega) (Nat.le_of_ble_eq_true rfl) ?_
    rw [hw8]
    refine jj_istore_n dX3_readLine_8 rfl (by decide) rfl ?_
    refine jj_iconst (v := 0) dX3_readLine_9 (by decide) ?_
    refine jj_istore_n dX3_readLine_10 rfl (by decide) rfl ?_
    refine jj_iconst (v := 0) dX3_readLine_11 (by decide) ?_
    refine jj_istore dX3_readLine_12 (by decide) rfl ?_
    refine jj_iload_n dX3_readLine_14 rfl ?_
    refine jj_iconst (v := (-1)) dX3_readLine_15 (by decide) ?_
    refine jj_icmp_ne (tgt := 21) dX3_readLine_16 (by decide) (fun zz => absurd rfl zz) (fun _ => ?_)
    refine jj_iconst (v := 0) dX3_readLine_19 (by decide) ?_
    exact jj_leaf dX3_readLine_20 rfl rfl
  · have hw8 : jb_pl 8 (tk_w (tx_sg s) (tk_t (tx_sg s) L b).1 (tk_t (tx_sg s) L b).2) = nI w := by rw [hw]; exact if_pos (by omega)
    by_cases w7 : w = 7
    · subst w7
      have hR : tk_l (tx_sg s) L b = (true, (tk_t (tx_sg s) L b), 7, 0, 0) := by rw [eL]; rfl
      rw [hR]
      show jj_Go G m3_readLine 7 0 [some (.ref 1), some (.int (nI k)), none, none, none] [] (jj_m (j3_s s L a b)) 0 0 (some (.int 1)) (jj_m (j3_s (j3_w s k (nI 7) 0 0) L (tk_t (tx_sg s) L b).1 (tk_t (tx_sg s) L b).2))
      refine jj_aload_n dX3_readLine_0 rfl ?_
      refine jj_callV (M2 := m3_nextToken) dX3_readLine_1 ml3_47 tm3_nextToken (ev3_nextToken_t (s := s) (L := L) (a := a) (b := b) hb hL) rfl rfl rfl rfl rfl (by omega) (Nat.le_of_ble_eq_true rfl) ?_
      refine jj_aload_n dX3_readLine_4 rfl ?_
      refine jj_callV (M2 := m3_wordHere) dX3_readLine_5 ml3_54 tm3_wordHere (ev3_wordHere (s := s) (L := L) (a := (tk_t (tx_sg s) L b).1) (b := (tk_t (tx_sg s) L b).2) h1.2.1 h1.2.2 hL) rfl rfl rfl rfl rfl (by omega) (Nat.le_of_ble_eq_true rfl) ?_
      rw [hw8]
      refine jj_istore_n dX3_readLine_8 rfl (by decide) rfl ?_
      refine jj_iconst (v := 0) dX3_readLine_9 (by decide) ?_
      refine jj_istore_n dX3_readLine_10 rfl (by decide) rfl ?_
      refine jj_iconst (v := 0) dX3_readLine_11 (by decide) ?_
      refine jj_istore dX3_readLine_12 (by decide) rfl ?_
      refine jj_iload_n dX3_readLine_14 rfl ?_
      refine jj_iconst (v := (-1)) dX3_readLine_15 (by decide) ?_
      refine jj_icmp_ne (tgt := 21) dX3_readLine_16 (by decide) (fun _ => ?_) (fun zz => absurd zz (by decide))
      refine jj_iload_n dX3_readLine_21 rfl ?_
      refine jj_bipush (v := 7) dX3_readLine_22 (by decide) ?_
      refine jj_icmp_eq (tgt := 41) dX3_readLine_24 (by decide) (fun _ => ?_) (fun zz => absurd rfl zz)
      refine jj_iload_n dX3_readLine_41 rfl ?_
      refine jj_iconst (v := 4) dX3_readLine_42 (by decide) ?_
      refine jj_icmp_eq (tgt := 51) dX3_readLine_43 (by decide) (fun zz => absurd zz (by decide)) (fun _ => ?_)
      refine jj_iload_n dX3_readLine_46 rfl ?_
      refine jj_iconst (v := 5) dX3_readLine_47 (by decide) ?_
      refine jj_icmp_ne (tgt := 71) dX3_readLine_48 (by decide) (fun _ => ?_) (fun zz => absurd zz (by decide))
      refine jj_iload_n dX3_readLine_71 rfl ?_
      refine jj_bipush (v := 6) dX3_readLine_72 (by decide) ?_
      refine jj_icmp_ne (tgt := 92) dX3_readLine_74 (by decide) (fun _ => ?_) (fun zz => absurd zz (by decide))
      refine jj_aload_n dX3_readLine_92 rfl ?_
      refine jj_iload_n dX3_readLine_93 rfl ?_
      refine jj_iload_n dX3_readLine_94 rfl ?_
      refine jj_iload_n dX3_readLine_95 rfl ?_
      refine jj_iload dX3_readLine_96 rfl ?_
      refine jj_callV (M2 := m3_setLine) dX3_readLine_98 ml3_67 tm3_setLine (ev3_setLine (s := j3_s s L (tk_t (tx_sg s) L b).1 (tk_t (tx_sg s) L b).2) (nI 7) (0) (0) hk) rfl rfl rfl rfl rfl (by omega) (Nat.le_of_ble_eq_true rfl) ?_
      refine jj_iconst (v := 1) dX3_readLine_101 (by decide) ?_
      exact jj_leaf dX3_readLine_102 rfl rfl
    · have eL2 : tk_l (tx_sg s) L b = tk_ld (tx_sg s) L w (tk_t (tx_sg s) L (tk_t (tx_sg s) L b).2) (tk_n (tx_sg s) (tk_t (tx_sg s) L (tk_t (tx_sg s) L b).2).1 (tk_t (tx_sg s) L (tk_t (tx_sg s) L b).2).2 12) := by rw [eL]; unfold tk_lb; rw [if_neg w8, if_neg w7]; rfl
      rcases tk_n_num (sg := tx_sg s) (L := L) (p := (tk_t (tx_sg s) L b).2) (b := 12) (by decide) with hf | ⟨f, hf12, hf⟩
      · have hf' : tk_n (tx_sg s) (tk_t (tx_sg s) L (tk_t (tx_sg s) L b).2).1 (tk_t (tx_sg s) L (tk_t (tx_sg s) L b).2).2 12 = -1 := hf
        have hR : tk_l (tx_sg s) L b = (false, (tk_t (tx_sg s) L (tk_t (tx_sg s) L b).2), w, -1, 0) := by rw [eL2, hf']; rfl
        rw [hR]
        show jj_Go G m3_readLine 7 0 [some (.ref 1), some (.int (nI k)), none, none, none] [] (jj_m (j3_s s L a b)) 0 0 (some (.int 0)) (jj_m (j3_s s L (tk_t (tx_sg s) L (tk_t (tx_sg s) L b).2).1 (tk_t (tx_sg s) L (tk_t (tx_sg s) L b).2).2))
        refine jj_aload_n dX3_readLine_0 rfl ?_
        refine jj_callV (M2 := m3_nextToken) dX3_readLine_1 ml3_47 tm3_nextToken (ev3_nextToken_t (s := s) (L := L) (a := a) (b := b) hb hL) rfl rfl rfl rfl rfl (by omega) (Nat.le_of_ble_eq_true rfl) ?_
        refine jj_aload_n dX3_readLine_4 rfl ?_
        refine jj_callV (M2 := m3_wordHere) dX3_readLine_5 ml3_54 tm3_wordHere (ev3_wordHere (s := s) (L := L) (a := (tk_t (tx_sg s) L b).1) (b := (tk_t (tx_sg s) L b).2) h1.2.1 h1.2.2 hL) rfl rfl rfl rfl rfl (by omega) (Nat.le_of_ble_eq_true rfl) ?_
        rw [hw8]
        refine jj_istore_n dX3_readLine_8 rfl (by decide) rfl ?_
        refine jj_iconst (v := 0) dX3_readLine_9 (by decide) ?_
        refine jj_istore_n dX3_readLine_10 rfl (by decide) rfl ?_
        refine jj_iconst (v := 0) dX3_readLine_11 (by decide) ?_
        refine jj_istore dX3_readLine_12 (by decide) rfl ?_
        refine jj_iload_n dX3_readLine_14 rfl ?_
        refine jj_iconst (v := (-1)) dX3_readLine_15 (by decide) ?_
        refine jj_icmp_ne (tgt := 21) dX3_readLine_16 (by decide) (fun _ => ?_) (fun zz => absurd zz (jb_nm1 (by omega)))
        refine jj_iload_n dX3_readLine_21 rfl ?_
        refine jj_bipush (v := 7) dX3_readLine_22 (by decide) ?_
        refine jj_icmp_eq (tgt := 41) dX3_readLine_24 (by decide) (fun zz => absurd zz (fun z => absurd ((jb_inj (by omega) (by decide)).mp z) (by omega : ¬ w = 7))) (fun _ => ?_)
        refine jj_aload_n dX3_readLine_27 rfl ?_
        refine jj_bipush (v := 12) dX3_readLine_28 (by decide) ?_
        refine jj_callV (M2 := m3_nextNumber) dX3_readLine_30 ml3_58 tm3_nextNumber (ev3_nextNumber (s := s) (L := L) (a := (tk_t (tx_sg s) L b).1) (b := (tk_t (tx_sg s) L b).2) 12 h1.2.2 hL) rfl rfl rfl rfl rfl (by omega) (Nat.le_of_ble_eq_true rfl) ?_
        rw [hf']
        refine jj_istore_n dX3_readLine_33 rfl (by decide) rfl ?_
        refine jj_iload_n dX3_readLine_34 rfl ?_
        refine jj_iconst (v := (-1)) dX3_readLine_35 (by decide) ?_
        refine jj_icmp_ne (tgt := 41) dX3_readLine_36 (by decide) (fun zz => absurd rfl zz) (fun _ => ?_)
        refine jj_iconst (v := 0) dX3_readLine_39 (by decide) ?_
        exact jj_leaf dX3_readLine_40 rfl rfl
      · have hf' : tk_n (tx_sg s) (tk_t (tx_sg s) L (tk_t (tx_sg s) L b).2).1 (tk_t (tx_sg s) L (tk_t (tx_sg s) L b).2).2 12 = nI f := hf
        have hfn : ¬ nI f = -1 := jb_nm1 (by omega)
        by_cases w6 : w = 6
        · subst w6
          have eL3 : tk_l (tx_sg s) L b = tk_lh 6 (nI f) (tk_t (tx_sg s) L (tk_t (tx_sg s) L (tk_t (tx_sg s) L b).2).2) (tk_n (tx_sg s) (tk_t (tx_sg s) L (tk_t (tx_sg s) L (tk_t (tx_sg s) L b).2).2).1 (tk_t (tx_sg s) L (tk_t (tx_sg s) L (tk_t (tx_sg s) L b).2).2).2 5) := by rw [eL2, hf']; unfold tk_ld; rw [if_neg hfn, if_neg (by decide), if_pos rfl]; rfl
          rcases tk_n_num (sg := tx_sg s) (L := L) (p := (tk_t (tx_sg s) L (tk_t (tx_sg s) L b).2).2) (b := 5) (by decide) with hg | ⟨g, hg5, hg⟩
          · have hg' : tk_n (tx_sg s) (tk_t (tx_sg s) L (tk_t (tx_sg s) L (tk_t (tx_sg s) L b).2).2).1 (tk_t (tx_sg s) L (tk_t (tx_sg s) L (tk_t (tx_sg s) L b).2).2).2 5 = -1 := hg
            have hR : tk_l (tx_sg s) L b = (false, (tk_t (tx_sg s) L (tk_t (tx_sg s) L (tk_t (tx_sg s) L b).2).2), 6, nI f, -1) := by rw [eL3, hg']; rfl
            rw [hR]
            show jj_Go G m3_readLine 7 0 [some (.ref 1), some (.int (nI k)), none, none, none] [] (jj_m (j3_s s L a b)) 0 0 (some (.int 0)) (jj_m (j3_s s L (tk_t (tx_sg s) L (tk_t (tx_sg s) L (tk_t (tx_sg s) L b).2).2).1 (tk_t (tx_sg s) L (tk_t (tx_sg s) L (tk_t (tx_sg s) L b).2).2).2))
            refine jj_aload_n dX3_readLine_0 rfl ?_
            refine jj_callV (M2 := m3_nextToken) dX3_readLine_1 ml3_47 tm3_nextToken (ev3_nextToken_t (s := s) (L := L) (a := a) (b := b) hb hL) rfl rfl rfl rfl rfl (by omega) (Nat.le_of_ble_eq_true rfl) ?_
            refine jj_aload_n dX3_readLine_4 rfl ?_
            refine jj_callV (M2 := m3_wordHere) dX3_readLine_5 ml3_54 tm3_wordHere (ev3_wordHere (s := s) (L := L) (a := (tk_t (tx_sg s) L b).1) (b := (tk_t (tx_sg s) L b).2) h1.2.1 h1.2.2 hL) rfl rfl rfl rfl rfl (by omega) (Nat.le_of_ble_eq_true rfl) ?_
            rw [hw8]
            refine jj_istore_n dX3_readLine_8 rfl (by decide) rfl ?_
            refine jj_iconst (v := 0) dX3_readLine_9 (by decide) ?_
            refine jj_istore_n dX3_readLine_10 rfl (by decide) rfl ?_
            refine jj_iconst (v := 0) dX3_readLine_11 (by decide) ?_
            refine jj_istore dX3_readLine_12 (by decide) rfl ?_
            refine jj_iload_n dX3_readLine_14 rfl ?_
            refine jj_iconst (v := (-1)) dX3_readLine_15 (by decide) ?_
            refine jj_icmp_ne (tgt := 21) dX3_readLine_16 (by decide) (fun _ => ?_) (fun zz => absurd zz (by decide))
            refine jj_iload_n dX3_readLine_21 rfl ?_
            refine jj_bipush (v := 7) dX3_readLine_22 (by decide) ?_
            refine jj_icmp_eq (tgt := 41) dX3_readLine_24 (by decide) (fun zz => absurd zz (by decide)) (fun _ => ?_)
            refine jj_aload_n dX3_readLine_27 rfl ?_
            refine jj_bipush (v := 12) dX3_readLine_28 (by decide) ?_
            refine jj_callV (M2 := m3_nextNumber) dX3_readLine_30 ml3_58 tm3_nextNumber (ev3_nextNumber (s := s) (L := L) (a := (tk_t (tx_sg s) L b).1) (b := (tk_t (tx_sg s) L b).2) 12 h1.2.2 hL) rfl rfl rfl rfl rfl (by omega) (Nat.le_of_ble_eq_true rfl) ?_
            rw [hf']
            refine jj_istore_n dX3_readLine_33 rfl (by decide) rfl ?_
            refine jj_iload_n dX3_readLine_34 rfl ?_
            refine jj_iconst (v := (-1)) dX3_readLine_35 (by decide) ?_
            refine jj_icmp_ne (tgt := 41) dX3_readLine_36 (by decide) (fun _ => ?_) (fun zz => absurd zz hfn)
            refine jj_iload_n dX3_readLine_41 rfl ?_
            refine jj_iconst (v := 4) dX3_readLine_42 (by decide) ?_
            refine jj_icmp_eq (tgt := 51) dX3_readLine_43 (by decide) (fun zz => absurd zz (by decide)) (fun _ => ?_)
            refine jj_iload_n dX3_readLine_46 rfl ?_
            refine jj_iconst (v := 5) dX3_readLine_47 (by decide) ?_
            refine jj_icmp_ne (tgt := 71) dX3_readLine_48 (by decide) (fun _ => ?_) (fun zz => absurd zz (by decide))
            refine jj_iload_n dX3_readLine_71 rfl ?_
            refine jj_bipush (v := 6) dX3_readLine_72 (by decide) ?_
            refine jj_icmp_ne (tgt := 92) dX3_readLine_74 (by decide) (fun zz => absurd rfl zz) (fun _ => ?_)
            refine jj_aload_n dX3_readLine_77 rfl ?_
            refine jj_iconst (v := 5) dX3_readLine_78 (by decide) ?_
            refine jj_callV (M2 := m3_nextNumber) dX3_readLine_79 ml3_58 tm3_nextNumber (ev3_nextNumber (s := s) (L := L) (a := (tk_t (tx_sg s) L (tk_t (tx_sg s) L b).2).1) (b := (tk_t (tx_sg s) L (tk_t (tx_sg s) L b).2).2) 5 h2.2.2 hL) rfl rfl rfl rfl rfl (by omega) (Nat.le_of_ble_eq_true rfl) ?_
            rw [hg']
            refine jj_istore dX3_readLine_82 (by decide) rfl ?_
            refine jj_iload dX3_readLine_84 rfl ?_
            refine jj_iconst (v := (-1)) dX3_readLine_86 (by decide) ?_
            refine jj_icmp_ne (tgt := 92) dX3_readLine_87 (by decide) (fun zz => absurd rfl zz) (fun _ => ?_)
            refine jj_iconst (v := 0) dX3_readLine_90 (by decide) ?_
            exact jj_leaf dX3_readLine_91 rfl rfl
          · have hg' : tk_n (tx_sg s) (tk_t (tx_sg s) L (tk_t (tx_sg s) L (tk_t (tx_sg s) L b).2).2).1 (tk_t (tx_sg s) L (tk_t (tx_sg s) L (tk_t (tx_sg s) L b).2).2).2 5 = nI g := hg
            have hgn : ¬ nI g = -1 := jb_nm1 (by omega)
            have hR : tk_l (tx_sg s) L b = (true, (tk_t (tx_sg s) L (tk_t (tx_sg s) L (tk_t (tx_sg s) L b).2).2), 6, nI f, nI g) := by rw [eL3, hg']; exact if_neg hgn
            rw [hR]
            show jj_Go G m3_readLine 7 0 [some (.ref 1), some (.int (nI k)), none, none, none] [] (jj_m (j3_s s L a b)) 0 0 (some (.int 1)) (jj_m (j3_s (j3_w s k (nI 6) (nI f) (nI g)) L (tk_t (tx_sg s) L (tk_t (tx_sg s) L (tk_t (tx_sg s) L b).2).2).1 (tk_t (tx_sg s) L (tk_t (tx_sg s) L (tk_t (tx_sg s) L b).2).2).2))
            refine jj_aload_n dX3_readLine_0 rfl ?_
            refine jj_callV (M2 := m3_nextToken) dX3_readLine_1 ml3_47 tm3_nextToken (ev3_nextToken_t (s := s) (L := L) (a := a) (b := b) hb hL) rfl rfl rfl rfl rfl (by omega) (Nat.le_of_ble_eq_true rfl) ?_
            refine jj_aload_n dX3_readLine_4 rfl ?_
            refine jj_callV (M2 := m3_wordHere) dX3_readLine_5 ml3_54 tm3_wordHere (ev3_wordHere (s := s) (L := L) (a := (tk_t (tx_sg s) L b).1) (b := (tk_t (tx_sg s) L b).2) h1.2.1 h1.2.2 hL) rfl rfl rfl rfl rfl (by omega) (Nat.le_of_ble_eq_true rfl) ?_
            rw [hw8]
            refine jj_istore_n dX3_readLine_8 rfl (by decide) rfl ?_
            refine jj_iconst (v := 0) dX3_readLine_9 (by decide) ?_
            refine jj_istore_n dX3_readLine_10 rfl (by decide) rfl ?_
            refine jj_iconst (v := 0) dX3_readLine_11 (by decide) ?_
            refine jj_istore dX3_readLine_12 (by decide) rfl ?_
            refine jj_iload_n dX3_readLine_14 rfl ?_
            refine jj_iconst (v := (-1)) dX3_readLine_15 (by decide) ?_
            refine jj_icmp_ne (tgt := 21) dX3_readLine_16 (by decide) (fun _ => ?_) (fun zz => absurd zz (by decide))
            refine jj_iload_n dX3_readLine_21 rfl ?_
            refine jj_bipush (v := 7) dX3_readLine_22 (by decide) ?_
            refine jj_icmp_eq (tgt := 41) dX3_readLine_24 (by decide) (fun zz => absurd zz (by decide)) (fun _ => ?_)
            refine jj_aload_n dX3_readLine_27 rfl ?_
            refine jj_bipush (v := 12) dX3_readLine_28 (by decide) ?_
            refine jj_callV (M2 := m3_nextNumber) dX3_readLine_30 ml3_58 tm3_nextNumber (ev3_nextNumber (s := s) (L := L) (a := (tk_t (tx_sg s) L b).1) (b := (tk_t (tx_sg s) L b).2) 12 h1.2.2 hL) rfl rfl rfl rfl rfl (by omega) (Nat.le_of_ble_eq_true rfl) ?_
            rw [hf']
            refine jj_istore_n dX3_readLine_33 rfl (by decide) rfl ?_
            refine jj_iload_n dX3_readLine_34 rfl ?_
            refine jj_iconst (v := (-1)) dX3_readLine_35 (by decide) ?_
            refine jj_icmp_ne (tgt := 41) dX3_readLine_36 (by decide) (fun _ => ?_) (fun zz => absurd zz hfn)
            refine jj_iload_n dX3_readLine_41 rfl ?_
            refine jj_iconst (v := 4) dX3_readLine_42 (by decide) ?_
            refine jj_icmp_eq (tgt := 51) dX3_readLine_43 (by decide) (fun zz => absurd zz (by decide)) (fun _ => ?_)
            refine jj_iload_n dX3_readLine_46 rfl ?_
            refine jj_iconst (v := 5) dX3_readLine_47 (by decide) ?_
            refine jj_icmp_ne (tgt := 71) dX3_readLine_48 (by decide) (fun _ => ?_) (fun zz => absurd zz (by decide))
            refine jj_iload_n dX3_readLine_71 rfl ?_
            refine jj_bipush (v := 6) dX3_readLine_72 (by decide) ?_
            refine jj_icmp_ne (tgt := 92) dX3_readLine_74 (by decide) (fun zz => absurd rfl zz) (fun _ => ?_)
            refine jj_aload_n dX3_readLine_77 rfl ?_
            refine jj_iconst (v := 5) dX3_readLine_78 (by decide) ?_
            refine jj_callV (M2 := m3_nextNumber) dX3_readLine_79 ml3_58 tm3_nextNumber (ev3_nextNumber (s := s) (L := L) (a := (tk_t (tx_sg s) L (tk_t (tx_sg s) L b).2).1) (b := (tk_t (tx_sg s) L (tk_t (tx_sg s) L b).2).2) 5 h2.2.2 hL) rfl rfl rfl rfl rfl (by omega) (Nat.le_of_ble_eq_true rfl) ?_
            rw [hg']
            refine jj_istore dX3_readLine_82 (by decide) rfl ?_
            refine jj_iload dX3_readLine_84 rfl ?_
            refine jj_iconst (v := (-1)) dX3_readLine_86 (by decide) ?_
            refine jj_icmp_ne (tgt := 92) dX3_readLine_87 (by decide) (fun _ => ?_) (fun zz => absurd zz hgn)
            refine jj_aload_n dX3_readLine_92 rfl ?_
            refine jj_iload_n dX3_readLine_93 rfl ?_
            refine jj_iload_n dX3_readLine_94 rfl ?_
            refine jj_iload_n dX3_readLine_95 rfl ?_
            refine jj_iload dX3_readLine_96 rfl ?_
            refine jj_callV (M2 := m3_setLine) dX3_readLine_98 ml3_67 tm3_setLine (ev3_setLine (s := j3_s s L (tk_t (tx_sg s) L (tk_t (tx_sg s) L (tk_t (tx_sg s) L b).2).2).1 (tk_t (tx_sg s) L (tk_t (tx_sg s) L (tk_t (tx_sg s) L b).2).2).2) (nI 6) (nI f) (nI g) hk) rfl rfl rfl rfl rfl (by omega) (Nat.le_of_ble_eq_true rfl) ?_
            refine jj_iconst (v := 1) dX3_readLine_101 (by decide) ?_
            exact jj_leaf dX3_readLine_102 rfl rfl
        · by_cases w45 : w = 4 ∨ w = 5
          · have eL3 : tk_l (tx_sg s) L b = tk_lf w (nI f) (tk_t (tx_sg s) L (tk_t (tx_sg s) L (tk_t (tx_sg s) L b).2).2) (tk_n (tx_sg s) (tk_t (tx_sg s) L (tk_t (tx_sg s) L (tk_t (tx_sg s) L b).2).2).1 (tk_t (tx_sg s) L (tk_t (tx_sg s) L (tk_t (tx_sg s) L b).2).2).2 12) := by rw [eL2, hf']; unfold tk_ld; rw [if_neg hfn, if_pos w45]; rfl
            rcases w45 with w45 | w45
            · subst w45
              rcases tk_n_num (sg := tx_sg s) (L := L) (p := (tk_t (tx_sg s) L (tk_t (tx_sg s) L b).2).2) (b := 12) (by decide) with hg | ⟨g, hg12, hg⟩
              · have hg' : tk_n (tx_sg s) (tk_t (tx_sg s) L (tk_t (tx_sg s) L (tk_t (tx_sg s) L b).2).2).1 (tk_t (tx_sg s) L (tk_t (tx_sg s) L (tk_t (tx_sg s) L b).2).2).2 12 = -1 := hg
                have hR : tk_l (tx_sg s) L b = (false, (tk_t (tx_sg s) L (tk_t (tx_sg s) L (tk_t (tx_sg s) L b).2).2), 4, nI f, -1) := by rw [eL3, hg']; rfl
                rw [hR]
                show jj_Go G m3_readLine 7 0 [some (.ref 1), some (.int (nI k)), none, none, none] [] (jj_m (j3_s s L a b)) 0 0 (some (.int 0)) (jj_m (j3_s s L (tk_t (tx_sg s) L (tk_t (tx_sg s) L (tk_t (tx_sg s) L b).2).2).1 (tk_t (tx_sg s) L (tk_t (tx_sg s) L (tk_t (tx_sg s) L b).2).2).2))
                refine jj_aload_n dX3_readLine_0 rfl ?_
                refine jj_callV (M2 := m3_nextToken) dX3_readLine_1 ml3_47 tm3_nextToken (ev3_nextToken_t (s := s) (L := L) (a := a) (b := b) hb hL) rfl rfl rfl rfl rfl (by omega) (Nat.le_of_ble_eq_true rfl) ?_
                refine jj_aload_n dX3_readLine_4 rfl ?_
                refine jj_callV (M2 := m3_wordHere) dX3_readLine_5 ml3_54 tm3_wordHere (ev3_wordHere (s := s) (L := L) (a := (tk_t (tx_sg s) L b).1) (b := (tk_t (tx_sg s) L b).2) h1.2.1 h1.2.2 hL) rfl rfl rfl rfl rfl (by omega) (Nat.le_of_ble_eq_true rfl) ?_
                rw [hw8]
                refine jj_istore_n dX3_readLine_8 rfl (by decide) rfl ?_
                refine jj_iconst (v := 0) dX3_readLine_9 (by decide) ?_
                refine jj_istore_n dX3_readLine_10 rfl (by decide) rfl ?_
                refine jj_iconst (v := 0) dX3_readLine_11 (by decide) ?_
                refine jj_istore dX3_readLine_12 (by decide) rfl ?_
                refine jj_iload_n dX3_readLine_14 rfl ?_
                refine jj_iconst (v := (-1)) dX3_readLine_15 (by decide) ?_
                refine jj_icmp_ne (tgt := 21) dX3_readLine_16 (by decide) (fun _ => ?_) (fun zz => absurd zz (by decide))
                refine jj_iload_n dX3_readLine_21 rfl ?_
                refine jj_bipush (v := 7) dX3_readLine_22 (by decide) ?_
                refine jj_icmp_eq (tgt := 41) dX3_readLine_24 (by decide) (fun zz => absurd zz (by decide)) (fun _ => ?_)
                refine jj_aload_n dX3_readLine_27 rfl ?_
                refine jj_bipush (v := 12) dX3_readLine_28 (by decide) ?_
                refine jj_callV (M2 := m3_nextNumber) dX3_readLine_30 ml3_58 tm3_nextNumber (ev3_nextNumber (s := s) (L := L) (a := (tk_t (tx_sg s) L b).1) (b := (tk_t (tx_sg s) L b).2) 12 h1.2.2 hL) rfl rfl rfl rfl rfl (by omega) (Nat.le_of_ble_eq_true rfl) ?_
                rw [hf']
                refine jj_istore_n dX3_readLine_33 rfl (by decide) rfl ?_
                refine jj_iload_n dX3_readLine_34 rfl ?_
                refine jj_iconst (v := (-1)) dX3_readLine_35 (by decide) ?_
                refine jj_icmp_ne (tgt := 41) dX3_readLine_36 (by decide) (fun _ => ?_) (fun zz => absurd zz hfn)
                refine jj_iload_n dX3_readLine_41 rfl ?_
                refine jj_iconst (v := 4) dX3_readLine_42 (by decide) ?_
                refine jj_icmp_eq (tgt := 51) dX3_readLine_43 (by decide) (fun _ => ?_) (fun zz => absurd rfl zz)
                refine jj_aload_n dX3_readLine_51 rfl ?_
                refine jj_bipush (v := 12) dX3_readLine_52 (by decide) ?_
                refine jj_callV (M2 := m3_nextNumber) dX3_readLine_54 ml3_58 tm3_nextNumber (ev3_nextNumber (s := s) (L := L) (a := (tk_t (tx_sg s) L (tk_t (tx_sg s) L b).2).1) (b := (tk_t (tx_sg s) L (tk_t (tx_sg s) L b).2).2) 12 h2.2.2 hL) rfl rfl rfl rfl rfl (by omega) (Nat.le_of_ble_eq_true rfl) ?_
                rw [hg']
                refine jj_istore dX3_readLine_57 (by decide) rfl ?_
                refine jj_iload_n dX3_readLine_59 rfl ?_
                refine jj_iload dX3_readLine_60 rfl ?_
                refine jj_callS (M2 := m0_sideTo) dX3_readLine_62 ml3_61 tm0_sideTo (ev0_sideTo_n hf12) rfl rfl (by omega) (Nat.le_of_ble_eq_true rfl) ?_
                refine jj_iconst (v := (-1)) dX3_readLine_65 (by decide) ?_
                refine jj_icmp_ne (tgt := 71) dX3_readLine_66 (by decide) (fun zz => absurd rfl zz) (fun _ => ?_)
                refine jj_iconst (v := 0) dX3_readLine_69 (by decide) ?_
                exact jj_leaf dX3_readLine_70 rfl rfl
              · have hg' : tk_n (tx_sg s) (tk_t (tx_sg s) L (tk_t (tx_sg s) L (tk_t (tx_sg s) L b).2).2).1 (tk_t (tx_sg s) L (tk_t (tx_sg s) L (tk_t (tx_sg s) L b).2).2).2 12 = nI g := hg
                have hsd : jb_sdI (nI f) (nI g) = jb_sd f g := by unfold jb_sdI; rw [if_neg (jb_nm1 (by omega)), nI_clamp (by omega), nI_clamp (by omega)]
                by_cases hs : jb_sd f g = -1
                · skip
                  have hR : tk_l (tx_sg s) L b = (false, (tk_t (tx_sg s) L (tk_t (tx_sg s) L (tk_t (tx_sg s) L b).2).2), 4, nI f, nI g) := by rw [eL3, hg']; unfold tk_lf; rw [hsd, if_pos hs]
                  rw [hR]
                  show jj_Go G m3_readLine 7 0 [some (.ref 1), some (.int (nI k)), none, none, none] [] (jj_m (j3_s s L a b)) 0 0 (some (.int 0)) (jj_m (j3_s s L (tk_t (tx_sg s) L (tk_t (tx_sg s) L (tk_t (tx_sg s) L b).2).2).1 (tk_t (tx_sg s) L (tk_t (tx_sg s) L (tk_t (tx_sg s) L b).2).2).2))
                  refine jj_aload_n dX3_readLine_0 rfl ?_
                  refine jj_callV (M2 := m3_nextToken) dX3_readLine_1 ml3_47 tm3_nextToken (ev3_nextToken_t (s := s) (L := L) (a := a) (b := b) hb hL) rfl rfl rfl rfl rfl (by omega) (Nat.le_of_ble_eq_true rfl) ?_
                  refine jj_aload_n dX3_readLine_4 rfl ?_
                  refine jj_callV (M2 := m3_wordHere) dX3_readLine_5 ml3_54 tm3_wordHere (ev3_wordHere (s := s) (L := L) (a := (tk_t (tx_sg s) L b).1) (b := (tk_t (tx_sg s) L b).2) h1.2.1 h1.2.2 hL) rfl rfl rfl rfl rfl (by omega) (Nat.le_of_ble_eq_true rfl) ?_
                  rw [hw8]
                  refine jj_istore_n dX3_readLine_8 rfl (by decide) rfl ?_
                  refine jj_iconst (v := 0) dX3_readLine_9 (by decide) ?_
                  refine jj_istore_n dX3_readLine_10 rfl (by decide) rfl ?_
                  refine jj_iconst (v := 0) dX3_readLine_11 (by decide) ?_
                  refine jj_istore dX3_readLine_12 (by decide) rfl ?_
                  refine jj_iload_n dX3_readLine_14 rfl ?_
                  refine jj_iconst (v := (-1)) dX3_readLine_15 (by decide) ?_
                  refine jj_icmp_ne (tgt := 21) dX3_readLine_16 (by decide) (fun _ => ?_) (fun zz => absurd zz (by decide))
                  refine jj_iload_n dX3_readLine_21 rfl ?_
                  refine jj_bipush (v := 7) dX3_readLine_22 (by decide) ?_
                  refine jj_icmp_eq (tgt := 41) dX3_readLine_24 (by decide) (fun zz => absurd zz (by decide)) (fun _ => ?_)
                  refine jj_aload_n dX3_readLine_27 rfl ?_
                  refine jj_bipush (v := 12) dX3_readLine_28 (by decide) ?_
                  refine jj_callV (M2 := m3_nextNumber) dX3_readLine_30 ml3_58 tm3_nextNumber (ev3_nextNumber (s := s) (L := L) (a := (tk_t (tx_sg s) L b).1) (b := (tk_t (tx_sg s) L b).2) 12 h1.2.2 hL) rfl rfl rfl rfl rfl (by omega) (Nat.le_of_ble_eq_true rfl) ?_
                  rw [hf']
                  refine jj_istore_n dX3_readLine_33 rfl (by decide) rfl ?_
                  refine jj_iload_n dX3_readLine_34 rfl ?_
                  refine jj_iconst (v := (-1)) dX3_readLine_35 (by decide) ?_
                  refine jj_icmp_ne (tgt := 41) dX3_readLine_36 (by decide) (fun _ => ?_) (fun zz => absurd zz hfn)
                  refine jj_iload_n dX3_readLine_41 rfl ?_
                  refine jj_iconst (v := 4) dX3_readLine_42 (by decide) ?_
                  refine jj_icmp_eq (tgt := 51) dX3_readLine_43 (by decide) (fun _ => ?_) (fun zz => absurd rfl zz)
                  refine jj_aload_n dX3_readLine_51 rfl ?_
                  refine jj_bipush (v := 12) dX3_readLine_52 (by decide) ?_
                  refine jj_callV (M2 := m3_nextNumber) dX3_readLine_54 ml3_58 tm3_nextNumber (ev3_nextNumber (s := s) (L := L) (a := (tk_t (tx_sg s) L (tk_t (tx_sg s) L b).2).1) (b := (tk_t (tx_sg s) L (tk_t (tx_sg s) L b).2).2) 12 h2.2.2 hL) rfl rfl rfl rfl rfl (by omega) (Nat.le_of_ble_eq_true rfl) ?_
                  rw [hg']
                  refine jj_istore dX3_readLine_57 (by decide) rfl ?_
                  refine jj_iload_n dX3_readLine_59 rfl ?_
                  refine jj_iload dX3_readLine_60 rfl ?_
                  refine jj_callS (M2 := m0_sideTo) dX3_readLine_62 ml3_61 tm0_sideTo (ev0_sideTo hf12 hg12) rfl rfl (by omega) (Nat.le_of_ble_eq_true rfl) ?_
                  refine jj_iconst (v := (-1)) dX3_readLine_65 (by decide) ?_
                  refine jj_icmp_ne (tgt := 71) dX3_readLine_66 (by decide) (fun zz => absurd hs zz) (fun _ => ?_)
                  refine jj_iconst (v := 0) dX3_readLine_69 (by decide) ?_
                  exact jj_leaf dX3_readLine_70 rfl rfl
                · skip
                  have hR : tk_l (tx_sg s) L b = (true, (tk_t (tx_sg s) L (tk_t (tx_sg s) L (tk_t (tx_sg s) L b).2).2), 4, nI f, nI g) := by rw [eL3, hg']; unfold tk_lf; rw [hsd, if_neg hs]
                  rw [hR]
                  show jj_Go G m3_readLine 7 0 [some (.ref 1), some (.int (nI k)), none, none, none] [] (jj_m (j3_s s L a b)) 0 0 (some (.int 1)) (jj_m (j3_s (j3_w s k (nI 4) (nI f) (nI g)) L (tk_t (tx_sg s) L (tk_t (tx_sg s) L (tk_t (tx_sg s) L b).2).2).1 (tk_t (tx_sg s) L (tk_t (tx_sg s) L (tk_t (tx_sg s) L b).2).2).2))
                  refine jj_aload_n dX3_readLine_0 rfl ?_
                  refine jj_callV (M2 := m3_nextToken) dX3_readLine_1 ml3_47 tm3_nextToken (ev3_nextToken_t (s := s) (L := L) (a := a) (b := b) hb hL) rfl rfl rfl rfl rfl (by omega) (Nat.le_of_ble_eq_true rfl) ?_
                  refine jj_aload_n dX3_readLine_4 rfl ?_
                  refine jj_callV (M2 := m3_wordHere) dX3_readLine_5 ml3_54 tm3_wordHere (ev3_wordHere (s := s) (L := L) (a := (tk_t (tx_sg s) L b).1) (b := (tk_t (tx_sg s) L b).2) h1.2.1 h1.2.2 hL) rfl rfl rfl rfl rfl (by omega) (Nat.le_of_ble_eq_true rfl) ?_
                  rw [hw8]
                  refine jj_istore_n dX3_readLine_8 rfl (by decide) rfl ?_
                  refine jj_iconst (v := 0) dX3_readLine_9 (by decide) ?_
                  refine jj_istore_n dX3_readLine_10 rfl (by decide) rfl ?_
                  refine jj_iconst (v := 0) dX3_readLine_11 (by decide) ?_
                  refine jj_istore dX3_readLine_12 (by decide) rfl ?_
                  refine jj_iload_n dX3_readLine_14 rfl ?_
                  refine jj_iconst (v := (-1)) dX3_readLine_15 (by decide) ?_
                  refine jj_icmp_ne (tgt := 21) dX3_readLine_16 (by decide) (fun _ => ?_) (fun zz => absurd zz (by decide))
                  refine jj_iload_n dX3_readLine_21 rfl ?_
                  refine jj_bipush (v := 7) dX3_readLine_22 (by decide) ?_
                  refine jj_icmp_eq (tgt := 41) dX3_readLine_24 (by decide) (fun zz => absurd zz (by decide)) (fun _ => ?_)
                  refine jj_aload_n dX3_readLine_27 rfl ?_
                  refine jj_bipush (v := 12) dX3_readLine_28 (by decide) ?_
                  refine jj_callV (M2 := m3_nextNumber) dX3_readLine_30 ml3_58 tm3_nextNumber (ev3_nextNumber (s := s) (L := L) (a := (tk_t (tx_sg s) L b).1) (b := (tk_t (tx_sg s) L b).2) 12 h1.2.2 hL) rfl rfl rfl rfl rfl (by omega) (Nat.le_of_ble_eq_true rfl) ?_
                  rw [hf']
                  refine jj_istore_n dX3_readLine_33 rfl (by decide) rfl ?_
                  refine jj_iload_n dX3_readLine_34 rfl ?_
                  refine jj_iconst (v := (-1)) dX3_readLine_35 (by decide) ?_
                  refine jj_icmp_ne (tgt := 41) dX3_readLine_36 (by decide) (fun _ => ?_) (fun zz => absurd zz hfn)
                  refine jj_iload_n dX3_readLine_41 rfl ?_
                  refine jj_iconst (v := 4) dX3_readLine_42 (by decide) ?_
                  refine jj_icmp_eq (tgt := 51) dX3_readLine_43 (by decide) (fun _ => ?_) (fun zz => absurd rfl zz)
                  refine jj_aload_n dX3_readLine_51 rfl ?_
                  refine jj_bipush (v := 12) dX3_readLine_52 (by decide) ?_
                  refine jj_callV (M2 := m3_nextNumber) dX3_readLine_54 ml3_58 tm3_nextNumber (ev3_nextNumber (s := s) (L := L) (a := (tk_t (tx_sg s) L (tk_t (tx_sg s) L b).2).1) (b := (tk_t (tx_sg s) L (tk_t (tx_sg s) L b).2).2) 12 h2.2.2 hL) rfl rfl rfl rfl rfl (by omega) (Nat.le_of_ble_eq_true rfl) ?_
                  rw [hg']
                  refine jj_istore dX3_readLine_57 (by decide) rfl ?_
                  refine jj_iload_n dX3_readLine_59 rfl ?_
                  refine jj_iload dX3_readLine_60 rfl ?_
                  refine jj_callS (M2 := m0_sideTo) dX3_readLine_62 ml3_61 tm0_sideTo (ev0_sideTo hf12 hg12) rfl rfl (by omega) (Nat.le_of_ble_eq_true rfl) ?_
                  refine jj_iconst (v := (-1)) dX3_readLine_65 (by decide) ?_
                  refine jj_icmp_ne (tgt := 71) dX3_readLine_66 (by decide) (fun _ => ?_) (fun zz => absurd zz hs)
                  refine jj_iload_n dX3_readLine_71 rfl ?_
                  refine jj_bipush (v := 6) dX3_readLine_72 (by decide) ?_
                  refine jj_icmp_ne (tgt := 92) dX3_readLine_74 (by decide) (fun _ => ?_) (fun zz => absurd zz (by decide))
                  refine jj_aload_n dX3_readLine_92 rfl ?_
                  refine jj_iload_n dX3_readLine_93 rfl ?_
                  refine jj_iload_n dX3_readLine_94 rfl ?_
                  refine jj_iload_n dX3_readLine_95 rfl ?_
                  refine jj_iload dX3_readLine_96 rfl ?_
                  refine jj_callV (M2 := m3_setLine) dX3_readLine_98 ml3_67 tm3_setLine (ev3_setLine (s := j3_s s L (tk_t (tx_sg s) L (tk_t (tx_sg s) L (tk_t (tx_sg s) L b).2).2).1 (tk_t (tx_sg s) L (tk_t (tx_sg s) L (tk_t (tx_sg s) L b).2).2).2) (nI 4) (nI f) (nI g) hk) rfl rfl rfl rfl rfl (by omega) (Nat.le_of_ble_eq_true rfl) ?_
                  refine jj_iconst (v := 1) dX3_readLine_101 (by decide) ?_
                  exact jj_leaf dX3_readLine_102 rfl rfl
            · subst w45
              rcases tk_n_num (sg := tx_sg s) (L := L) (p := (tk_t (tx_sg s) L (tk_t (tx_sg s) L b).2).2) (b := 12) (by decide) with hg | ⟨g, hg12, hg⟩
              · have hg' : tk_n (tx_sg s) (tk_t (tx_sg s) L (tk_t (tx_sg s) L (tk_t (tx_sg s) L b).2).2).1 (tk_t (tx_sg s) L (tk_t (tx_sg s) L (tk_t (tx_sg s) L b).2).2).2 12 = -1 := hg
                have hR : tk_l (tx_sg s) L b = (false, (tk_t (tx_sg s) L (tk_t (tx_sg s) L (tk_t (tx_sg s) L b).2).2), 5, nI f, -1) := by rw [eL3, hg']; rfl
                rw [hR]
                show jj_Go G m3_readLine 7 0 [some (.ref 1), some (.int (nI k)), none, none, none] [] (jj_m (j3_s s L a b)) 0 0 (some (.int 0)) (jj_m (j3_s s L (tk_t (tx_sg s) L (tk_t (tx_sg s) L (tk_t (tx_sg s) L b).2).2).1 (tk_t (tx_sg s) L (tk_t (tx_sg s) L (tk_t (tx_sg s) L b).2).2).2))
                refine jj_aload_n dX3_readLine_0 rfl ?_
                refine jj_callV (M2 := m3_nextToken) dX3_readLine_1 ml3_47 tm3_nextToken (ev3_nextToken_t (s := s) (L := L) (a := a) (b := b) hb hL) rfl rfl rfl rfl rfl (by omega) (Nat.le_of_ble_eq_true rfl) ?_
                refine jj_aload_n dX3_readLine_4 rfl ?_
                refine jj_callV (M2 := m3_wordHere) dX3_readLine_5 ml3_54 tm3_wordHere (ev3_wordHere (s := s) (L := L) (a := (tk_t (tx_sg s) L b).1) (b := (tk_t (tx_sg s) L b).2) h1.2.1 h1.2.2 hL) rfl rfl rfl rfl rfl (by omega) (Nat.le_of_ble_eq_true rfl) ?_
                rw [hw8]
                refine jj_istore_n dX3_readLine_8 rfl (by decide) rfl ?_
                refine jj_iconst (v := 0) dX3_readLine_9 (by decide) ?_
                refine jj_istore_n dX3_readLine_10 rfl (by decide) rfl ?_
                refine jj_iconst (v := 0) dX3_readLine_11 (by decide) ?_
                refine jj_istore dX3_readLine_12 (by decide) rfl ?_
                refine jj_iload_n dX3_readLine_14 rfl ?_
                refine jj_iconst (v := (-1)) dX3_readLine_15 (by decide) ?_
                refine jj_icmp_ne (tgt := 21) dX3_readLine_16 (by decide) (fun _ => ?_) (fun zz => absurd zz (by decide))
                refine jj_iload_n dX3_readLine_21 rfl ?_
                refine jj_bipush (v := 7) dX3_readLine_22 (by decide) ?_
                refine jj_icmp_eq (tgt := 41) dX3_readLine_24 (by decide) (fun zz => absurd zz (by decide)) (fun _ => ?_)
                refine jj_aload_n dX3_readLine_27 rfl ?_
                refine jj_bipush (v := 12) dX3_readLine_28 (by decide) ?_
                refine jj_callV (M2 := m3_nextNumber) dX3_readLine_30 ml3_58 tm3_nextNumber (ev3_nextNumber (s := s) (L := L) (a := (tk_t (tx_sg s) L b).1) (b := (tk_t (tx_sg s) L b).2) 12 h1.2.2 hL) rfl rfl rfl rfl rfl (by omega) (Nat.le_of_ble_eq_true rfl) ?_
                rw [hf']
                refine jj_istore_n dX3_readLine_33 rfl (by decide) rfl ?_
                refine jj_iload_n dX3_readLine_34 rfl ?_
                refine jj_iconst (v := (-1)) dX3_readLine_35 (by decide) ?_
                refine jj_icmp_ne (tgt := 41) dX3_readLine_36 (by decide) (fun _ => ?_) (fun zz => absurd zz hfn)
                refine jj_iload_n dX3_readLine_41 rfl ?_
                refine jj_iconst (v := 4) dX3_readLine_42 (by decide) ?_
                refine jj_icmp_eq (tgt := 51) dX3_readLine_43 (by decide) (fun zz => absurd zz (by decide)) (fun _ => ?_)
                refine jj_iload_n dX3_readLine_46 rfl ?_
                refine jj_iconst (v := 5) dX3_readLine_47 (by decide) ?_
                refine jj_icmp_ne (tgt := 71) dX3_readLine_48 (by decide) (fun zz => absurd rfl zz) (fun _ => ?_)
                refine jj_aload_n dX3_readLine_51 rfl ?_
                refine jj_bipush (v := 12) dX3_readLine_52 (by decide) ?_
                refine jj_callV (M2 := m3_nextNumber) dX3_readLine_54 ml3_58 tm3_nextNumber (ev3_nextNumber (s := s) (L := L) (a := (tk_t (tx_sg s) L (tk_t (tx_sg s) L b).2).1) (b := (tk_t (tx_sg s) L (tk_t (tx_sg s) L b).2).2) 12 h2.2.2 hL) rfl rfl rfl rfl rfl (by omega) (Nat.le_of_ble_eq_true rfl) ?_
                rw [hg']
                refine jj_istore dX3_readLine_57 (by decide) rfl ?_
                refine jj_iload_n dX3_readLine_59 rfl ?_
                refine jj_iload dX3_readLine_60 rfl ?_
                refine jj_callS (M2 := m0_sideTo) dX3_readLine_62 ml3_61 tm0_sideTo (ev0_sideTo_n hf12) rfl rfl (by omega) (Nat.le_of_ble_eq_true rfl) ?_
                refine jj_iconst (v := (-1)) dX3_readLine_65 (by decide) ?_
                refine jj_icmp_ne (tgt := 71) dX3_readLine_66 (by decide) (fun zz => absurd rfl zz) (fun _ => ?_)
                refine jj_iconst (v := 0) dX3_readLine_69 (by decide) ?_
                exact jj_leaf dX3_readLine_70 rfl rfl
              · have hg' : tk_n (tx_sg s) (tk_t (tx_sg s) L (tk_t (tx_sg s) L (tk_t (tx_sg s) L b).2).2).1 (tk_t (tx_sg s) L (tk_t (tx_sg s) L (tk_t (tx_sg s) L b).2).2).2 12 = nI g := hg
                have hsd : jb_sdI (nI f) (nI g) = jb_sd f g := by unfold jb_sdI; rw [if_neg (jb_nm1 (by omega)), nI_clamp (by omega), nI_clamp (by omega)]
                by_cases hs : jb_sd f g = -1
                · skip
                  have hR : tk_l (tx_sg s) L b = (false, (tk_t (tx_sg s) L (tk_t (tx_sg s) L (tk_t (tx_sg s) L b).2).2), 5, nI f, nI g) := by rw [eL3, hg']; unfold tk_lf; rw [hsd, if_pos hs]
                  rw [hR]
                  show jj_Go G m3_readLine 7 0 [some (.ref 1), some (.int (nI k)), none, none, none] [] (jj_m (j3_s s L a b)) 0 0 (some (.int 0)) (jj_m (j3_s s L (tk_t (tx_sg s) L (tk_t (tx_sg s) L (tk_t (tx_sg s) L b).2).2).1 (tk_t (tx_sg s) L (tk_t (tx_sg s) L (tk_t (tx_sg s) L b).2).2).2))
                  refine jj_aload_n dX3_readLine_0 rfl ?_
                  refine jj_callV (M2 := m3_nextToken) dX3_readLine_1 ml3_47 tm3_nextToken (ev3_nextToken_t (s := s) (L := L) (a := a) (b := b) hb hL) rfl rfl rfl rfl rfl (by omega) (Nat.le_of_ble_eq_true rfl) ?_
                  refine jj_aload_n dX3_readLine_4 rfl ?_
                  refine jj_callV (M2 := m3_wordHere) dX3_readLine_5 ml3_54 tm3_wordHere (ev3_wordHere (s := s) (L := L) (a := (tk_t (tx_sg s) L b).1) (b := (tk_t (tx_sg s) L b).2) h1.2.1 h1.2.2 hL) rfl rfl rfl rfl rfl (by omega) (Nat.le_of_ble_eq_true rfl) ?_
                  rw [hw8]
                  refine jj_istore_n dX3_readLine_8 rfl (by decide) rfl ?_
                  refine jj_iconst (v := 0) dX3_readLine_9 (by decide) ?_
                  refine jj_istore_n dX3_readLine_10 rfl (by decide) rfl ?_
                  refine jj_iconst (v := 0) dX3_readLine_11 (by decide) ?_
                  refine jj_istore dX3_readLine_12 (by decide) rfl ?_
                  refine jj_iload_n dX3_readLine_14 rfl ?_
                  refine jj_iconst (v := (-1)) dX3_readLine_15 (by decide) ?_
                  refine jj_icmp_ne (tgt := 21) dX3_readLine_16 (by decide) (fun _ => ?_) (fun zz => absurd zz (by decide))
                  refine jj_iload_n dX3_readLine_21 rfl ?_
                  refine jj_bipush (v := 7) dX3_readLine_22 (by decide) ?_
                  refine jj_icmp_eq (tgt := 41) dX3_readLine_24 (by decide) (fun zz => absurd zz (by decide)) (fun _ => ?_)
                  refine jj_aload_n dX3_readLine_27 rfl ?_
                  refine jj_bipush (v := 12) dX3_readLine_28 (by decide) ?_
                  refine jj_callV (M2 := m3_nextNumber) dX3_readLine_30 ml3_58 tm3_nextNumber (ev3_nextNumber (s := s) (L := L) (a := (tk_t (tx_sg s) L b).1) (b := (tk_t (tx_sg s) L b).2) 12 h1.2.2 hL) rfl rfl rfl rfl rfl (by omega) (Nat.le_of_ble_eq_true rfl) ?_
                  rw [hf']
                  refine jj_istore_n dX3_readLine_33 rfl (by decide) rfl ?_
                  refine jj_iload_n dX3_readLine_34 rfl ?_
                  refine jj_iconst (v := (-1)) dX3_readLine_35 (by decide) ?_
                  refine jj_icmp_ne (tgt := 41) dX3_readLine_36 (by decide) (fun _ => ?_) (fun zz => absurd zz hfn)
                  refine jj_iload_n dX3_readLine_41 rfl ?_
                  refine jj_iconst (v := 4) dX3_readLine_42 (by decide) ?_
                  refine jj_icmp_eq (tgt := 51) dX3_readLine_43 (by decide) (fun zz => absurd zz (by decide)) (fun _ => ?_)
                  refine jj_iload_n dX3_readLine_46 rfl ?_
                  refine jj_iconst (v := 5) dX3_readLine_47 (by decide) ?_
                  refine jj_icmp_ne (tgt := 71) dX3_readLine_48 (by decide) (fun zz => absurd rfl zz) (fun _ => ?_)
                  refine jj_aload_n dX3_readLine_51 rfl ?_
                  refine jj_bipush (v := 12) dX3_readLine_52 (by decide) ?_
                  refine jj_callV (M2 := m3_nextNumber) dX3_readLine_54 ml3_58 tm3_nextNumber (ev3_nextNumber (s := s) (L := L) (a := (tk_t (tx_sg s) L (tk_t (tx_sg s) L b).2).1) (b := (tk_t (tx_sg s) L (tk_t (tx_sg s) L b).2).2) 12 h2.2.2 hL) rfl rfl rfl rfl rfl (by omega) (Nat.le_of_ble_eq_true rfl) ?_
                  rw [hg']
                  refine jj_istore dX3_readLine_57 (by decide) rfl ?_
                  refine jj_iload_n dX3_readLine_59 rfl ?_
                  refine jj_iload dX3_readLine_60 rfl ?_
                  refine jj_callS (M2 := m0_sideTo) dX3_readLine_62 ml3_61 tm0_sideTo (ev0_sideTo hf12 hg12) rfl rfl (by omega) (Nat.le_of_ble_eq_true rfl) ?_
                  refine jj_iconst (v := (-1)) dX3_readLine_65 (by decide) ?_
                  refine jj_icmp_ne (tgt := 71) dX3_readLine_66 (by decide) (fun zz => absurd hs zz) (fun _ => ?_)
                  refine jj_iconst (v := 0) dX3_readLine_69 (by decide) ?_
                  exact jj_leaf dX3_readLine_70 rfl rfl
                · skip
                  have hR : tk_l (tx_sg s) L b = (true, (tk_t (tx_sg s) L (tk_t (tx_sg s) L (tk_t (tx_sg s) L b).2).2), 5, nI f, nI g) := by rw [eL3, hg']; unfold tk_lf; rw [hsd, if_neg hs]
                  rw [hR]
                  show jj_Go G m3_readLine 7 0 [some (.ref 1), some (.int (nI k)), none, none, none] [] (jj_m (j3_s s L a b)) 0 0 (some (.int 1)) (jj_m (j3_s (j3_w s k (nI 5) (nI f) (nI g)) L (tk_t (tx_sg s) L (tk_t (tx_sg s) L (tk_t (tx_sg s) L b).2).2).1 (tk_t (tx_sg s) L (tk_t (tx_sg s) L (tk_t (tx_sg s) L b).2).2).2))
                  refine jj_aload_n dX3_readLine_0 rfl ?_
                  refine jj_callV (M2 := m3_nextToken) dX3_readLine_1 ml3_47 tm3_nextToken (ev3_nextToken_t (s := s) (L := L) (a := a) (b := b) hb hL) rfl rfl rfl rfl rfl (by omega) (Nat.le_of_ble_eq_true rfl) ?_
                  refine jj_aload_n dX3_readLine_4 rfl ?_
                  refine jj_callV (M2 := m3_wordHere) dX3_readLine_5 ml3_54 tm3_wordHere (ev3_wordHere (s := s) (L := L) (a := (tk_t (tx_sg s) L b).1) (b := (tk_t (tx_sg s) L b).2) h1.2.1 h1.2.2 hL) rfl rfl rfl rfl rfl (by omega) (Nat.le_of_ble_eq_true rfl) ?_
                  rw [hw8]
                  refine jj_istore_n dX3_readLine_8 rfl (by decide) rfl ?_
                  refine jj_iconst (v := 0) dX3_readLine_9 (by decide) ?_
                  refine jj_istore_n dX3_readLine_10 rfl (by decide) rfl ?_
                  refine jj_iconst (v := 0) dX3_readLine_11 (by decide) ?_
                  refine jj_istore dX3_readLine_12 (by decide) rfl ?_
                  refine jj_iload_n dX3_readLine_14 rfl ?_
                  refine jj_iconst (v := (-1)) dX3_readLine_15 (by decide) ?_
                  refine jj_icmp_ne (tgt := 21) dX3_readLine_16 (by decide) (fun _ => ?_) (fun zz => absurd zz (by decide))
                  refine jj_iload_n dX3_readLine_21 rfl ?_
                  refine jj_bipush (v := 7) dX3_readLine_22 (by decide) ?_
                  refine jj_icmp_eq (tgt := 41) dX3_readLine_24 (by decide) (fun zz => absurd zz (by decide)) (fun _ => ?_)
                  refine jj_aload_n dX3_readLine_27 rfl ?_
                  refine jj_bipush (v := 12) dX3_readLine_28 (by decide) ?_
                  refine jj_callV (M2 := m3_nextNumber) dX3_readLine_30 ml3_58 tm3_nextNumber (ev3_nextNumber (s := s) (L := L) (a := (tk_t (tx_sg s) L b).1) (b := (tk_t (tx_sg s) L b).2) 12 h1.2.2 hL) rfl rfl rfl rfl rfl (by omega) (Nat.le_of_ble_eq_true rfl) ?_
                  rw [hf']
                  refine jj_istore_n dX3_readLine_33 rfl (by decide) rfl ?_
                  refine jj_iload_n dX3_readLine_34 rfl ?_
                  refine jj_iconst (v := (-1)) dX3_readLine_35 (by decide) ?_
                  refine jj_icmp_ne (tgt := 41) dX3_readLine_36 (by decide) (fun _ => ?_) (fun zz => absurd zz hfn)
                  refine jj_iload_n dX3_readLine_41 rfl ?_
                  refine jj_iconst (v := 4) dX3_readLine_42 (by decide) ?_
                  refine jj_icmp_eq (tgt := 51) dX3_readLine_43 (by decide) (fun zz => absurd zz (by decide)) (fun _ => ?_)
                  refine jj_iload_n dX3_readLine_46 rfl ?_
                  refine jj_iconst (v := 5) dX3_readLine_47 (by decide) ?_
                  refine jj_icmp_ne (tgt := 71) dX3_readLine_48 (by decide) (fun zz => absurd rfl zz) (fun _ => ?_)
                  refine jj_aload_n dX3_readLine_51 rfl ?_
                  refine jj_bipush (v := 12) dX3_readLine_52 (by decide) ?_
                  refine jj_callV (M2 := m3_nextNumber) dX3_readLine_54 ml3_58 tm3_nextNumber (ev3_nextNumber (s := s) (L := L) (a := (tk_t (tx_sg s) L (tk_t (tx_sg s) L b).2).1) (b := (tk_t (tx_sg s) L (tk_t (tx_sg s) L b).2).2) 12 h2.2.2 hL) rfl rfl rfl rfl rfl (by omega) (Nat.le_of_ble_eq_true rfl) ?_
                  rw [hg']
                  refine jj_istore dX3_readLine_57 (by decide) rfl ?_
                  refine jj_iload_n dX3_readLine_59 rfl ?_
                  refine jj_iload dX3_readLine_60 rfl ?_
                  refine jj_callS (M2 := m0_sideTo) dX3_readLine_62 ml3_61 tm0_sideTo (ev0_sideTo hf12 hg12) rfl rfl (by omega) (Nat.le_of_ble_eq_true rfl) ?_
                  refine jj_iconst (v := (-1)) dX3_readLine_65 (by decide) ?_
                  refine jj_icmp_ne (tgt := 71) dX3_readLine_66 (by decide) (fun _ => ?_) (fun zz => absurd zz hs)
                  refine jj_iload_n dX3_readLine_71 rfl ?_
                  refine jj_bipush (v := 6) dX3_readLine_72 (by decide) ?_
                  refine jj_icmp_ne (tgt := 92) dX3_readLine_74 (by decide) (fun _ => ?_) (fun zz => absurd zz (by decide))
                  refine jj_aload_n dX3_readLine_92 rfl ?_
                  refine jj_iload_n dX3_readLine_93 rfl ?_
                  refine jj_iload_n dX3_readLine_94 rfl ?_
                  refine jj_iload_n dX3_readLine_95 rfl ?_
                  refine jj_iload dX3_readLine_96 rfl ?_
                  refine jj_callV (M2 := m3_setLine) dX3_readLine_98 ml3_67 tm3_setLine (ev3_setLine (s := j3_s s L (tk_t (tx_sg s) L (tk_t (tx_sg s) L (tk_t (tx_sg s) L b).2).2).1 (tk_t (tx_sg s) L (tk_t (tx_sg s) L (tk_t (tx_sg s) L b).2).2).2) (nI 5) (nI f) (nI g) hk) rfl rfl rfl rfl rfl (by omega) (Nat.le_of_ble_eq_true rfl) ?_
                  refine jj_iconst (v := 1) dX3_readLine_101 (by decide) ?_
                  exact jj_leaf dX3_readLine_102 rfl rfl
          · skip
            have hR : tk_l (tx_sg s) L b = (true, (tk_t (tx_sg s) L (tk_t (tx_sg s) L b).2), w, nI f, 0) := by rw [eL2, hf']; unfold tk_ld; rw [if_neg hfn, if_neg w45, if_neg w6]
            rw [hR]
            show jj_Go G m3_readLine 7 0 [some (.ref 1), some (.int (nI k)), none, none, none] [] (jj_m (j3_s s L a b)) 0 0 (some (.int 1)) (jj_m (j3_s (j3_w s k (nI w) (nI f) 0) L (tk_t (tx_sg s) L (tk_t (tx_sg s) L b).2).1 (tk_t (tx_sg s) L (tk_t (tx_sg s) L b).2).2))
            refine jj_aload_n dX3_readLine_0 rfl ?_
            refine jj_callV (M2 := m3_nextToken) dX3_readLine_1 ml3_47 tm3_nextToken (ev3_nextToken_t (s := s) (L := L) (a := a) (b := b) hb hL) rfl rfl rfl rfl rfl (by omega) (Nat.le_of_ble_eq_true rfl) ?_
            refine jj_aload_n dX3_readLine_4 rfl ?_
            refine jj_callV (M2 := m3_wordHere) dX3_readLine_5 ml3_54 tm3_wordHere (ev3_wordHere (s := s) (L := L) (a := (tk_t (tx_sg s) L b).1) (b := (tk_t (tx_sg s) L b).2) h1.2.1 h1.2.2 hL) rfl rfl rfl rfl rfl (by omega) (Nat.le_of_ble_eq_true rfl) ?_
            rw [hw8]
            refine jj_istore_n dX3_readLine_8 rfl (by decide) rfl ?_
            refine jj_iconst (v := 0) dX3_readLine_9 (by decide) ?_
            refine jj_istore_n dX3_readLine_10 rfl (by decide) rfl ?_
            refine jj_iconst (v := 0) dX3_readLine_11 (by decide) ?_
            refine jj_istore dX3_readLine_12 (by decide) rfl ?_
            refine jj_iload_n dX3_readLine_14 rfl ?_
            refine jj_iconst (v := (-1)) dX3_readLine_15 (by decide) ?_
            refine jj_icmp_ne (tgt := 21) dX3_readLine_16 (by decide) (fun _ => ?_) (fun zz => absurd zz (jb_nm1 (by omega)))
            refine jj_iload_n dX3_readLine_21 rfl ?_
            refine jj_bipush (v := 7) dX3_readLine_22 (by decide) ?_
            refine jj_icmp_eq (tgt := 41) dX3_readLine_24 (by decide) (fun zz => absurd zz (fun z => absurd ((jb_inj (by omega) (by decide)).mp z) (by omega : ¬ w = 7))) (fun _ => ?_)
            refine jj_aload_n dX3_readLine_27 rfl ?_
            refine jj_bipush (v := 12) dX3_readLine_28 (by decide) ?_
            refine jj_callV (M2 := m3_nextNumber) dX3_readLine_30 ml3_58 tm3_nextNumber (ev3_nextNumber (s := s) (L := L) (a := (tk_t (tx_sg s) L b).1) (b := (tk_t (tx_sg s) L b).2) 12 h1.2.2 hL) rfl rfl rfl rfl rfl (by omega) (Nat.le_of_ble_eq_true rfl) ?_
            rw [hf']
            refine jj_istore_n dX3_readLine_33 rfl (by decide) rfl ?_
            refine jj_iload_n dX3_readLine_34 rfl ?_
            refine jj_iconst (v := (-1)) dX3_readLine_35 (by decide) ?_
            refine jj_icmp_ne (tgt := 41) dX3_readLine_36 (by decide) (fun _ => ?_) (fun zz => absurd zz hfn)
            refine jj_iload_n dX3_readLine_41 rfl ?_
            refine jj_iconst (v := 4) dX3_readLine_42 (by decide) ?_
            refine jj_icmp_eq (tgt := 51) dX3_readLine_43 (by decide) (fun zz => absurd zz (fun z => absurd ((jb_inj (by omega) (by decide)).mp z) (by omega : ¬ w = 4))) (fun _ => ?_)
            refine jj_iload_n dX3_readLine_46 rfl ?_
            refine jj_iconst (v := 5) dX3_readLine_47 (by decide) ?_
            refine jj_icmp_ne (tgt := 71) dX3_readLine_48 (by decide) (fun _ => ?_) (fun zz => absurd zz (fun z => absurd ((jb_inj (by omega) (by decide)).mp z) (by omega : ¬ w = 5)))
            refine jj_iload_n dX3_readLine_71 rfl ?_
            refine jj_bipush (v := 6) dX3_readLine_72 (by decide) ?_
            refine jj_icmp_ne (tgt := 92) dX3_readLine_74 (by decide) (fun _ => ?_) (fun zz => absurd zz (fun z => absurd ((jb_inj (by omega) (by decide)).mp z) (by omega : ¬ w = 6)))
            refine jj_aload_n dX3_readLine_92 rfl ?_
            refine jj_iload_n dX3_readLine_93 rfl ?_
            refine jj_iload_n dX3_readLine_94 rfl ?_
            refine jj_iload_n dX3_readLine_95 rfl ?_
            refine jj_iload dX3_readLine_96 rfl ?_
            refine jj_callV (M2 := m3_setLine) dX3_readLine_98 ml3_67 tm3_setLine (ev3_setLine (s := j3_s s L (tk_t (tx_sg s) L (tk_t (tx_sg s) L b).2).1 (tk_t (tx_sg s) L (tk_t (tx_sg s) L b).2).2) (nI w) (nI f) (0) hk) rfl rfl rfl rfl rfl (by omega) (Nat.le_of_ble_eq_true rfl) ?_
            refine jj_iconst (v := 1) dX3_readLine_101 (by decide) ?_
            exact jj_leaf dX3_readLine_102 rfl rfl
