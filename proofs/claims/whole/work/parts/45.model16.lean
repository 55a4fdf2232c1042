/-! THE MODEL: lines done, a town told -/
def j7_dt (s : jj_S) : jj_S := mo_tdS (mo_tfS (mo_toldS (mo_wallS s (jF (fun _ => 0) (mo_wall s) 60)) (jF (fun _ => 0) (mo_told s) 12)) 0) 0
def j7_dw (s : jj_S) (f g : Nat) (v : Int32) : jj_S := mo_wallS s (jU (jU (mo_wall s) (5 * f + jb_sdN f g) v) (5 * g + jb_sdN g f) v)
/-- a line done -/
def j7_dr (s : jj_S) (R : tkR) : jj_S :=
  if tk_i R = 7 then j7_dt s else if tk_i R = 4 then j7_dw s (jn (tk_f R)) (jn (tk_g R)) 1 else if tk_i R = 5 then j7_dw s (jn (tk_f R)) (jn (tk_g R)) 0
  else if tk_i R = 6 then mo_tdS (mo_tfS s (tk_f R)) (tk_g R) else mo_toldS s (jU (mo_told s) (jn (tk_f R)) (nI (tk_i R)))
def j7_ds (s : jj_S) (F : Nat → tkR) : Nat → jj_S
  | 0 => s
  | k + 1 => j7_dr (j7_ds s F k) (F k)
def j7_tw (s : jj_S) : jj_S := mo_iskS (mo_stS (mo_sdS (mo_fiS (mo_kindS (mo_byS s 0) (jF (mo_told s) (mo_kind s) 12)) (mo_tf s)) (mo_td s)) 0) (jU (jU (mo_isk s) 0 0) 1 0)
theorem dr_same (s : jj_S) (R : tkR) : mo_read (j7_dr s R) = mo_read s ∧ mo_ball (j7_dr s R) = mo_ball s ∧ mo_rm (j7_dr s R) = mo_rm s := by
  unfold j7_dr
  repeat' split
  all_goals exact ⟨rfl, rfl, rfl⟩
theorem ds_same (s : jj_S) (F : Nat → tkR) : ∀ k, mo_read (j7_ds s F k) = mo_read s ∧ mo_ball (j7_ds s F k) = mo_ball s ∧ mo_rm (j7_ds s F k) = mo_rm s := by
  intro k
  induction k with
  | zero => exact ⟨rfl, rfl, rfl⟩
  | succ k ih =>
    rw [j7_ds]
    obtain ⟨a, b, c⟩ := dr_same (j7_ds s F k) (F k)
    exact ⟨a.trans ih.1, b.trans ih.2.1, c.trans ih.2.2⟩
theorem jb_sd_n {f g : Nat} (h : ¬ jb_sd f g = -1) : jb_sd f g = nI (jb_sdN f g) ∧ jb_sdN f g < 5 := by
  unfold jb_sd jb_pl at h ⊢
  by_cases z : jb_sdN f g < 5
  · rw [if_pos z]; exact ⟨rfl, z⟩
  · rw [if_neg z] at h; exact absurd rfl h
theorem jb_sd_sym : ∀ f, f < 12 → ∀ g, g < 12 → ¬ jb_sd f g = -1 → ¬ jb_sd g f = -1 := by decide +kernel
set_option maxRecDepth 100000 in
set_option maxHeartbeats 2000000 in
theorem ev7_doLine {G : jj_G} {s : jj_S} {R : tkR} {w : Nat} (hb : mb_ok s) (hw : w < 34) (hok : tk_okR R) (hm : tk_mt (mo_read s) w R) : jj_Ev G m7_doLine 1 [.ref 28, .int (nI w)] (jj_m s) 0 0 (none) (jj_m (j7_dr s R)) := by
  refine jj_Ev_of (lo := [some (.ref 28), some (.int (nI w)), none, none, none]) (by decide +kernel) (Nat.le_of_ble_eq_true rfl) rfl (by trivial) ?_
  obtain ⟨h0, h1, h2⟩ := hm
  unfold j7_dr
  unfold tk_okR at hok
  generalize tk_i R = i at h0 h1 h2 hok ⊢
  generalize tk_f R = F at h1 hok ⊢
  generalize tk_g R = D at h2 hok ⊢
  rcases hok with e | ⟨e, f, hf, ef⟩ | ⟨e, f, g, hf, hg, ef, eg, hs⟩ | ⟨e, f, g, hf, hg, ef, eg⟩
  · subst e
    replace h0 : mo_read s w = 4 := h0
    rw [if_pos rfl]
    have L2 : ∀ k, k ≤ 12 → jj_Go G m7_doLine 1 83 [some (.ref 28), some (.int (nI w)), some (.int (mo_read s (w + 1))), some (.int (mo_read s (w + 2))), some (.int (nI k))] [] (jj_m (mo_toldS (mo_wallS s (jF (fun _ => 0) (mo_wall s) 60)) (jF (fun _ => 0) (mo_told s) k))) 0 0 (none) (jj_m (j7_dt s)) := by
      refine jj_up 12 (fun k hk ih => ?_) ?_
      · skip
        refine jj_iload dX7_doLine_83 rfl ?_
        refine jj_bipush (v := 12) dX7_doLine_85 (by decide) ?_
        refine jj_icmp_ge (tgt := 104) dX7_doLine_87 (by decide) (fun zz => absurd zz (jb_ge hk (by decide))) (fun _ => ?_)
        refine jj_aload_n dX7_doLine_90 rfl ?_
        refine jj_getf dX7_doLine_91 fl7_17 rfl rfl ?_
        refine jj_iload dX7_doLine_94 rfl ?_
        refine jj_iconst (v := 0) dX7_doLine_96 (by decide) ?_
        refine jv_iast dX7_doLine_97 rfl (hk) (by decide) rfl ?_
        refine jj_iinc dX7_doLine_98 rfl (jb_i k) (by decide) rfl ?_
        refine jj_goto (tgt := 83) dX7_doLine_101 (by decide) ?_
        exact jj_eq rfl rfl rfl (by rw [← jF_s' (k := k) (f := fun _ => (0 : Int32)) rfl]; rfl) ih
      · skip
        refine jj_iload dX7_doLine_83 rfl ?_
        refine jj_bipush (v := 12) dX7_doLine_85 (by decide) ?_
        refine jj_icmp_ge (tgt := 104) dX7_doLine_87 (by decide) (fun _ => ?_) (fun zz => absurd (jb_ge' (n := 12) (by decide)) zz)
        refine jj_aload_n dX7_doLine_104 rfl ?_
        refine jj_iconst (v := 0) dX7_doLine_105 (by decide) ?_
        refine jj_putf dX7_doLine_106 (fw7_150 _) rfl (Nat.le_of_ble_eq_true rfl) rfl rfl rfl ?_
        refine jj_aload_n dX7_doLine_109 rfl ?_
        refine jj_iconst (v := 0) dX7_doLine_110 (by decide) ?_
        refine jj_putf dX7_doLine_111 (fw7_153 _) rfl (Nat.le_of_ble_eq_true rfl) rfl rfl rfl ?_
        refine jj_goto (tgt := 205) dX7_doLine_114 (by decide) ?_
        exact jj_leaf dX7_doLine_205 rfl rfl
    have L1 : ∀ k, k ≤ 60 → jj_Go G m7_doLine 1 59 [some (.ref 28), some (.int (nI w)), some (.int (mo_read s (w + 1))), some (.int (mo_read s (w + 2))), some (.int (nI k))] [] (jj_m (mo_wallS s (jF (fun _ => 0) (mo_wall s) k))) 0 0 (none) (jj_m (j7_dt s)) := by
      refine jj_up 60 (fun k hk ih => ?_) ?_
      · skip
        refine jj_iload dX7_doLine_59 rfl ?_
        refine jj_bipush (v := 60) dX7_doLine_61 (by decide) ?_
        refine jj_icmp_ge (tgt := 80) dX7_doLine_63 (by decide) (fun zz => absurd zz (jb_ge hk (by decide))) (fun _ => ?_)
        refine jj_aload_n dX7_doLine_66 rfl ?_
        refine jj_getf dX7_doLine_67 fl7_13 rfl rfl ?_
        refine jj_iload dX7_doLine_70 rfl ?_
        refine jj_iconst (v := 0) dX7_doLine_72 (by decide) ?_
        refine jv_zast dX7_doLine_73 rfl (hk) (by decide) rfl ?_
        refine jj_iinc dX7_doLine_74 rfl (jb_i k) (by decide) rfl ?_
        refine jj_goto (tgt := 59) dX7_doLine_77 (by decide) ?_
        exact jj_eq rfl rfl rfl (by rw [← jF_s' (k := k) (f := fun _ => (0 : Int32)) rfl]; rfl) ih
      · skip
        refine jj_iload dX7_doLine_59 rfl ?_
        refine jj_bipush (v := 60) dX7_doLine_61 (by decide) ?_
        refine jj_icmp_ge (tgt := 80) dX7_doLine_63 (by decide) (fun _ => ?_) (fun zz => absurd (jb_ge' (n := 60) (by decide)) zz)
        refine jj_iconst (v := nI 0) dX7_doLine_80 (by decide) ?_
        refine jj_istore dX7_doLine_81 (by decide) rfl ?_
        exact jj_eq rfl rfl rfl (by rw [jF_0]; rfl) (L2 0 (by decide))
    refine jj_aload_n dX7_doLine_0 rfl ?_
    refine jj_getf dX7_doLine_1 fl7_26 rfl rfl ?_
    refine jj_iload_n dX7_doLine_4 rfl ?_
    refine jj_iconst (v := 1) dX7_doLine_5 (by decide) ?_
    refine jj_iadd (v := nI (w + 1)) dX7_doLine_6 (nI_add w 1) ?_
    refine jv_iald dX7_doLine_7 rfl (by omega) (by decide) ?_
    refine jj_istore_n dX7_doLine_8 rfl (by decide) rfl ?_
    refine jj_aload_n dX7_doLine_9 rfl ?_
    refine jj_getf dX7_doLine_10 fl7_26 rfl rfl ?_
    refine jj_iload_n dX7_doLine_13 rfl ?_
    refine jj_iconst (v := 2) dX7_doLine_14 (by decide) ?_
    refine jj_iadd (v := nI (w + 2)) dX7_doLine_15 (nI_add w 2) ?_
    refine jv_iald dX7_doLine_16 rfl (by omega) (by decide) ?_
    refine jj_istore_n dX7_doLine_17 rfl (by decide) rfl ?_
    refine jj_aload_n dX7_doLine_18 rfl ?_
    refine jj_getf dX7_doLine_19 fl7_26 rfl rfl ?_
    refine jj_iload_n dX7_doLine_22 rfl ?_
    refine jv_iald dX7_doLine_23 rfl (by omega) (by decide) ?_
    rw [show mo_read s w = 4 from h0]
    refine jj_swIn (tgt := 56) (off := 32) dX7_doLine_24 (by decide) (by decide) (by decide) (by decide) ?_
    refine jj_iconst (v := nI 0) dX7_doLine_56 (by decide) ?_
    refine jj_istore dX7_doLine_57 (by decide) rfl ?_
    exact jj_eq rfl rfl rfl (by rw [jF_0]; rfl) (L1 0 (by decide))
  · subst ef
    have h3 : mo_read s (w + 1) = nI f := h1 (by omega)
    rw [if_neg (by omega), if_neg (by omega), if_neg (by omega), if_neg (by omega), jn_n (by omega)]
    rcases (show i = 0 ∨ i = 1 ∨ i = 2 ∨ i = 3 by omega) with q | q | q | q
    · subst q
      replace h0 : mo_read s w = nI 0 := h0
      refine jj_aload_n dX7_doLine_0 rfl ?_
      refine jj_getf dX7_doLine_1 fl7_26 rfl rfl ?_
      refine jj_iload_n dX7_doLine_4 rfl ?_
      refine jj_iconst (v := 1) dX7_doLine_5 (by decide) ?_
      refine jj_iadd (v := nI (w + 1)) dX7_doLine_6 (nI_add w 1) ?_
      refine jv_iald dX7_doLine_7 rfl (by omega) (by decide) ?_
      rw [h3]
      refine jj_istore_n dX7_doLine_8 rfl (by decide) rfl ?_
      refine jj_aload_n dX7_doLine_9 rfl ?_
      refine jj_getf dX7_doLine_10 fl7_26 rfl rfl ?_
      refine jj_iload_n dX7_doLine_13 rfl ?_
      refine jj_iconst (v := 2) dX7_doLine_14 (by decide) ?_
      refine jj_iadd (v := nI (w + 2)) dX7_doLine_15 (nI_add w 2) ?_
      refine jv_iald dX7_doLine_16 rfl (by omega) (by decide) ?_
      refine jj_istore_n dX7_doLine_17 rfl (by decide) rfl ?_
      refine jj_aload_n dX7_doLine_18 rfl ?_
      refine jj_getf dX7_doLine_19 fl7_26 rfl rfl ?_
      refine jj_iload_n dX7_doLine_22 rfl ?_
      refine jv_iald dX7_doLine_23 rfl (by omega) (by decide) ?_
      rw [show mo_read s w = nI 0 from h0]
      refine jj_swOut (tgt := 193) dX7_doLine_24 (by decide) (by decide) ?_
      refine jj_aload_n dX7_doLine_193 rfl ?_
      refine jj_getf dX7_doLine_194 fl7_17 rfl rfl ?_
      refine jj_iload_n dX7_doLine_197 rfl ?_
      refine jj_aload_n dX7_doLine_198 rfl ?_
      refine jj_getf dX7_doLine_199 fl7_26 rfl rfl ?_
      refine jj_iload_n dX7_doLine_202 rfl ?_
      refine jv_iald dX7_doLine_203 rfl (by omega) (by decide) ?_
      rw [show mo_read s w = nI 0 from h0]
      refine jv_iast dX7_doLine_204 rfl (hf) (by decide) rfl ?_
      exact jj_leaf dX7_doLine_205 rfl rfl
    · subst q
      replace h0 : mo_read s w = nI 1 := h0
      refine jj_aload_n dX7_doLine_0 rfl ?_
      refine jj_getf dX7_doLine_1 fl7_26 rfl rfl ?_
      refine jj_iload_n dX7_doLine_4 rfl ?_
      refine jj_iconst (v := 1) dX7_doLine_5 (by decide) ?_
      refine jj_iadd (v := nI (w + 1)) dX7_doLine_6 (nI_add w 1) ?_
      refine jv_iald dX7_doLine_7 rfl (by omega) (by decide) ?_
      rw [h3]
      refine jj_istore_n dX7_doLine_8 rfl (by decide) rfl ?_
      refine jj_aload_n dX7_doLine_9 rfl ?_
      refine jj_getf dX7_doLine_10 fl7_26 rfl rfl ?_
      refine jj_iload_n dX7_doLine_13 rfl ?_
      refine jj_iconst (v := 2) dX7_doLine_14 (by decide) ?_
      refine jj_iadd (v := nI (w + 2)) dX7_doLine_15 (nI_add w 2) ?_
      refine jv_iald dX7_doLine_16 rfl (by omega) (by decide) ?_
      refine jj_istore_n dX7_doLine_17 rfl (by decide) rfl ?_
      refine jj_aload_n dX7_doLine_18 rfl ?_
      refine jj_getf dX7_doLine_19 fl7_26 rfl rfl ?_
      refine jj_iload_n dX7_doLine_22 rfl ?_
      refine jv_iald dX7_doLine_23 rfl (by omega) (by decide) ?_
      rw [show mo_read s w = nI 1 from h0]
      refine jj_swOut (tgt := 193) dX7_doLine_24 (by decide) (by decide) ?_
      refine jj_aload_n dX7_doLine_193 rfl ?_
      refine jj_getf dX7_doLine_194 fl7_17 rfl rfl ?_
      refine jj_iload_n dX7_doLine_197 rfl ?_
      refine jj_aload_n dX7_doLine_198 rfl ?_
      refine jj_getf dX7_doLine_199 fl7_26 rfl rfl ?_
      refine jj_iload_n dX7_doLine_202 rfl ?_
      refine jv_iald dX7_doLine_203 rfl (by omega) (by decide) ?_
      rw [show mo_read s w = nI 1 from h0]
      refine jv_iast dX7_doLine_204 rfl (hf) (by decide) rfl ?_
      exact jj_leaf dX7_doLine_205 rfl rfl
    · subst q
      replace h0 : mo_read s w = nI 2 := h0
      refine jj_aload_n dX7_doLine_0 rfl ?_
      refine jj_getf dX7_doLine_1 fl7_26 rfl rfl ?_
      refine jj_iload_n dX7_doLine_4 rfl ?_
      refine jj_iconst (v := 1) dX7_doLine_5 (by decide) ?_
      refine jj_iadd (v := nI (w + 1)) dX7_doLine_6 (nI_add w 1) ?_
      refine jv_iald dX7_doLine_7 rfl (by omega) (by decide) ?_
      rw [h3]
      refine jj_istore_n dX7_doLine_8 rfl (by decide) rfl ?_
      refine jj_aload_n dX7_doLine_9 rfl ?_
      refine jj_getf dX7_doLine_10 fl7_26 rfl rfl ?_
      refine jj_iload_n dX7_doLine_13 rfl ?_
      refine jj_iconst (v := 2) dX7_doLine_14 (by decide) ?_
      refine jj_iadd (v := nI (w + 2)) dX7_doLine_15 (nI_add w 2) ?_
      refine jv_iald dX7_doLine_16 rfl (by omega) (by decide) ?_
      refine jj_istore_n dX7_doLine_17 rfl (by decide) rfl ?_
      refine jj_aload_n dX7_doLine_18 rfl ?_
      refine jj_getf dX7_doLine_19 fl7_26 rfl rfl ?_
      refine jj_iload_n dX7_doLine_22 rfl ?_
      refine jv_iald dX7_doLine_23 rfl (by omega) (by decide) ?_
      rw [show mo_read s w = nI 2 from h0]
      refine jj_swOut (tgt := 193) dX7_doLine_24 (by decide) (by decide) ?_
      refine jj_aload_n dX7_doLine_193 rfl ?_
      refine jj_getf dX7_doLine_194 fl7_17 rfl rfl ?_
      refine jj_iload_n dX7_doLine_197 rfl ?_
      refine jj_aload_n dX7_doLine_198 rfl ?_
      refine jj_getf dX7_doLine_199 fl7_26 rfl rfl ?_
      refine jj_iload_n dX7_doLine_202 rfl ?_
      refine jv_iald dX7_doLine_203 rfl (by omega) (by decide) ?_
      rw [show mo_read s w = nI 2 from h0]
      refine jv_iast dX7_doLine_204 rfl (hf) (by decide) rfl ?_
      exact jj_leaf dX7_doLine_205 rfl rfl
    · subst q
      replace h0 : mo_read s w = nI 3 := h0
      refine jj_aload_n dX7_doLine_0 rfl ?_
      refine jj_getf dX7_doLine_1 fl7_26 rfl rfl ?_
      refine jj_iload_n dX7_doLine_4 rfl ?_
      refine jj_iconst (v := 1) dX7_doLine_5 (by decide) ?_
      refine jj_iadd (v := nI (w + 1)) dX7_doLine_6 (nI_add w 1) ?_
      refine jv_iald dX7_doLine_7 rfl (by omega) (by decide) ?_
      rw [h3]
      refine jj_istore_n dX7_doLine_8 rfl (by decide) rfl ?_
      refine jj_aload_n dX7_doLine_9 rfl ?_
      refine jj_getf dX7_doLine_10 fl7_26 rfl rfl ?_
      refine jj_iload_n dX7_doLine_13 rfl ?_
      refine jj_iconst (v := 2) dX7_doLine_14 (by decide) ?_
      refine jj_iadd (v := nI (w + 2)) dX7_doLine_15 (nI_add w 2) ?_
      refine jv_iald dX7_doLine_16 rfl (by omega) (by decide) ?_
      refine jj_istore_n dX7_doLine_17 rfl (by decide) rfl ?_
      refine jj_aload_n dX7_doLine_18 rfl ?_
      refine jj_getf dX7_doLine_19 fl7_26 rfl rfl ?_
      refine jj_iload_n dX7_doLine_22 rfl ?_
      refine jv_iald dX7_doLine_23 rfl (by omega) (by decide) ?_
      rw [show mo_read s w = nI 3 from h0]
      refine jj_swOut (tgt := 193) dX7_doLine_24 (by decide) (by decide) ?_
      refine jj_aload_n dX7_doLine_193 rfl ?_
      refine jj_getf dX7_doLine_194 fl7_17 rfl rfl ?_
      refine jj_iload_n dX7_doLine_197 rfl ?_
      refine jj_aload_n dX7_doLine_198 rfl ?_
      refine jj_getf dX7_doLine_199 fl7_26 rfl rfl ?_
      refine jj_iload_n dX7_doLine_202 rfl ?_
      refine jv_iald dX7_doLine_203 rfl (by omega) (by decide) ?_
      rw [show mo_read s w = nI 3 from h0]
      refine jv_iast dX7_doLine_204 rfl (hf) (by decide) rfl ?_
      exact jj_leaf dX7_doLine_205 rfl rfl
  · subst ef
    subst eg
    have h3 : mo_read s (w + 1) = nI f := h1 (by omega)
    have h4 : mo_read s (w + 2) = nI g := h2 (by omega)
    obtain ⟨s1, s2⟩ := jb_sd_n hs
    obtain ⟨s3, s4⟩ := jb_sd_n (jb_sd_sym f hf g hg hs)
    have c1 := ev7_sideOf (G := G) hb hf hg
    rw [s1] at c1
    have c2 : ∀ X, jj_Ev G m7_sideOf 0 [.ref 28, .int (nI g), .int (nI f)] (jj_m (mo_wallS s X)) 0 0 (some (.int (nI (jb_sdN g f)))) (jj_m (mo_wallS s X)) := fun X => by
      have c2 := ev7_sideOf (G := G) (s := mo_wallS s X) hb hg hf
      rwa [s3] at c2
    rw [if_neg (by omega), jn_n (by omega), jn_n (by omega)]
    unfold j7_dw
    generalize jb_sdN f g = a at s2 c1 ⊢
    generalize jb_sdN g f = b at s4 c2 ⊢
    rcases e with q | q
    · subst q
      replace h0 : mo_read s w = 5 := h0
      rw [if_pos rfl]
      refine jj_aload_n dX7_doLine_0 rfl ?_
      refine jj_getf dX7_doLine_1 fl7_26 rfl rfl ?_
      refine jj_iload_n dX7_doLine_4 rfl ?_
      refine jj_iconst (v := 1) dX7_doLine_5 (by decide) ?_
      refine jj_iadd (v := nI (w + 1)) dX7_doLine_6 (nI_add w 1) ?_
      refine jv_iald dX7_doLine_7 rfl (by omega) (by decide) ?_
      rw [h3]
      refine jj_istore_n dX7_doLine_8 rfl (by decide) rfl ?_
      refine jj_aload_n dX7_doLine_9 rfl ?_
      refine jj_getf dX7_doLine_10 fl7_26 rfl rfl ?_
      refine jj_iload_n dX7_doLine_13 rfl ?_
      refine jj_iconst (v := 2) dX7_doLine_14 (by decide) ?_
      refine jj_iadd (v := nI (w + 2)) dX7_doLine_15 (nI_add w 2) ?_
      refine jv_iald dX7_doLine_16 rfl (by omega) (by decide) ?_
      rw [h4]
      refine jj_istore_n dX7_doLine_17 rfl (by decide) rfl ?_
      refine jj_aload_n dX7_doLine_18 rfl ?_
      refine jj_getf dX7_doLine_19 fl7_26 rfl rfl ?_
      refine jj_iload_n dX7_doLine_22 rfl ?_
      refine jv_iald dX7_doLine_23 rfl (by omega) (by decide) ?_
      rw [show mo_read s w = 5 from h0]
      refine jj_swIn (tgt := 117) (off := 93) dX7_doLine_24 (by decide) (by decide) (by decide) (by decide) ?_
      refine jj_aload_n dX7_doLine_117 rfl ?_
      refine jj_getf dX7_doLine_118 fl7_13 rfl rfl ?_
      refine jj_iconst (v := nI 5) dX7_doLine_121 (by decide) ?_
      refine jj_iload_n dX7_doLine_122 rfl ?_
      refine jj_imul dX7_doLine_123 (j4_mul 5 f) ?_
      refine jj_aload_n dX7_doLine_124 rfl ?_
      refine jj_iload_n dX7_doLine_125 rfl ?_
      refine jj_iload_n dX7_doLine_126 rfl ?_
      refine jj_callV (M2 := m7_sideOf) dX7_doLine_127 ml7_117 tm7_sideOf (c1) rfl rfl rfl rfl rfl (by omega) (Nat.le_of_ble_eq_true rfl) ?_
      refine jj_iadd dX7_doLine_130 (nI_add (5 * f) a) ?_
      refine jj_aload_n dX7_doLine_131 rfl ?_
      refine jj_getf dX7_doLine_132 fl7_26 rfl rfl ?_
      refine jj_iload_n dX7_doLine_135 rfl ?_
      refine jv_iald dX7_doLine_136 rfl (by omega) (by decide) ?_
      rw [show mo_read s w = 5 from h0]
      refine jj_iconst (v := 5) dX7_doLine_137 (by decide) ?_
      refine jj_icmp_ne (tgt := 145) dX7_doLine_138 (by decide) (fun zz => absurd rfl zz) (fun _ => ?_)
      refine jj_iconst (v := 1) dX7_doLine_141 (by decide) ?_
      refine jj_goto (tgt := 146) dX7_doLine_142 (by decide) ?_
      refine jv_zast dX7_doLine_146 rfl (by omega) (by decide) rfl ?_
      refine jj_eq rfl rfl rfl (show _ = jj_m (mo_wallS s (jU (mo_wall s) (5 * f + a) 1)) from rfl) ?_
      refine jj_aload_n dX7_doLine_147 rfl ?_
      refine jj_getf dX7_doLine_148 fl7_13 rfl rfl ?_
      refine jj_iconst (v := nI 5) dX7_doLine_151 (by decide) ?_
      refine jj_iload_n dX7_doLine_152 rfl ?_
      refine jj_imul dX7_doLine_153 (j4_mul 5 g) ?_
      refine jj_aload_n dX7_doLine_154 rfl ?_
      refine jj_iload_n dX7_doLine_155 rfl ?_
      refine jj_iload_n dX7_doLine_156 rfl ?_
      refine jj_callV (M2 := m7_sideOf) dX7_doLine_157 ml7_117 tm7_sideOf (c2 (jU (mo_wall s) (5 * f + a) 1)) rfl rfl rfl rfl rfl (by omega) (Nat.le_of_ble_eq_true rfl) ?_
      refine jj_iadd dX7_doLine_160 (nI_add (5 * g) b) ?_
      refine jj_aload_n dX7_doLine_161 rfl ?_
      refine jj_getf dX7_doLine_162 fl7_26 rfl rfl ?_
      refine jj_iload_n dX7_doLine_165 rfl ?_
      refine jv_iald dX7_doLine_166 rfl (by omega) (by decide) ?_
      rw [show mo_read (mo_wallS s (jU (mo_wall s) (5 * f + a) 1)) w = 5 from h0]
      refine jj_iconst (v := 5) dX7_doLine_167 (by decide) ?_
      refine jj_icmp_ne (tgt := 175) dX7_doLine_168 (by decide) (fun zz => absurd rfl zz) (fun _ => ?_)
      refine jj_iconst (v := 1) dX7_doLine_171 (by decide) ?_
      refine jj_goto (tgt := 176) dX7_doLine_172 (by decide) ?_
      refine jv_zast dX7_doLine_176 rfl (by omega) (by decide) rfl ?_
      refine jj_goto (tgt := 205) dX7_doLine_177 (by decide) ?_
      exact jj_leaf dX7_doLine_205 rfl rfl
    · subst q
      replace h0 : mo_read s w = 6 := h0
      rw [if_neg (by decide), if_pos rfl]
      refine jj_aload_n dX7_doLine_0 rfl ?_
      refine jj_getf dX7_doLine_1 fl7_26 rfl rfl ?_
      refine jj_iload_n dX7_doLine_4 rfl ?_
      refine jj_iconst (v := 1) dX7_doLine_5 (by decide) ?_
      refine jj_iadd (v := nI (w + 1)) dX7_doLine_6 (nI_add w 1) ?_
      refine jv_iald dX7_doLine_7 rfl (by omega) (by decide) ?_
      rw [h3]
      refine jj_istore_n dX7_doLine_8 rfl (by decide) rfl ?_
      refine jj_aload_n dX7_doLine_9 rfl ?_
      refine jj_getf dX7_doLine_10 fl7_26 rfl rfl ?_
      refine jj_iload_n dX7_doLine_13 rfl ?_
      refine jj_iconst (v := 2) dX7_doLine_14 (by decide) ?_
      refine jj_iadd (v := nI (w + 2)) dX7_doLine_15 (nI_add w 2) ?_
      refine jv_iald dX7_doLine_16 rfl (by omega) (by decide) ?_
      rw [h4]
      refine jj_istore_n dX7_doLine_17 rfl (by decide) rfl ?_
      refine jj_aload_n dX7_doLine_18 rfl ?_
      refine jj_getf dX7_doLine_19 fl7_26 rfl rfl ?_
      refine jj_iload_n dX7_doLine_22 rfl ?_
      refine jv_iald dX7_doLine_23 rfl (by omega) (by decide) ?_
      rw [show mo_read s w = 6 from h0]
      refine jj_swIn (tgt := 117) (off := 93) dX7_doLine_24 (by decide) (by decide) (by decide) (by decide) ?_
      refine jj_aload_n dX7_doLine_117 rfl ?_
      refine jj_getf dX7_doLine_118 fl7_13 rfl rfl ?_
      refine jj_iconst (v := nI 5) dX7_doLine_121 (by decide) ?_
      refine jj_iload_n dX7_doLine_122 rfl ?_
      refine jj_imul dX7_doLine_123 (j4_mul 5 f) ?_
      refine jj_aload_n dX7_doLine_124 rfl ?_
      refine jj_iload_n dX7_doLine_125 rfl ?_
      refine jj_iload_n dX7_doLine_126 rfl ?_
      refine jj_callV (M2 := m7_sideOf) dX7_doLine_127 ml7_117 tm7_sideOf (c1) rfl rfl rfl rfl rfl (by omega) (Nat.le_of_ble_eq_true rfl) ?_
      refine jj_iadd dX7_doLine_130 (nI_add (5 * f) a) ?_
      refine jj_aload_n dX7_doLine_131 rfl ?_
      refine jj_getf dX7_doLine_132 fl7_26 rfl rfl ?_
      refine jj_iload_n dX7_doLine_135 rfl ?_
      refine jv_iald dX7_doLine_136 rfl (by omega) (by decide) ?_
      rw [show mo_read s w = 6 from h0]
      refine jj_iconst (v := 5) dX7_doLine_137 (by decide) ?_
      refine jj_icmp_ne (tgt := 145) dX7_doLine_138 (by decide) (fun _ => ?_) (fun zz => absurd zz (by decide))
      refine jj_iconst (v := 0) dX7_doLine_145 (by decide) ?_
      refine jv_zast dX7_doLine_146 rfl (by omega) (by decide) rfl ?_
      refine jj_eq rfl rfl rfl (show _ = jj_m (mo_wallS s (jU (mo_wall s) (5 * f + a) 0)) from rfl) ?_
      refine jj_aload_n dX7_doLine_147 rfl ?_
      refine jj_getf dX7_doLine_148 fl7_13 rfl rfl ?_
      refine jj_iconst (v := nI 5) dX7_doLine_151 (by decide) ?_
      refine jj_iload_n dX7_doLine_152 rfl ?_
      refine jj_imul dX7_doLine_153 (j4_mul 5 g) ?_
      refine jj_aload_n dX7_doLine_154 rfl ?_
      refine jj_iload_n dX7_doLine_155 rfl ?_
      refine jj_iload_n dX7_doLine_156 rfl ?_
      refine jj_callV (M2 := m7_sideOf) dX7_doLine_157 ml7_117 tm7_sideOf (c2 (jU (mo_wall s) (5 * f + a) 0)) rfl rfl rfl rfl rfl (by omega) (Nat.le_of_ble_eq_true rfl) ?_
      refine jj_iadd dX7_doLine_160 (nI_add (5 * g) b) ?_
      refine jj_aload_n dX7_doLine_161 rfl ?_
      refine jj_getf dX7_doLine_162 fl7_26 rfl rfl ?_
      refine jj_iload_n dX7_doLine_165 rfl ?_
      refine jv_iald dX7_doLine_166 rfl (by omega) (by decide) ?_
      rw [show mo_read (mo_wallS s (jU (mo_wall s) (5 * f + a) 0)) w = 6 from h0]
      refine jj_iconst (v := 5) dX7_doLine_167 (by decide) ?_
      refine jj_icmp_ne (tgt := 175) dX7_doLine_168 (by decide) (fun _ => ?_) (fun zz => absurd zz (by decide))
      refine jj_iconst (v := 0) dX7_doLine_175 (by decide) ?_
      refine jv_zast dX7_doLine_176 rfl (by omega) (by decide) rfl ?_
      refine jj_goto (tgt := 205) dX7_doLine_177 (by decide) ?_
      exact jj_leaf dX7_doLine_205 rfl rfl
  · subst e
    replace h0 : mo_read s w = 7 := h0
    have h3 : mo_read s (w + 1) = F := h1 (by decide)
    have h4 : mo_read s (w + 2) = D := h2 (by decide)
    rw [if_neg (by decide), if_neg (by decide), if_neg (by decide), if_pos rfl]
    refine jj_aload_n dX7_doLine_0 rfl ?_
    refine jj_getf dX7_doLine_1 fl7_26 rfl rfl ?_
    refine jj_iload_n dX7_doLine_4 rfl ?_
    refine jj_iconst (v := 1) dX7_doLine_5 (by decide) ?_
    refine jj_iadd (v := nI (w + 1)) dX7_doLine_6 (nI_add w 1) ?_
    refine jv_iald dX7_doLine_7 rfl (by omega) (by decide) ?_
    rw [h3]
    refine jj_istore_n dX7_doLine_8 rfl (by decide) rfl ?_
    refine jj_aload_n dX7_doLine_9 rfl ?_
    refine jj_getf dX7_doLine_10 fl7_26 rfl rfl ?_
    refine jj_iload_n dX7_doLine_13 rfl ?_
    refine jj_iconst (v := 2) dX7_doLine_14 (by decide) ?_
    refine jj_iadd (v := nI (w + 2)) dX7_doLine_15 (nI_add w 2) ?_
    refine jv_iald dX7_doLine_16 rfl (by omega) (by decide) ?_
    rw [h4]
    refine jj_istore_n dX7_doLine_17 rfl (by decide) rfl ?_
    refine jj_aload_n dX7_doLine_18 rfl ?_
    refine jj_getf dX7_doLine_19 fl7_26 rfl rfl ?_
    refine jj_iload_n dX7_doLine_22 rfl ?_
    refine jv_iald dX7_doLine_23 rfl (by omega) (by decide) ?_
    rw [show mo_read s w = 7 from h0]
    refine jj_swIn (tgt := 180) (off := 156) dX7_doLine_24 (by decide) (by decide) (by decide) (by decide) ?_
    refine jj_aload_n dX7_doLine_180 rfl ?_
    refine jj_iload_n dX7_doLine_181 rfl ?_
    refine jj_putf dX7_doLine_182 (fw7_150 _) rfl (Nat.le_of_ble_eq_true rfl) rfl rfl rfl ?_
    refine jj_aload_n dX7_doLine_185 rfl ?_
    refine jj_iload_n dX7_doLine_186 rfl ?_
    refine jj_putf dX7_doLine_187 (fw7_153 _) rfl (Nat.le_of_ble_eq_true rfl) rfl rfl rfl ?_
    refine jj_goto (tgt := 205) dX7_doLine_190 (by decide) ?_
    exact jj_leaf dX7_doLine_205 rfl rfl
set_option maxRecDepth 100000 in
set_option maxHeartbeats 2000000 in
theorem ev7_town_b {G : jj_G} {s : jj_S} {L : Nat} {X : jx_X} (hb : mb_ok s) (hL : L ≤ 200) (hr : (jx_rd (mo_text s) L 12 0 (0, X.2)).1 = false) : jj_Ev G m7_town 6 [.ref 28] (jj_m (jx s L X)) 0 0 (some (.int (-4))) (jj_m (jx (mo_rmS s (nI (jx_rd (mo_text s) L 12 0 (0, X.2)).2.1)) L (jx_rd (mo_text s) L 12 0 (0, X.2)).2.2)) := by
  refine jj_Ev_of (lo := [some (.ref 28), none]) (by decide +kernel) (Nat.le_of_ble_eq_true rfl) rfl (by trivial) ?_
  have iR := ev7_isRead (G := G) (s := s) (X := X) hb hL
  generalize jx_rd (mo_text s) L 12 0 (0, X.2) = Q at iR hr ⊢
  rw [jb_bf (fun z => by rw [hr] at z; exact absurd z (by decide))] at iR
  refine jj_aload_n dX7_town_0 rfl ?_
  refine jj_callV (M2 := m7_isRead) dX7_town_1 ml7_147 tm7_isRead (iR) rfl rfl rfl rfl rfl (by omega) (Nat.le_of_ble_eq_true rfl) ?_
  refine jj_if_ne (tgt := 10) dX7_town_4 (by decide) (fun zz => absurd rfl zz) (fun _ => ?_)
  refine jj_bipush (v := (-4)) dX7_town_7 (by decide) ?_
  exact jj_leaf dX7_town_9 rfl rfl
set_option maxRecDepth 100000 in
set_option maxHeartbeats 2000000 in
theorem ev7_town {G : jj_G} {s : jj_S} {L : Nat} {X : jx_X} {Y : jx_X} {n : Nat} {F : Nat → tkR} (hb : mb_ok s) (hL : L ≤ 200) (hr : (jx_rd (mo_text s) L 12 0 (0, X.2)).1 = true) (hn : (jx_rd (mo_text s) L 12 0 (0, X.2)).2.1 = n) (hY : (jx_rd (mo_text s) L 12 0 (0, X.2)).2.2 = Y) (hn12 : n ≤ 12) (hall : jx_all Y.2.2.2.2.2.2 n F) : jj_Ev G m7_town 6 [.ref 28] (jj_m (jx s L X)) 0 0 (some (.int (nI n))) (jj_m (j7_tw (j7_ds (jx (mo_rmS s (nI n)) L Y) F n))) := by
  refine jj_Ev_of (lo := [some (.ref 28), none]) (by decide +kernel) (Nat.le_of_ble_eq_true rfl) rfl (by trivial) ?_
  have iR := ev7_isRead (G := G) (s := s) (X := X) hb hL
  generalize jx_rd (mo_text s) L 12 0 (0, X.2) = Q at iR hr hn hY ⊢
  subst hY
  subst hn
  rw [jb_bt hr] at iR
  have hb3 : mb_ok (jx (mo_rmS s (nI Q.2.1)) L Q.2.2) := hb
  have hrm3 : mo_rm (jx (mo_rmS s (nI Q.2.1)) L Q.2.2) = nI Q.2.1 := rfl
  have hall3 : jx_all (mo_read (jx (mo_rmS s (nI Q.2.1)) L Q.2.2)) Q.2.1 F := hall
  generalize jx (mo_rmS s (nI Q.2.1)) L Q.2.2 = s3 at iR hb3 hrm3 hall3 ⊢
  generalize Q.2.1 = n at hn12 hrm3 hall3 ⊢
  obtain ⟨d1, d2, d3⟩ := ds_same s3 F n
  have L2 : jj_Go G m7_town 6 33 [some (.ref 28), some (.int (nI n))] [] (jj_m (j7_ds s3 F n)) 0 0 (some (.int (nI n))) (jj_m (j7_tw (j7_ds s3 F n))) := by
    rw [hrm3] at d3
    generalize j7_ds s3 F n = s4 at d3 ⊢
    have L : ∀ k, k ≤ 12 → jj_Go G m7_town 6 40 [some (.ref 28), some (.int (nI k))] [] (jj_m (mo_kindS (mo_byS s4 0) (jF (mo_told s4) (mo_kind s4) k))) 0 0 (some (.int (nI n))) (jj_m (j7_tw s4)) := by
      refine jj_up 12 (fun k hk ih => ?_) ?_
      · refine jj_iload_n dX7_town_40 rfl ?_
        refine jj_bipush (v := 12) dX7_town_41 (by decide) ?_
        refine jj_icmp_ge (tgt := 64) dX7_town_43 (by decide) (fun zz => absurd zz (jb_ge hk (by decide))) (fun _ => ?_)
        refine jj_aload_n dX7_town_46 rfl ?_
        refine jj_getf dX7_town_47 fl7_20 rfl rfl ?_
        refine jj_iload_n dX7_town_50 rfl ?_
        refine jj_aload_n dX7_town_51 rfl ?_
        refine jj_getf dX7_town_52 fl7_17 rfl rfl ?_
        refine jj_iload_n dX7_town_55 rfl ?_
        refine jv_iald dX7_town_56 rfl (hk) (by decide) ?_
        refine jv_iast dX7_town_57 rfl (hk) (by decide) rfl ?_
        refine jj_iinc dX7_town_58 rfl (jb_i k) (by decide) rfl ?_
        refine jj_goto (tgt := 40) dX7_town_61 (by decide) ?_
        exact jj_eq rfl rfl rfl (by rw [← jF_s' (f := mo_told s4) rfl]; rfl) ih
      · refine jj_iload_n dX7_town_40 rfl ?_
        refine jj_bipush (v := 12) dX7_town_41 (by decide) ?_
        refine jj_icmp_ge (tgt := 64) dX7_town_43 (by decide) (fun _ => ?_) (fun zz => absurd (jb_ge' (n := 12) (by decide)) zz)
        refine jj_aload_n dX7_town_64 rfl ?_
        refine jj_aload_n dX7_town_65 rfl ?_
        refine jj_getf dX7_town_66 fl7_150 rfl rfl ?_
        refine jj_putf dX7_town_69 (fw7_160 _) rfl (Nat.le_of_ble_eq_true rfl) rfl rfl rfl ?_
        refine jj_aload_n dX7_town_72 rfl ?_
        refine jj_aload_n dX7_town_73 rfl ?_
        refine jj_getf dX7_town_74 fl7_153 rfl rfl ?_
        refine jj_putf dX7_town_77 (fw7_163 _) rfl (Nat.le_of_ble_eq_true rfl) rfl rfl rfl ?_
        refine jj_aload_n dX7_town_80 rfl ?_
        refine jj_iconst (v := 0) dX7_town_81 (by decide) ?_
        refine jj_putf dX7_town_82 (fw7_166 _) rfl (Nat.le_of_ble_eq_true rfl) rfl rfl rfl ?_
        refine jj_aload_n dX7_town_85 rfl ?_
        refine jj_getf dX7_town_86 fl7_32 rfl rfl ?_
        refine jj_iconst (v := nI 0) dX7_town_89 (by decide) ?_
        refine jj_iconst (v := 0) dX7_town_90 (by decide) ?_
        refine jv_zast dX7_town_91 rfl (by decide) (by decide) rfl ?_
        refine jj_aload_n dX7_town_92 rfl ?_
        refine jj_getf dX7_town_93 fl7_32 rfl rfl ?_
        refine jj_iconst (v := nI 1) dX7_town_96 (by decide) ?_
        refine jj_iconst (v := 0) dX7_town_97 (by decide) ?_
        refine jv_zast dX7_town_98 rfl (by decide) (by decide) rfl ?_
        refine jj_aload_n dX7_town_99 rfl ?_
        refine jj_getf dX7_town_100 fl7_141 rfl rfl ?_
        refine jj_eq (st' := [.int (nI n)]) rfl rfl (by rw [← d3]; rfl) rfl ?_
        exact jj_leaf dX7_town_103 rfl rfl
    refine jj_aload_n dX7_town_33 rfl ?_
    refine jj_iconst (v := 0) dX7_town_34 (by decide) ?_
    refine jj_putf dX7_town_35 (fw7_69 _) rfl (Nat.le_of_ble_eq_true rfl) rfl rfl rfl ?_
    refine jj_iconst (v := nI 0) dX7_town_38 (by decide) ?_
    refine jj_istore_n dX7_town_39 rfl (by decide) rfl ?_
    exact jj_eq rfl rfl rfl (by rw [jF_0]; rfl) (L 0 (by decide))
  have L1 : ∀ k, k ≤ n → jj_Go G m7_town 6 12 [some (.ref 28), some (.int (nI k))] [] (jj_m (j7_ds s3 F k)) 0 0 (some (.int (nI n))) (jj_m (j7_tw (j7_ds s3 F n))) := by
    refine jj_up n (fun k hk ih => ?_) ?_
    · obtain ⟨e1, e2, e3⟩ := ds_same s3 F k
      have hbk : mb_ok (j7_ds s3 F k) := by unfold mb_ok; rw [e2]; exact hb3
      obtain ⟨o1, o2⟩ := hall3 k hk
      rw [← e1] at o2
      have iD := ev7_doLine (G := G) hbk (by omega) o1 o2
      have e4 : j7_ds s3 F (k + 1) = j7_dr (j7_ds s3 F k) (F k) := rfl
      rw [e4] at ih
      rw [hrm3] at e3
      generalize j7_ds s3 F k = sk at iD ih e3 ⊢
      refine jj_iload_n dX7_town_12 rfl ?_
      refine jj_aload_n dX7_town_13 rfl ?_
      refine jj_getf dX7_town_14 fl7_141 rfl rfl ?_
      refine jj_eq (st' := [.int (nI n), .int (nI k)]) rfl rfl (by rw [← e3]) rfl ?_
      refine jj_icmp_ge (tgt := 33) dX7_town_17 (by decide) (fun zz => absurd zz (nI_ge (a := k) (b := n) hk (by omega))) (fun _ => ?_)
      refine jj_aload_n dX7_town_20 rfl ?_
      refine jj_iconst (v := nI 3) dX7_town_21 (by decide) ?_
      refine jj_iload_n dX7_town_22 rfl ?_
      refine jj_imul dX7_town_23 (j4_mul 3 k) ?_
      refine jj_callV (M2 := m7_doLine) dX7_town_24 ml7_156 tm7_doLine (iD) rfl rfl rfl rfl rfl (by omega) (Nat.le_of_ble_eq_true rfl) ?_
      refine jj_iinc dX7_town_27 rfl (jb_i k) (by decide) rfl ?_
      refine jj_goto (tgt := 12) dX7_town_30 (by decide) ?_
      exact ih
    · rw [hrm3] at d3
      refine jj_iload_n dX7_town_12 rfl ?_
      refine jj_aload_n dX7_town_13 rfl ?_
      refine jj_getf dX7_town_14 fl7_141 rfl rfl ?_
      refine jj_eq (st' := [.int (nI n), .int (nI n)]) rfl rfl (by rw [← d3]) rfl ?_
      refine jj_icmp_ge (tgt := 33) dX7_town_17 (by decide) (fun _ => ?_) (fun zz => absurd (nI_le (a := n) (b := n) (Nat.le_refl n) (by omega)) zz)
      exact L2
  refine jj_aload_n dX7_town_0 rfl ?_
  refine jj_callV (M2 := m7_isRead) dX7_town_1 ml7_147 tm7_isRead (iR) rfl rfl rfl rfl rfl (by omega) (Nat.le_of_ble_eq_true rfl) ?_
  refine jj_if_ne (tgt := 10) dX7_town_4 (by decide) (fun _ => ?_) (fun zz => absurd zz (by decide))
  refine jj_iconst (v := nI 0) dX7_town_10 (by decide) ?_
  refine jj_istore_n dX7_town_11 rfl (by decide) rfl ?_
  exact L1 0 (Nat.zero_le n)
