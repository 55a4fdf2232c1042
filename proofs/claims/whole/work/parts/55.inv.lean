/-! WHAT HOLDS BETWEEN CALLS: the class and the model stand alike -/
def Iv_tx (s : jj_S) : Prop := ∃ L, L ≤ 200 ∧ tx_len s = nI L ∧ mo_by s = nI L ∧ tx_sg s = mo_text s
def Iv_kd (s : jj_S) : Prop := ∀ f, f < 12 → ∃ n, n < 4 ∧ s1_kd s f = nI n ∧ mo_kind s f = nI n
def Iv_kt (s : jj_S) : Prop := ∀ f, f < 12 → ∃ n, n < 4 ∧ s0_kd s f = nI n ∧ mo_told s f = nI n
def Iv_w (s : jj_S) : Prop := ∃ F D N, F < 12 ∧ D < 5 ∧ N ≤ 9999 ∧ s1_pl s = nI F ∧ mo_fi s = nI F ∧ s1_en s = nI D ∧ mo_sd s = nI D ∧ s1_st s = nI N ∧ mo_st s = nI N
def Iv_t (s : jj_S) : Prop := ∃ F D, F < 12 ∧ D < 5 ∧ s0_pl s = nI F ∧ mo_tf s = nI F ∧ s0_en s = nI D ∧ mo_td s = nI D ∧ s0_st s = 0
def Iv_k2 (s : jj_S) : Prop := (s2_tk s = 0 ∧ mo_isk s 0 = 0) ∨ (s2_tk s = 1 ∧ mo_isk s 0 = 1 ∧ (∀ f, f < 12 → ∃ n, n < 4 ∧ s2_kd s f = nI n ∧ mo_img s (15 * 0 + f) = nI n) ∧ ∃ F D N, F < 12 ∧ D < 5 ∧ N ≤ 9999 ∧ s2_pl s = nI F ∧ mo_img s (15 * 0 + 12) = nI F ∧ s2_en s = nI D ∧ mo_img s (15 * 0 + 13) = nI D ∧ s2_st s = nI N ∧ mo_img s (15 * 0 + 14) = nI N)
def Iv_k3 (s : jj_S) : Prop := (s3_tk s = 0 ∧ mo_isk s 1 = 0) ∨ (s3_tk s = 1 ∧ mo_isk s 1 = 1 ∧ (∀ f, f < 12 → ∃ n, n < 4 ∧ s3_kd s f = nI n ∧ mo_img s (15 * 1 + f) = nI n) ∧ ∃ F D N, F < 12 ∧ D < 5 ∧ N ≤ 9999 ∧ s3_pl s = nI F ∧ mo_img s (15 * 1 + 12) = nI F ∧ s3_en s = nI D ∧ mo_img s (15 * 1 + 13) = nI D ∧ s3_st s = nI N ∧ mo_img s (15 * 1 + 14) = nI N)
def Iv_c (s : jj_S) : Prop := mb_ok s ∧ j4_ok s j7_g
def Iv_ca (s : jj_S) (wl : Nat → Nat → Bool) : Prop := (wa_wf s = 0 ∨ (¬ wa_wf s = 0 ∧ ∃ w, j5_wd (j7_o wl) 4096 = w ∧ wa_wc s = w.1 ∧ wa_ws s = w.2.1 ∧ wa_wn s = nI w.2.2)) ∧ (wa_rf s = 0 ∨ (¬ wa_rf s = 0 ∧ ∃ r0 f0 T, j5_fs (j7_o wl) 11 (jU r0 0 0, f0, 0) = T ∧ wa_rc s = T.2.2 ∧ wa_fr s = T.2.1))
def Iv_o (s : jj_S) : Prop := ∃ wl, mw_ok s wl ∧ j5_ok s (j7_o wl) ∧ wl_sym wl ∧ Iv_ca s wl
def Inv (s : jj_S) : Prop := Iv_tx s ∧ Iv_kd s ∧ Iv_kt s ∧ Iv_w s ∧ Iv_t s ∧ Iv_k2 s ∧ Iv_k3 s ∧ Iv_c s ∧ Iv_o s
def Sm_c (s t : jj_S) : Prop := tx_len t = tx_len s ∧ tx_sg t = tx_sg s ∧ tn_go t = tn_go s ∧ wa_op t = wa_op s ∧ wa_rc t = wa_rc s ∧ wa_fr t = wa_fr s ∧ wa_wc t = wa_wc s ∧ wa_ws t = wa_ws s ∧ wa_wn t = wa_wn s ∧ wa_rf t = wa_rf s ∧ wa_wf t = wa_wf s ∧ s0_kd t = s0_kd s ∧ s0_pl t = s0_pl s ∧ s0_en t = s0_en s ∧ s0_st t = s0_st s ∧ s1_kd t = s1_kd s ∧ s1_pl t = s1_pl s ∧ s1_en t = s1_en s ∧ s1_st t = s1_st s ∧ s2_kd t = s2_kd s ∧ s2_pl t = s2_pl s ∧ s2_en t = s2_en s ∧ s2_st t = s2_st s ∧ s2_tk t = s2_tk s ∧ s3_kd t = s3_kd s ∧ s3_pl t = s3_pl s ∧ s3_en t = s3_en s ∧ s3_st t = s3_st s ∧ s3_tk t = s3_tk s
def Sm_m (s t : jj_S) : Prop := mo_ball t = mo_ball s ∧ mo_wall t = mo_wall s ∧ mo_told t = mo_told s ∧ mo_kind t = mo_kind s ∧ mo_tf t = mo_tf s ∧ mo_td t = mo_td s ∧ mo_fi t = mo_fi s ∧ mo_sd t = mo_sd s ∧ mo_st t = mo_st s ∧ mo_by t = mo_by s ∧ mo_text t = mo_text s ∧ mo_img t = mo_img s ∧ mo_isk t = mo_isk s
theorem Iv_tx_mv {s t : jj_S} (h : Iv_tx s) (e0 : tx_len t = tx_len s) (e1 : mo_by t = mo_by s) (e2 : tx_sg t = tx_sg s) (e3 : mo_text t = mo_text s) : Iv_tx t := by
  unfold Iv_tx at h ⊢
  simp only [e0, e1, e2, e3]
  exact h
theorem Iv_kd_mv {s t : jj_S} (h : Iv_kd s) (e0 : s1_kd t = s1_kd s) (e1 : mo_kind t = mo_kind s) : Iv_kd t := by
  unfold Iv_kd at h ⊢
  simp only [e0, e1]
  exact h
theorem Iv_kt_mv {s t : jj_S} (h : Iv_kt s) (e0 : s0_kd t = s0_kd s) (e1 : mo_told t = mo_told s) : Iv_kt t := by
  unfold Iv_kt at h ⊢
  simp only [e0, e1]
  exact h
theorem Iv_w_mv {s t : jj_S} (h : Iv_w s) (e0 : s1_pl t = s1_pl s) (e1 : mo_fi t = mo_fi s) (e2 : s1_en t = s1_en s) (e3 : mo_sd t = mo_sd s) (e4 : s1_st t = s1_st s) (e5 : mo_st t = mo_st s) : Iv_w t := by
  unfold Iv_w at h ⊢
  simp only [e0, e1, e2, e3, e4, e5]
  exact h
theorem Iv_t_mv {s t : jj_S} (h : Iv_t s) (e0 : s0_pl t = s0_pl s) (e1 : mo_tf t = mo_tf s) (e2 : s0_en t = s0_en s) (e3 : mo_td t = mo_td s) (e4 : s0_st t = s0_st s) : Iv_t t := by
  unfold Iv_t at h ⊢
  simp only [e0, e1, e2, e3, e4]
  exact h
theorem Iv_k2_mv {s t : jj_S} (h : Iv_k2 s) (e0 : s2_tk t = s2_tk s) (e1 : mo_isk t = mo_isk s) (e2 : s2_kd t = s2_kd s) (e3 : mo_img t = mo_img s) (e4 : s2_pl t = s2_pl s) (e5 : s2_en t = s2_en s) (e6 : s2_st t = s2_st s) : Iv_k2 t := by
  unfold Iv_k2 at h ⊢
  simp only [e0, e1, e2, e3, e4, e5, e6]
  exact h
theorem Iv_k3_mv {s t : jj_S} (h : Iv_k3 s) (e0 : s3_tk t = s3_tk s) (e1 : mo_isk t = mo_isk s) (e2 : s3_kd t = s3_kd s) (e3 : mo_img t = mo_img s) (e4 : s3_pl t = s3_pl s) (e5 : s3_en t = s3_en s) (e6 : s3_st t = s3_st s) : Iv_k3 t := by
  unfold Iv_k3 at h ⊢
  simp only [e0, e1, e2, e3, e4, e5, e6]
  exact h
theorem Iv_c_mv {s t : jj_S} (h : Iv_c s) (e0 : mo_ball t = mo_ball s) (e1 : tn_go t = tn_go s) : Iv_c t := by
  unfold Iv_c mb_ok j4_ok at h ⊢
  simp only [e0, e1]
  exact h
theorem Iv_o_mv {s t : jj_S} (h : Iv_o s) (e0 : mo_wall t = mo_wall s) (e1 : wa_op t = wa_op s) (e2 : wa_wf t = wa_wf s) (e3 : wa_wc t = wa_wc s) (e4 : wa_ws t = wa_ws s) (e5 : wa_wn t = wa_wn s) (e6 : wa_rf t = wa_rf s) (e7 : wa_rc t = wa_rc s) (e8 : wa_fr t = wa_fr s) : Iv_o t := by
  unfold Iv_o mw_ok j5_ok Iv_ca at h ⊢
  simp only [e0, e1, e2, e3, e4, e5, e6, e7, e8]
  exact h
theorem Inv_mv {s t : jj_S} (h : Inv s) (hc : Sm_c s t) (hm : Sm_m s t) : Inv t := by
  obtain ⟨e_tx_len, e_tx_sg, e_tn_go, e_wa_op, e_wa_rc, e_wa_fr, e_wa_wc, e_wa_ws, e_wa_wn, e_wa_rf, e_wa_wf, e_s0_kd, e_s0_pl, e_s0_en, e_s0_st, e_s1_kd, e_s1_pl, e_s1_en, e_s1_st, e_s2_kd, e_s2_pl, e_s2_en, e_s2_st, e_s2_tk, e_s3_kd, e_s3_pl, e_s3_en, e_s3_st, e_s3_tk⟩ := hc
  obtain ⟨e_mo_ball, e_mo_wall, e_mo_told, e_mo_kind, e_mo_tf, e_mo_td, e_mo_fi, e_mo_sd, e_mo_st, e_mo_by, e_mo_text, e_mo_img, e_mo_isk⟩ := hm
  obtain ⟨h1, h2, h3, h4, h5, h6, h7, h8, h9⟩ := h
  exact ⟨Iv_tx_mv h1 e_tx_len e_mo_by e_tx_sg e_mo_text, Iv_kd_mv h2 e_s1_kd e_mo_kind, Iv_kt_mv h3 e_s0_kd e_mo_told, Iv_w_mv h4 e_s1_pl e_mo_fi e_s1_en e_mo_sd e_s1_st e_mo_st, Iv_t_mv h5 e_s0_pl e_mo_tf e_s0_en e_mo_td e_s0_st, Iv_k2_mv h6 e_s2_tk e_mo_isk e_s2_kd e_mo_img e_s2_pl e_s2_en e_s2_st, Iv_k3_mv h7 e_s3_tk e_mo_isk e_s3_kd e_mo_img e_s3_pl e_s3_en e_s3_st, Iv_c_mv h8 e_mo_ball e_tn_go, Iv_o_mv h9 e_mo_wall e_wa_op e_wa_wf e_wa_wc e_wa_ws e_wa_wn e_wa_rf e_wa_rc e_wa_fr⟩
theorem Sm_c_rf (s : jj_S) : Sm_c s s := ⟨rfl, rfl, rfl, rfl, rfl, rfl, rfl, rfl, rfl, rfl, rfl, rfl, rfl, rfl, rfl, rfl, rfl, rfl, rfl, rfl, rfl, rfl, rfl, rfl, rfl, rfl, rfl, rfl, rfl⟩
theorem Sm_m_rf (s : jj_S) : Sm_m s s := ⟨rfl, rfl, rfl, rfl, rfl, rfl, rfl, rfl, rfl, rfl, rfl, rfl, rfl⟩
theorem Sm_c_tr {s t u : jj_S} (h1 : Sm_c s t) (h2 : Sm_c t u) : Sm_c s u := by
  obtain ⟨e_tx_len, e_tx_sg, e_tn_go, e_wa_op, e_wa_rc, e_wa_fr, e_wa_wc, e_wa_ws, e_wa_wn, e_wa_rf, e_wa_wf, e_s0_kd, e_s0_pl, e_s0_en, e_s0_st, e_s1_kd, e_s1_pl, e_s1_en, e_s1_st, e_s2_kd, e_s2_pl, e_s2_en, e_s2_st, e_s2_tk, e_s3_kd, e_s3_pl, e_s3_en, e_s3_st, e_s3_tk⟩ := h1
  obtain ⟨d_tx_len, d_tx_sg, d_tn_go, d_wa_op, d_wa_rc, d_wa_fr, d_wa_wc, d_wa_ws, d_wa_wn, d_wa_rf, d_wa_wf, d_s0_kd, d_s0_pl, d_s0_en, d_s0_st, d_s1_kd, d_s1_pl, d_s1_en, d_s1_st, d_s2_kd, d_s2_pl, d_s2_en, d_s2_st, d_s2_tk, d_s3_kd, d_s3_pl, d_s3_en, d_s3_st, d_s3_tk⟩ := h2
  exact ⟨d_tx_len.trans e_tx_len, d_tx_sg.trans e_tx_sg, d_tn_go.trans e_tn_go, d_wa_op.trans e_wa_op, d_wa_rc.trans e_wa_rc, d_wa_fr.trans e_wa_fr, d_wa_wc.trans e_wa_wc, d_wa_ws.trans e_wa_ws, d_wa_wn.trans e_wa_wn, d_wa_rf.trans e_wa_rf, d_wa_wf.trans e_wa_wf, d_s0_kd.trans e_s0_kd, d_s0_pl.trans e_s0_pl, d_s0_en.trans e_s0_en, d_s0_st.trans e_s0_st, d_s1_kd.trans e_s1_kd, d_s1_pl.trans e_s1_pl, d_s1_en.trans e_s1_en, d_s1_st.trans e_s1_st, d_s2_kd.trans e_s2_kd, d_s2_pl.trans e_s2_pl, d_s2_en.trans e_s2_en, d_s2_st.trans e_s2_st, d_s2_tk.trans e_s2_tk, d_s3_kd.trans e_s3_kd, d_s3_pl.trans e_s3_pl, d_s3_en.trans e_s3_en, d_s3_st.trans e_s3_st, d_s3_tk.trans e_s3_tk⟩
theorem Sm_m_tr {s t u : jj_S} (h1 : Sm_m s t) (h2 : Sm_m t u) : Sm_m s u := by
  obtain ⟨e_mo_ball, e_mo_wall, e_mo_told, e_mo_kind, e_mo_tf, e_mo_td, e_mo_fi, e_mo_sd, e_mo_st, e_mo_by, e_mo_text, e_mo_img, e_mo_isk⟩ := h1
  obtain ⟨d_mo_ball, d_mo_wall, d_mo_told, d_mo_kind, d_mo_tf, d_mo_td, d_mo_fi, d_mo_sd, d_mo_st, d_mo_by, d_mo_text, d_mo_img, d_mo_isk⟩ := h2
  exact ⟨d_mo_ball.trans e_mo_ball, d_mo_wall.trans e_mo_wall, d_mo_told.trans e_mo_told, d_mo_kind.trans e_mo_kind, d_mo_tf.trans e_mo_tf, d_mo_td.trans e_mo_td, d_mo_fi.trans e_mo_fi, d_mo_sd.trans e_mo_sd, d_mo_st.trans e_mo_st, d_mo_by.trans e_mo_by, d_mo_text.trans e_mo_text, d_mo_img.trans e_mo_img, d_mo_isk.trans e_mo_isk⟩
theorem la_Sm (s : jj_S) (a t : Nat) : Sm_c s (j7_la s a t) ∧ Sm_m s (j7_la s a t) := by
  unfold j7_la jy_S
  generalize jy_r (jy_0 s a t) 3 = P
  exact ⟨⟨rfl, rfl, rfl, rfl, rfl, rfl, rfl, rfl, rfl, rfl, rfl, rfl, rfl, rfl, rfl, rfl, rfl, rfl, rfl, rfl, rfl, rfl, rfl, rfl, rfl, rfl, rfl, rfl, rfl⟩, ⟨rfl, rfl, rfl, rfl, rfl, rfl, rfl, rfl, rfl, rfl, rfl, rfl, rfl⟩⟩
theorem lk_Sm (s : jj_S) : ∀ k, Sm_c s (j7_lk s k) ∧ Sm_m s (j7_lk s k) := by
  intro k
  induction k with
  | zero => exact ⟨Sm_c_rf s, Sm_m_rf s⟩
  | succ k ih =>
    rw [lk_s]
    have h := la_Sm (j7_lk s k) (k / 5) (k % 5)
    exact ⟨Sm_c_tr ih.1 h.1, Sm_m_tr ih.2 h.2⟩
theorem sT7_Sm (s : jj_S) (T : j5_T) : Sm_c s (j7_sT s T) ∧ Sm_m s (j7_sT s T) := ⟨⟨rfl, rfl, rfl, rfl, rfl, rfl, rfl, rfl, rfl, rfl, rfl, rfl, rfl, rfl, rfl, rfl, rfl, rfl, rfl, rfl, rfl, rfl, rfl, rfl, rfl, rfl, rfl, rfl, rfl⟩, ⟨rfl, rfl, rfl, rfl, rfl, rfl, rfl, rfl, rfl, rfl, rfl, rfl, rfl⟩⟩
theorem sN7_Sm (s : jj_S) (P : j2_P) : Sm_c s (j7_sN s P) ∧ Sm_m s (j7_sN s P) := ⟨⟨rfl, rfl, rfl, rfl, rfl, rfl, rfl, rfl, rfl, rfl, rfl, rfl, rfl, rfl, rfl, rfl, rfl, rfl, rfl, rfl, rfl, rfl, rfl, rfl, rfl, rfl, rfl, rfl, rfl⟩, ⟨rfl, rfl, rfl, rfl, rfl, rfl, rfl, rfl, rfl, rfl, rfl, rfl, rfl⟩⟩
theorem sS2_Sm (s : jj_S) (P : j2_P) : Sm_c s (j2_S s P) ∧ Sm_m s (j2_S s P) := ⟨⟨rfl, rfl, rfl, rfl, rfl, rfl, rfl, rfl, rfl, rfl, rfl, rfl, rfl, rfl, rfl, rfl, rfl, rfl, rfl, rfl, rfl, rfl, rfl, rfl, rfl, rfl, rfl, rfl, rfl⟩, ⟨rfl, rfl, rfl, rfl, rfl, rfl, rfl, rfl, rfl, rfl, rfl, rfl, rfl⟩⟩
theorem nI_nat (x : Int32) : x = nI x.toUInt32.toNat := by
  apply Int32.toBitVec_inj.mp
  apply BitVec.eq_of_toNat_eq
  show _ = x.toUInt32.toNat % 2 ^ 32
  exact (Nat.mod_eq_of_lt x.toUInt32.toBitVec.isLt).symm
/-- a call of both: the same answer, and they stand alike behind it -/
def jStp (G : jj_G) (m6 m7 : jj_M) (d6 d7 : Nat) (av : List Value) (s : jj_S) (r : Value → Prop) : Prop := ∃ v s1 s2, r v ∧ jj_Ev G m6 d6 (.ref 0 :: av) (jj_m s) 0 0 (some v) (jj_m s1) ∧ jj_Ev G m7 d7 (.ref 28 :: av) (jj_m s1) 0 0 (some v) (jj_m s2) ∧ Inv s2
abbrev isI (v : Value) : Prop := ∃ x, v = .int x
abbrev isL (v : Value) : Prop := ∃ x, v = .long x
