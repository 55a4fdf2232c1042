/-! EACH CALL, further: turned, kept, foretold -/
theorem kp_at (kd img : Nat → Int32) (b : Nat) : ∀ k, (∀ f, f < k → j7_kp kd img b k (15 * b + f) = kd f) ∧ ∀ j, (j < 15 * b ∨ 15 * b + k ≤ j) → j7_kp kd img b k j = img j := by
  intro k
  induction k with
  | zero => exact ⟨fun f h => absurd h (Nat.not_lt_zero f), fun j _ => rfl⟩
  | succ k ih =>
    refine ⟨fun f hf => ?_, fun j hj => ?_⟩
    · rw [j7_kp]
      by_cases e : f = k
      · subst e; exact jU_at _ _ _
      · rw [jU_ne _ _ (by omega)]; exact ih.1 f (by omega)
    · rw [j7_kp, jU_ne _ _ (by omega)]
      exact ih.2 j (by omega)
theorem ke_img (s : jj_S) (b : Nat) : (∀ f, f < 12 → mo_img (j7_ke s b) (15 * b + f) = mo_kind s f) ∧ mo_img (j7_ke s b) (15 * b + 12) = mo_fi s ∧ mo_img (j7_ke s b) (15 * b + 13) = mo_sd s ∧ mo_img (j7_ke s b) (15 * b + 14) = mo_st s ∧ ∀ j, (j < 15 * b ∨ 15 * b + 15 ≤ j) → mo_img (j7_ke s b) j = mo_img s j := by
  have hk := kp_at (mo_kind s) (mo_img s) b 12
  have e : mo_img (j7_ke s b) = jU (jU (jU (j7_kp (mo_kind s) (mo_img s) b 12) (15 * b + 12) (mo_fi s)) (15 * b + 13) (mo_sd s)) (15 * b + 14) (mo_st s) := by
    unfold j7_ke
    generalize j7_kp (mo_kind s) (mo_img s) b 12 = K
    rfl
  rw [e]
  generalize j7_kp (mo_kind s) (mo_img s) b 12 = K at hk ⊢
  refine ⟨fun f hf => ?_, ?_, ?_, ?_, fun j hj => ?_⟩
  · rw [jU_ne _ _ (by omega), jU_ne _ _ (by omega), jU_ne _ _ (by omega)]; exact hk.1 f hf
  · rw [jU_ne _ _ (by omega), jU_ne _ _ (by omega)]; exact jU_at _ _ _
  · rw [jU_ne _ _ (by omega)]; exact jU_at _ _ _
  · exact jU_at _ _ _
  · rw [jU_ne _ _ (by omega), jU_ne _ _ (by omega), jU_ne _ _ (by omega)]; exact hk.2 j (by omega)
def KP (kd : Nat → Int32) (pl en st : Int32) (img : Nat → Int32) (b : Nat) : Prop := (∀ f, f < 12 → ∃ n, n < 4 ∧ kd f = nI n ∧ img (15 * b + f) = nI n) ∧ ∃ F D N, F < 12 ∧ D < 5 ∧ N ≤ 9999 ∧ pl = nI F ∧ img (15 * b + 12) = nI F ∧ en = nI D ∧ img (15 * b + 13) = nI D ∧ st = nI N ∧ img (15 * b + 14) = nI N
theorem KP_cong {kd : Nat → Int32} {pl en st : Int32} {img img2 : Nat → Int32} {b : Nat} (h : KP kd pl en st img b) (e : ∀ j, 15 * b ≤ j → j < 15 * b + 15 → img2 j = img j) : KP kd pl en st img2 b := by
  obtain ⟨a, F, D, N, b1, b2, b3, b4, b5, b6, b7, b8, b9⟩ := h
  refine ⟨fun f hf => ?_, F, D, N, b1, b2, b3, b4, ?_, b6, ?_, b8, ?_⟩
  · obtain ⟨n, x, y, z⟩ := a f hf
    exact ⟨n, x, y, (e _ (by omega) (by omega)).trans z⟩
  · exact (e _ (by omega) (by omega)).trans b5
  · exact (e _ (by omega) (by omega)).trans b7
  · exact (e _ (by omega) (by omega)).trans b9
theorem j7_o_hwb (wl : Nat → Nat → Bool) : ∀ f, f < 12 → ∀ u, u < 5 → ((j7_o wl f).testBit (jb_s f u) = true ↔ ¬ wl f u = true) := fun f hf u hu => j7_o_bit wl hf hu
set_option maxRecDepth 100000 in
set_option maxHeartbeats 1000000 in
theorem st_rotate {G : jj_G} {s : jj_S} (h : Inv s) (x y : Int32) : jStp G m6_rotate m7_rotate 3 2 [.int x, .int y] s isI := by
  obtain ⟨h1, h2, h3, h4, h5, h6, h7, h8, h9⟩ := id h
  by_cases q : vF x ∧ vS y
  · obtain ⟨a, ha, rfl⟩ := vF_n q.1
    obtain ⟨t, ht, rfl⟩ := vS_n q.2
    have hn : 5 * a + t < 60 := by omega
    have E6 := ev6_rotate (G := G) h8.2 ha ht
    generalize hTU : j1_tu (j7_g (5 * a + t)) (s1_kd s) (s1_tu s) 12 = TU at E6
    have hs1 : mb_ok (s1_kdS (s1_tuS s TU) (jF TU (s1_kd s) 12)) := h8.1
    generalize hS1 : s1_kdS (s1_tuS s TU) (jF TU (s1_kd s) 12) = s1 at E6 hs1
    have E7 := ev7_rotate (G := G) hs1 ha ht
    have hla := la_Sm s1 a t
    have ek : mo_kind s1 = mo_kind s := by rw [← hS1]; rfl
    have hrr : ∀ j, j < 12 → TU j = j7_rr s1 a t j := fun j hj => by
      rw [← hTU]
      unfold j7_rr
      rw [ek]
      exact tu_12 hn (Iv_kd_eq h2) hj
    have hkn : ∀ j, j < 12 → ∃ n, n < 4 ∧ j7_rr s1 a t j = nI n := fun j hj => by
      have hk : ∀ f, f < 12 → ∃ n, n < 4 ∧ mo_kind s f = nI n := fun f hf => by
        obtain ⟨n, a1, _, a3⟩ := h2 f hf
        exact ⟨n, a1, a3⟩
      have hk2 : ∀ f, f < 12 → mo_kind s f = nI (if h : f < 12 then Classical.choose (hk f h) else 0) ∧ (if h : f < 12 then Classical.choose (hk f h) else 0) < 4 := fun f hf => by
        rw [dif_pos hf]
        exact ⟨(Classical.choose_spec (hk f hf)).2, (Classical.choose_spec (hk f hf)).1⟩
      unfold j7_rr
      rw [ek]
      have e := tu_kn hn (kd := mo_kind s) (rw' := mo_row s1) (kn := fun f => if h : f < 12 then Classical.choose (hk f h) else 0) hk2 hj
      exact ⟨_, (hk2 _ (jg_lt _ (jgi_lt _ hn) j hj)).2, e⟩
    have ev : jr_c (j7_rr s1 a t) (mo_kind s1) 12 = j1_ct TU (s1_kd s) 12 := by
      refine (tu_ct 12 (fun j hj => ⟨hrr j hj, ?_⟩)).symm
      rw [ek]
      exact Iv_kd_eq h2 j hj
    rw [ev] at E7
    refine ⟨_, _, _, ⟨_, rfl⟩, E6, E7, ?_⟩
    unfold j7_ro
    generalize j7_rr s1 a t = r at hrr hkn
    generalize j7_la s1 a t = s2 at hla
    subst hS1
    obtain ⟨hc, hm⟩ := hla
    obtain ⟨e_tx_len, e_tx_sg, e_tn_go, e_wa_op, e_wa_rc, e_wa_fr, e_wa_wc, e_wa_ws, e_wa_wn, e_wa_rf, e_wa_wf, e_s0_kd, e_s0_pl, e_s0_en, e_s0_st, e_s1_kd, e_s1_pl, e_s1_en, e_s1_st, e_s2_kd, e_s2_pl, e_s2_en, e_s2_st, e_s2_tk, e_s3_kd, e_s3_pl, e_s3_en, e_s3_st, e_s3_tk⟩ := hc
    obtain ⟨e_mo_ball, e_mo_wall, e_mo_told, e_mo_kind, e_mo_tf, e_mo_td, e_mo_fi, e_mo_sd, e_mo_st, e_mo_by, e_mo_text, e_mo_img, e_mo_isk⟩ := hm
    refine ⟨Iv_tx_mv h1 e_tx_len e_mo_by e_tx_sg e_mo_text, ?_, Iv_kt_mv h3 e_s0_kd e_mo_told, Iv_w_mv h4 e_s1_pl e_mo_fi e_s1_en e_mo_sd e_s1_st e_mo_st, Iv_t_mv h5 e_s0_pl e_mo_tf e_s0_en e_mo_td e_s0_st, Iv_k2_mv h6 e_s2_tk e_mo_isk e_s2_kd e_mo_img e_s2_pl e_s2_en e_s2_st, Iv_k3_mv h7 e_s3_tk e_mo_isk e_s3_kd e_mo_img e_s3_pl e_s3_en e_s3_st, Iv_c_mv h8 e_mo_ball e_tn_go, Iv_o_mv h9 e_mo_wall e_wa_op e_wa_wf e_wa_wc e_wa_ws e_wa_wn e_wa_rf e_wa_rc e_wa_fr⟩
    intro f hf
    obtain ⟨n, n1, n2⟩ := hkn f hf
    refine ⟨n, n1, ?_, ?_⟩
    · have e1 : s1_kd s2 f = jF TU (s1_kd s) 12 f := congrFun e_s1_kd f
      show s1_kd s2 f = nI n
      rw [e1, jF_in hf, hrr f hf, n2]
    · show jF r _ 12 f = nI n
      rw [jF_in hf, n2]
  · exact ⟨_, _, _, ⟨_, rfl⟩, ev6_rotate_b x y q, ev7_rotate_b q, h⟩
set_option maxRecDepth 100000 in
set_option maxHeartbeats 1000000 in
theorem st_step {G : jj_G} {s : jj_S} (h : Inv s) (x : Int32) : jStp G m6_step m7_step 3 1 [.int x] s isI := by
  obtain ⟨h1, h2, h3, h4, h5, h6, h7, h8, h9⟩ := id h
  obtain ⟨wl, w1, w2, w3, w4⟩ := h9
  obtain ⟨F, D, N, hF, hD, hN, p1, p2, d1, d2, n1, n2⟩ := h4
  by_cases q : vS x
  · obtain ⟨t, ht, rfl⟩ := vS_n q
    have E6 := ev6_step (G := G) w2 p1 hF d1 hD n1 hN ht
    have hu := jh_u_lt D t
    have hb := j7_o_bit wl hF hu
    by_cases z : wl F (jh_u D t) = true
    · rw [if_neg (fun y => hb.mp y z), if_neg (fun y => hb.mp y z)] at E6
      have E7 := ev7_step (G := G) h8.1 w1 p2 hF d2 hD ht
      rw [if_pos z, if_pos z] at E7
      exact ⟨_, _, _, ⟨_, rfl⟩, E6, E7, h⟩
    · rw [if_pos (hb.mpr z), if_pos (hb.mpr z)] at E6
      by_cases zN : N = 9999
      · rw [if_pos zN, if_pos zN] at E6
        have E7 := ev7_step (G := G) h8.1 w1 p2 hF d2 hD ht
        have zM : mo_st s = 9999 := by rw [n2, zN]; rfl
        rw [if_neg z, if_neg z, if_pos zM, if_pos zM] at E7
        exact ⟨_, _, _, ⟨_, rfl⟩, E6, E7, h⟩
      · rw [if_neg zN, if_neg zN] at E6
        have hs := jb_s_lt F hF _ hu
        have hk := jb_bk_lt F hF _ hu
        have E7 := ev7_step (G := G) (s := s1_stS (s1_enS (s1_plS s (nI (jb_s F (jh_u D t)))) (nI (jb_bk F (jh_u D t)))) (s1_st s + 1)) h8.1 w1 p2 hF d2 hD ht
        have zM : ¬ mo_st s = 9999 := fun y => zN ((jb_inj (a := N) (b := 9999) (by omega) (by decide)).mp (by rw [← n2]; exact y))
        have zM2 : ¬ mo_st (s1_stS (s1_enS (s1_plS s (nI (jb_s F (jh_u D t)))) (nI (jb_bk F (jh_u D t)))) (s1_st s + 1)) = 9999 := zM
        rw [if_neg z, if_neg z, if_neg zM2, if_neg zM2] at E7
        refine ⟨_, _, _, ⟨_, rfl⟩, E6, E7, ⟨Iv_tx_mv h1 rfl rfl rfl rfl, Iv_kd_mv h2 rfl rfl, Iv_kt_mv h3 rfl rfl, ⟨jb_s F (jh_u D t), jb_bk F (jh_u D t), N + 1, hs, hk, by omega, rfl, rfl, rfl, rfl, (by show s1_st s + 1 = nI (N + 1); rw [n1]; exact nI_add N 1), (by show mo_st s + 1 = nI (N + 1); rw [n2]; exact nI_add N 1)⟩, Iv_t_mv h5 rfl rfl rfl rfl rfl, Iv_k2_mv h6 rfl rfl rfl rfl rfl rfl rfl, Iv_k3_mv h7 rfl rfl rfl rfl rfl rfl rfl, Iv_c_mv h8 rfl rfl, ⟨wl, w1, w2, w3, w4⟩⟩⟩
  · exact ⟨_, _, _, ⟨_, rfl⟩, ev6_step_b x q, ev7_step_b q, h⟩
set_option maxRecDepth 100000 in
set_option maxHeartbeats 1000000 in
theorem st_keep_0 {G : jj_G} {s : jj_S} (h : Inv s)  : jStp G m6_keep m7_keep 2 1 [.int 0] s isI := by
  obtain ⟨h1, h2, h3, h4, h5, h6, h7, h8, h9⟩ := id h
  obtain ⟨F, D, N, hF, hD, hN, p1, p2, d1, d2, n1, n2⟩ := id h4
  have E6 := ev6_keep_0 (G := G) (s := s)
  have E7 := ev7_keep (G := G) (s := (s2_tkS (s2_stS (s2_enS (s2_plS (s2_kdS s (jF (s1_kd s) (s2_kd s) 12)) (s1_pl s)) (s1_en s)) (s1_st s)) 1)) (b := 0) (by decide)
  have hi := ke_img (s2_tkS (s2_stS (s2_enS (s2_plS (s2_kdS s (jF (s1_kd s) (s2_kd s) 12)) (s1_pl s)) (s1_en s)) (s1_st s)) 1) 0
  rw [show mo_st (s2_tkS (s2_stS (s2_enS (s2_plS (s2_kdS s (jF (s1_kd s) (s2_kd s) 12)) (s1_pl s)) (s1_en s)) (s1_st s)) 1) = s1_st s from n2.trans n1.symm] at E7
  refine ⟨_, _, _, ⟨_, rfl⟩, E6, E7, ?_⟩
  have hK : KP (jF (s1_kd s) (s2_kd s) 12) (s1_pl s) (s1_en s) (s1_st s) (mo_img (j7_ke (s2_tkS (s2_stS (s2_enS (s2_plS (s2_kdS s (jF (s1_kd s) (s2_kd s) 12)) (s1_pl s)) (s1_en s)) (s1_st s)) 1) 0)) 0 := by
    refine ⟨fun f hf => ?_, F, D, N, hF, hD, hN, p1, ?_, d1, ?_, n1, ?_⟩
    · obtain ⟨n, a1, a2, a3⟩ := h2 f hf
      rw [jF_in hf]
      exact ⟨n, a1, a2, (hi.1 f hf).trans a3⟩
    · exact hi.2.1.trans p2
    · exact hi.2.2.1.trans d2
    · exact hi.2.2.2.1.trans n2
  have hL : Iv_k3 (j7_ke (s2_tkS (s2_stS (s2_enS (s2_plS (s2_kdS s (jF (s1_kd s) (s2_kd s) 12)) (s1_pl s)) (s1_en s)) (s1_st s)) 1) 0) := by
    rcases h7 with ⟨a, b⟩ | ⟨a, b, c⟩
    · exact .inl ⟨a, b⟩
    · refine .inr ⟨a, b, ?_⟩
      exact KP_cong (b := 1) c (fun j j1 j2 => hi.2.2.2.2 j (by omega))
  exact ⟨Iv_tx_mv h1 rfl rfl rfl rfl, Iv_kd_mv h2 rfl rfl, Iv_kt_mv h3 rfl rfl, Iv_w_mv h4 rfl rfl rfl rfl rfl rfl, Iv_t_mv h5 rfl rfl rfl rfl rfl, .inr ⟨rfl, rfl, hK⟩, hL, Iv_c_mv h8 rfl rfl, Iv_o_mv h9 rfl rfl rfl rfl rfl rfl rfl rfl rfl⟩
set_option maxRecDepth 100000 in
set_option maxHeartbeats 1000000 in
theorem st_back_0 {G : jj_G} {s : jj_S} (h : Inv s)  : jStp G m6_back m7_back 2 1 [.int 0] s isI := by
  obtain ⟨h1, h2, h3, h4, h5, h6, h7, h8, h9⟩ := id h
  rcases id h6 with ⟨a, b⟩ | ⟨a, b, c⟩
  · have E6 := ev6_back_0 (G := G) (s := s) (.inl a)
    have E7 := ev7_back (G := G) (s := s) (b := 0) (by decide)
    rw [if_pos a, if_pos a] at E6
    rw [if_pos b, if_pos b] at E7
    exact ⟨_, _, _, ⟨_, rfl⟩, E6, E7, h⟩
  · have E6 := ev6_back_0 (G := G) (s := s) (.inr a)
    have na : ¬ s2_tk s = 0 := by rw [a]; decide
    have nb : ¬ mo_isk s 0 = 0 := by rw [b]; decide
    obtain ⟨c0, F, D, N, hF, hD, hN, p1, p2, d1, d2, n1, n2⟩ := c
    have E7 := ev7_back (G := G) (s := (s1_tkS (s1_stS (s1_enS (s1_plS (s1_kdS s (jF (s2_kd s) (s1_kd s) 12)) (s2_pl s)) (s2_en s)) (nI N)) 1)) (b := 0) (by decide)
    rw [if_neg na, if_neg na, n1] at E6
    have nb2 : ¬ mo_isk (s1_tkS (s1_stS (s1_enS (s1_plS (s1_kdS s (jF (s2_kd s) (s1_kd s) 12)) (s2_pl s)) (s2_en s)) (nI N)) 1) 0 = 0 := nb
    rw [if_neg nb2, if_neg nb2, show mo_img (s1_tkS (s1_stS (s1_enS (s1_plS (s1_kdS s (jF (s2_kd s) (s1_kd s) 12)) (s2_pl s)) (s2_en s)) (nI N)) 1) (15 * 0 + 14) = nI N from n2] at E7
    refine ⟨_, _, _, ⟨_, rfl⟩, ?_, E7, ⟨Iv_tx_mv h1 rfl rfl rfl rfl, ?_, Iv_kt_mv h3 rfl rfl, ⟨F, D, N, hF, hD, hN, p1, p2, d1, d2, rfl, n2⟩, Iv_t_mv h5 rfl rfl rfl rfl rfl, Iv_k2_mv h6 rfl rfl rfl rfl rfl rfl rfl, Iv_k3_mv h7 rfl rfl rfl rfl rfl rfl rfl, Iv_c_mv h8 rfl rfl, Iv_o_mv h9 rfl rfl rfl rfl rfl rfl rfl rfl rfl⟩⟩
    · exact E6
    · intro f hf
      obtain ⟨n, q1, q2, q3⟩ := c0 f hf
      refine ⟨n, q1, ?_, ?_⟩
      · show jF (s2_kd s) (s1_kd s) 12 f = nI n
        rw [jF_in hf]; exact q2
      · show jF (fun f => mo_img s (15 * 0 + f)) (mo_kind s) 12 f = nI n
        rw [jF_in hf]; exact q3
set_option maxRecDepth 100000 in
set_option maxHeartbeats 1000000 in
theorem st_like_0 {G : jj_G} {s : jj_S} (h : Inv s)  : jStp G m6_like m7_like 4 2 [.int 0] s isI := by
  obtain ⟨h1, h2, h3, h4, h5, h6, h7, h8, h9⟩ := id h
  rcases id h6 with ⟨a, b⟩ | ⟨a, b, c⟩
  · have E6 := ev6_like_0 (G := G) h8.2 (.inl a)
    have E7 := ev7_like (G := G) (b := 0) h8.1 (by decide)
    rw [if_pos a] at E6
    rw [if_pos b, if_pos b] at E7
    exact ⟨_, _, _, ⟨_, rfl⟩, E6, E7, h⟩
  · have E6 := ev6_like_0 (G := G) h8.2 (.inr a)
    have na : ¬ s2_tk s = 0 := by rw [a]; decide
    have nb : ¬ mo_isk s 0 = 0 := by rw [b]; decide
    have E7 := ev7_like (G := G) (b := 0) h8.1 (by decide)
    have e : j4_cnt (fun t => jb_all (fun f => s1_kd s (j7_g t f) == s2_kd s f) 12) 60 = jr_ct (j7_li (mo_kind s) (mo_img s) 0) 60 := li_e (b := 0) (Iv_kd_eq h2) (fun f hf => by
      obtain ⟨n, _, q2, q3⟩ := c.1 f hf
      rw [q2, q3])
    rw [if_neg na, e] at E6
    rw [if_neg nb, if_neg nb] at E7
    exact ⟨_, _, _, ⟨_, rfl⟩, E6, E7, Inv_mv h (lk_Sm s 60).1 (lk_Sm s 60).2⟩
set_option maxRecDepth 100000 in
set_option maxHeartbeats 1000000 in
theorem st_keep_1 {G : jj_G} {s : jj_S} (h : Inv s)  : jStp G m6_keep m7_keep 2 1 [.int 1] s isI := by
  obtain ⟨h1, h2, h3, h4, h5, h6, h7, h8, h9⟩ := id h
  obtain ⟨F, D, N, hF, hD, hN, p1, p2, d1, d2, n1, n2⟩ := id h4
  have E6 := ev6_keep_1 (G := G) (s := s)
  have E7 := ev7_keep (G := G) (s := (s3_tkS (s3_stS (s3_enS (s3_plS (s3_kdS s (jF (s1_kd s) (s3_kd s) 12)) (s1_pl s)) (s1_en s)) (s1_st s)) 1)) (b := 1) (by decide)
  have hi := ke_img (s3_tkS (s3_stS (s3_enS (s3_plS (s3_kdS s (jF (s1_kd s) (s3_kd s) 12)) (s1_pl s)) (s1_en s)) (s1_st s)) 1) 1
  rw [show mo_st (s3_tkS (s3_stS (s3_enS (s3_plS (s3_kdS s (jF (s1_kd s) (s3_kd s) 12)) (s1_pl s)) (s1_en s)) (s1_st s)) 1) = s1_st s from n2.trans n1.symm] at E7
  refine ⟨_, _, _, ⟨_, rfl⟩, E6, E7, ?_⟩
  have hK : KP (jF (s1_kd s) (s3_kd s) 12) (s1_pl s) (s1_en s) (s1_st s) (mo_img (j7_ke (s3_tkS (s3_stS (s3_enS (s3_plS (s3_kdS s (jF (s1_kd s) (s3_kd s) 12)) (s1_pl s)) (s1_en s)) (s1_st s)) 1) 1)) 1 := by
    refine ⟨fun f hf => ?_, F, D, N, hF, hD, hN, p1, ?_, d1, ?_, n1, ?_⟩
    · obtain ⟨n, a1, a2, a3⟩ := h2 f hf
      rw [jF_in hf]
      exact ⟨n, a1, a2, (hi.1 f hf).trans a3⟩
    · exact hi.2.1.trans p2
    · exact hi.2.2.1.trans d2
    · exact hi.2.2.2.1.trans n2
  have hL : Iv_k2 (j7_ke (s3_tkS (s3_stS (s3_enS (s3_plS (s3_kdS s (jF (s1_kd s) (s3_kd s) 12)) (s1_pl s)) (s1_en s)) (s1_st s)) 1) 1) := by
    rcases h6 with ⟨a, b⟩ | ⟨a, b, c⟩
    · exact .inl ⟨a, b⟩
    · refine .inr ⟨a, b, ?_⟩
      exact KP_cong (b := 0) c (fun j j1 j2 => hi.2.2.2.2 j (by omega))
  exact ⟨Iv_tx_mv h1 rfl rfl rfl rfl, Iv_kd_mv h2 rfl rfl, Iv_kt_mv h3 rfl rfl, Iv_w_mv h4 rfl rfl rfl rfl rfl rfl, Iv_t_mv h5 rfl rfl rfl rfl rfl, hL, .inr ⟨rfl, rfl, hK⟩, Iv_c_mv h8 rfl rfl, Iv_o_mv h9 rfl rfl rfl rfl rfl rfl rfl rfl rfl⟩
set_option maxRecDepth 100000 in
set_option maxHeartbeats 1000000 in
theorem st_back_1 {G : jj_G} {s : jj_S} (h : Inv s)  : jStp G m6_back m7_back 2 1 [.int 1] s isI := by
  obtain ⟨h1, h2, h3, h4, h5, h6, h7, h8, h9⟩ := id h
  rcases id h7 with ⟨a, b⟩ | ⟨a, b, c⟩
  · have E6 := ev6_back_1 (G := G) (s := s) (.inl a)
    have E7 := ev7_back (G := G) (s := s) (b := 1) (by decide)
    rw [if_pos a, if_pos a] at E6
    rw [if_pos b, if_pos b] at E7
    exact ⟨_, _, _, ⟨_, rfl⟩, E6, E7, h⟩
  · have E6 := ev6_back_1 (G := G) (s := s) (.inr a)
    have na : ¬ s3_tk s = 0 := by rw [a]; decide
    have nb : ¬ mo_isk s 1 = 0 := by rw [b]; decide
    obtain ⟨c0, F, D, N, hF, hD, hN, p1, p2, d1, d2, n1, n2⟩ := c
    have E7 := ev7_back (G := G) (s := (s1_tkS (s1_stS (s1_enS (s1_plS (s1_kdS s (jF (s3_kd s) (s1_kd s) 12)) (s3_pl s)) (s3_en s)) (nI N)) 1)) (b := 1) (by decide)
    rw [if_neg na, if_neg na, n1] at E6
    have nb2 : ¬ mo_isk (s1_tkS (s1_stS (s1_enS (s1_plS (s1_kdS s (jF (s3_kd s) (s1_kd s) 12)) (s3_pl s)) (s3_en s)) (nI N)) 1) 1 = 0 := nb
    rw [if_neg nb2, if_neg nb2, show mo_img (s1_tkS (s1_stS (s1_enS (s1_plS (s1_kdS s (jF (s3_kd s) (s1_kd s) 12)) (s3_pl s)) (s3_en s)) (nI N)) 1) (15 * 1 + 14) = nI N from n2] at E7
    refine ⟨_, _, _, ⟨_, rfl⟩, ?_, E7, ⟨Iv_tx_mv h1 rfl rfl rfl rfl, ?_, Iv_kt_mv h3 rfl rfl, ⟨F, D, N, hF, hD, hN, p1, p2, d1, d2, rfl, n2⟩, Iv_t_mv h5 rfl rfl rfl rfl rfl, Iv_k2_mv h6 rfl rfl rfl rfl rfl rfl rfl, Iv_k3_mv h7 rfl rfl rfl rfl rfl rfl rfl, Iv_c_mv h8 rfl rfl, Iv_o_mv h9 rfl rfl rfl rfl rfl rfl rfl rfl rfl⟩⟩
    · exact E6
    · intro f hf
      obtain ⟨n, q1, q2, q3⟩ := c0 f hf
      refine ⟨n, q1, ?_, ?_⟩
      · show jF (s3_kd s) (s1_kd s) 12 f = nI n
        rw [jF_in hf]; exact q2
      · show jF (fun f => mo_img s (15 * 1 + f)) (mo_kind s) 12 f = nI n
        rw [jF_in hf]; exact q3
set_option maxRecDepth 100000 in
set_option maxHeartbeats 1000000 in
theorem st_like_1 {G : jj_G} {s : jj_S} (h : Inv s)  : jStp G m6_like m7_like 4 2 [.int 1] s isI := by
  obtain ⟨h1, h2, h3, h4, h5, h6, h7, h8, h9⟩ := id h
  rcases id h7 with ⟨a, b⟩ | ⟨a, b, c⟩
  · have E6 := ev6_like_1 (G := G) h8.2 (.inl a)
    have E7 := ev7_like (G := G) (b := 1) h8.1 (by decide)
    rw [if_pos a] at E6
    rw [if_pos b, if_pos b] at E7
    exact ⟨_, _, _, ⟨_, rfl⟩, E6, E7, h⟩
  · have E6 := ev6_like_1 (G := G) h8.2 (.inr a)
    have na : ¬ s3_tk s = 0 := by rw [a]; decide
    have nb : ¬ mo_isk s 1 = 0 := by rw [b]; decide
    have E7 := ev7_like (G := G) (b := 1) h8.1 (by decide)
    have e : j4_cnt (fun t => jb_all (fun f => s1_kd s (j7_g t f) == s3_kd s f) 12) 60 = jr_ct (j7_li (mo_kind s) (mo_img s) 1) 60 := li_e (b := 1) (Iv_kd_eq h2) (fun f hf => by
      obtain ⟨n, _, q2, q3⟩ := c.1 f hf
      rw [q2, q3])
    rw [if_neg na, e] at E6
    rw [if_neg nb, if_neg nb] at E7
    exact ⟨_, _, _, ⟨_, rfl⟩, E6, E7, Inv_mv h (lk_Sm s 60).1 (lk_Sm s 60).2⟩
set_option maxRecDepth 100000 in
set_option maxHeartbeats 1000000 in
theorem st_keep {G : jj_G} {s : jj_S} (h : Inv s) (x : Int32) : jStp G m6_keep m7_keep 2 1 [.int x] s isI := by
  obtain ⟨h1, h2, h3, h4, h5, h6, h7, h8, h9⟩ := id h
  by_cases q : v01 x
  · obtain ⟨k, hk, rfl⟩ := v01_n q
    rcases (show k = 0 ∨ k = 1 by omega) with e | e
    · subst e; exact st_keep_0 h
    · subst e; exact st_keep_1 h
  · exact ⟨_, _, _, ⟨_, rfl⟩, ev6_keep_b x q, ev7_keep_b q, h⟩
set_option maxRecDepth 100000 in
set_option maxHeartbeats 1000000 in
theorem st_back {G : jj_G} {s : jj_S} (h : Inv s) (x : Int32) : jStp G m6_back m7_back 2 1 [.int x] s isI := by
  obtain ⟨h1, h2, h3, h4, h5, h6, h7, h8, h9⟩ := id h
  by_cases q : v01 x
  · obtain ⟨k, hk, rfl⟩ := v01_n q
    rcases (show k = 0 ∨ k = 1 by omega) with e | e
    · subst e; exact st_back_0 h
    · subst e; exact st_back_1 h
  · exact ⟨_, _, _, ⟨_, rfl⟩, ev6_back_b x q, ev7_back_b q, h⟩
set_option maxRecDepth 100000 in
set_option maxHeartbeats 1000000 in
theorem st_like {G : jj_G} {s : jj_S} (h : Inv s) (x : Int32) : jStp G m6_like m7_like 4 2 [.int x] s isI := by
  obtain ⟨h1, h2, h3, h4, h5, h6, h7, h8, h9⟩ := id h
  by_cases q : v01 x
  · obtain ⟨k, hk, rfl⟩ := v01_n q
    rcases (show k = 0 ∨ k = 1 by omega) with e | e
    · subst e; exact st_like_0 h
    · subst e; exact st_like_1 h
  · exact ⟨_, _, _, ⟨_, rfl⟩, ev6_like_b x q, ev7_like_b q, h⟩
set_option maxRecDepth 100000 in
set_option maxHeartbeats 1000000 in
theorem st_home {G : jj_G} {s : jj_S} (h : Inv s) (x : Int32) : jStp G m6_home m7_home 3 1 [.int x] s isI := by
  obtain ⟨h1, h2, h3, h4, h5, h6, h7, h8, h9⟩ := id h
  obtain ⟨wl, w1, w2, w3, w4⟩ := h9
  obtain ⟨F, D, N, hF, hD, hN, p1, p2, d1, d2, n1, n2⟩ := h4
  by_cases q : vS x
  · obtain ⟨t, ht, rfl⟩ := vS_n q
    have E6 := ev6_home (G := G) w2 (j7_o_hwb wl) p1 hF d1 hD ht
    have E7 := ev7_home (G := G) h8.1 w1 p2 hF d2 hD ht
    generalize jh_r wl t (F, D) 60 0 (F, D) = R at E6 E7
    exact ⟨_, _, _, ⟨_, rfl⟩, E6, E7, h⟩
  · exact ⟨_, _, _, ⟨_, rfl⟩, ev6_home_b x q, ev7_home_b q, h⟩
set_option maxRecDepth 100000 in
set_option maxHeartbeats 1000000 in
theorem st_alike {G : jj_G} {s : jj_S} (h : Inv s)  : jStp G m6_alike m7_alike 4 2 [] s isI := by
  obtain ⟨h1, h2, h3, h4, h5, h6, h7, h8, h9⟩ := id h
  have E6 := ev6_alike (G := G) h8.2
  have E7 := ev7_alike (G := G) h8.1
  rw [al_e (Iv_kd_eq h2)] at E6
  exact ⟨_, _, _, ⟨_, rfl⟩, E6, E7, Inv_mv h (lk_Sm s 60).1 (lk_Sm s 60).2⟩
set_option maxRecDepth 100000 in
set_option maxHeartbeats 1000000 in
theorem st_fixed {G : jj_G} {s : jj_S} (h : Inv s) (x y z : Int32) : jStp G m6_fixed m7_fixed 4 3 [.int x, .int y, .int z] s isL := by
  obtain ⟨h1, h2, h3, h4, h5, h6, h7, h8, h9⟩ := id h
  by_cases q : vF x ∧ vS y
  · obtain ⟨a, ha, rfl⟩ := vF_n q.1
    obtain ⟨t, ht, rfl⟩ := vS_n q.2
    by_cases hz : 1 ≤ z ∧ z ≤ 8
    · have E6 := ev6_fixed (G := G) h8.2 ha ht hz
      have E7 := ev7_fixed (G := G) h8.1 ha ht hz
      generalize j4_fx (j7_g (5 * a + t)) z.toInt64 12 = R at E6 E7
      exact ⟨_, _, _, ⟨_, rfl⟩, E6, E7, Inv_mv h (la_Sm s a t).1 (la_Sm s a t).2⟩
    · exact ⟨_, _, _, ⟨_, rfl⟩, ev6_fixed_c ha ht hz, ev7_fixed_c ha ht hz, h⟩
  · exact ⟨_, _, _, ⟨_, rfl⟩, ev6_fixed_b x y z q, ev7_fixed_b q, h⟩
set_option maxRecDepth 100000 in
set_option maxHeartbeats 1000000 in
theorem st_unlike {G : jj_G} {s : jj_S} (h : Inv s) (z : Int32) : jStp G m6_unlike m7_unlike 5 3 [.int z] s isL := by
  obtain ⟨h1, h2, h3, h4, h5, h6, h7, h8, h9⟩ := id h
  by_cases hz : 1 ≤ z ∧ z ≤ 8
  · have E6 := ev6_unlike (G := G) h8.2 hz
    have E7 := ev7_unlike (G := G) h8.1 hz
    generalize j4_un j7_g z.toInt64 60 / 60 = R at E6 E7
    exact ⟨_, _, _, ⟨_, rfl⟩, E6, E7, Inv_mv h (lk_Sm s 60).1 (lk_Sm s 60).2⟩
  · exact ⟨_, _, _, ⟨_, rfl⟩, ev6_unlike_c hz, ev7_unlike_b hz, h⟩
