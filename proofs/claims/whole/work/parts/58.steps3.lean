/-! EACH CALL, the last: wardens, insides, rounds, walks, odds, counts -/
theorem fw_Sm (s : jj_S) (w : Int32 × Int32 × Nat) (hf : ¬ wa_wf s = 0) : j5_fw s w = s := if_neg hf
theorem ts_cong {A B : Nat → Int32} : ∀ k, (∀ f, f < k → A f = B f) → j7_ts A k = j7_ts B k := by
  intro k
  induction k with
  | zero => intro _; rfl
  | succ k ih => intro h; rw [j7_ts, j7_ts, ih (fun f hf => h f (by omega)), h k (Nat.lt_succ_self k)]
set_option maxRecDepth 100000 in
set_option maxHeartbeats 1000000 in
theorem st_wardens_0 {G : jj_G} {s : jj_S} (h : Inv s)  : jStp G m6_wardens m7_wardens 3 1 [.int 0] s isI := by
  obtain ⟨h1, h2, h3, h4, h5, h6, h7, h8, h9⟩ := id h
  obtain ⟨wl, w1, w2, w3, w4, w5⟩ := h9
  generalize hW : j5_wd (j7_o wl) 4096 = w
  have E6 := ev6_wardens_0 (G := G) w2 hW
  unfold j5_fw at E6
  rcases w4 with w4 | ⟨w4, w', c0, c1, c2, c3⟩
  · rw [if_pos w4] at E6
    have E7 := ev7_wardens (G := G) (s := wa_wfS (wa_wnS (wa_wsS (wa_wcS s w.1) w.2.1) (nI w.2.2)) 1) (x := 0) h8.1 w1 (by decide)
    rw [hW, if_neg (by decide), if_neg (by decide)] at E7
    refine ⟨_, _, _, ⟨_, rfl⟩, ?_, E7, ⟨Iv_tx_mv h1 rfl rfl rfl rfl, Iv_kd_mv h2 rfl rfl, Iv_kt_mv h3 rfl rfl, Iv_w_mv h4 rfl rfl rfl rfl rfl rfl, Iv_t_mv h5 rfl rfl rfl rfl rfl, Iv_k2_mv h6 rfl rfl rfl rfl rfl rfl rfl, Iv_k3_mv h7 rfl rfl rfl rfl rfl rfl rfl, Iv_c_mv h8 rfl rfl, ⟨wl, w1, w2, w3, .inr ⟨by show ¬ (1 : Int32) = 0; decide, w, hW, rfl, rfl, rfl⟩, w5⟩⟩⟩
    exact E6
  · rw [if_neg w4] at E6
    obtain rfl : w' = w := c0.symm.trans hW
    have E7 := ev7_wardens (G := G) (s := s) (x := 0) h8.1 w1 (by decide)
    rw [hW, if_neg (by decide), if_neg (by decide)] at E7
    rw [c1] at E6
    exact ⟨_, _, _, ⟨_, rfl⟩, E6, E7, h⟩
set_option maxRecDepth 100000 in
set_option maxHeartbeats 1000000 in
theorem st_wardens_1 {G : jj_G} {s : jj_S} (h : Inv s)  : jStp G m6_wardens m7_wardens 3 1 [.int 1] s isI := by
  obtain ⟨h1, h2, h3, h4, h5, h6, h7, h8, h9⟩ := id h
  obtain ⟨wl, w1, w2, w3, w4, w5⟩ := h9
  generalize hW : j5_wd (j7_o wl) 4096 = w
  have E6 := ev6_wardens_1 (G := G) w2 hW
  unfold j5_fw at E6
  rcases w4 with w4 | ⟨w4, w', c0, c1, c2, c3⟩
  · rw [if_pos w4] at E6
    have E7 := ev7_wardens (G := G) (s := wa_wfS (wa_wnS (wa_wsS (wa_wcS s w.1) w.2.1) (nI w.2.2)) 1) (x := 1) h8.1 w1 (by decide)
    rw [hW, if_neg (by decide), if_pos rfl] at E7
    refine ⟨_, _, _, ⟨_, rfl⟩, ?_, E7, ⟨Iv_tx_mv h1 rfl rfl rfl rfl, Iv_kd_mv h2 rfl rfl, Iv_kt_mv h3 rfl rfl, Iv_w_mv h4 rfl rfl rfl rfl rfl rfl, Iv_t_mv h5 rfl rfl rfl rfl rfl, Iv_k2_mv h6 rfl rfl rfl rfl rfl rfl rfl, Iv_k3_mv h7 rfl rfl rfl rfl rfl rfl rfl, Iv_c_mv h8 rfl rfl, ⟨wl, w1, w2, w3, .inr ⟨by show ¬ (1 : Int32) = 0; decide, w, hW, rfl, rfl, rfl⟩, w5⟩⟩⟩
    exact E6
  · rw [if_neg w4] at E6
    obtain rfl : w' = w := c0.symm.trans hW
    have E7 := ev7_wardens (G := G) (s := s) (x := 1) h8.1 w1 (by decide)
    rw [hW, if_neg (by decide), if_pos rfl] at E7
    rw [c2] at E6
    exact ⟨_, _, _, ⟨_, rfl⟩, E6, E7, h⟩
set_option maxRecDepth 100000 in
set_option maxHeartbeats 1000000 in
theorem st_wardens_2 {G : jj_G} {s : jj_S} (h : Inv s)  : jStp G m6_wardens m7_wardens 3 1 [.int 2] s isI := by
  obtain ⟨h1, h2, h3, h4, h5, h6, h7, h8, h9⟩ := id h
  obtain ⟨wl, w1, w2, w3, w4, w5⟩ := h9
  generalize hW : j5_wd (j7_o wl) 4096 = w
  have E6 := ev6_wardens_2 (G := G) w2 hW
  unfold j5_fw at E6
  rcases w4 with w4 | ⟨w4, w', c0, c1, c2, c3⟩
  · rw [if_pos w4] at E6
    have E7 := ev7_wardens (G := G) (s := wa_wfS (wa_wnS (wa_wsS (wa_wcS s w.1) w.2.1) (nI w.2.2)) 1) (x := 2) h8.1 w1 (by decide)
    rw [hW, if_pos rfl] at E7
    refine ⟨_, _, _, ⟨_, rfl⟩, ?_, E7, ⟨Iv_tx_mv h1 rfl rfl rfl rfl, Iv_kd_mv h2 rfl rfl, Iv_kt_mv h3 rfl rfl, Iv_w_mv h4 rfl rfl rfl rfl rfl rfl, Iv_t_mv h5 rfl rfl rfl rfl rfl, Iv_k2_mv h6 rfl rfl rfl rfl rfl rfl rfl, Iv_k3_mv h7 rfl rfl rfl rfl rfl rfl rfl, Iv_c_mv h8 rfl rfl, ⟨wl, w1, w2, w3, .inr ⟨by show ¬ (1 : Int32) = 0; decide, w, hW, rfl, rfl, rfl⟩, w5⟩⟩⟩
    exact E6
  · rw [if_neg w4] at E6
    obtain rfl : w' = w := c0.symm.trans hW
    have E7 := ev7_wardens (G := G) (s := s) (x := 2) h8.1 w1 (by decide)
    rw [hW, if_pos rfl] at E7
    rw [c3] at E6
    exact ⟨_, _, _, ⟨_, rfl⟩, E6, E7, h⟩
set_option maxRecDepth 100000 in
set_option maxHeartbeats 1000000 in
theorem st_wardens {G : jj_G} {s : jj_S} (h : Inv s) (x : Int32) : jStp G m6_wardens m7_wardens 3 1 [.int x] s isI := by
  obtain ⟨h1, h2, h3, h4, h5, h6, h7, h8, h9⟩ := id h
  by_cases x0 : x = 0
  · subst x0; exact st_wardens_0 h
  · by_cases x1 : x = 1
    · subst x1; exact st_wardens_1 h
    · by_cases x2 : x = 2
      · subst x2; exact st_wardens_2 h
      · have hx : ¬ (0 ≤ x ∧ x ≤ 2) := fun z => by
          rcases j7_v02 z with e | e | e
          · exact x0 e
          · exact x1 e
          · exact x2 e
        exact ⟨_, _, _, ⟨_, rfl⟩, ev6_wardens_d (ne_out2 x0 x1 x2), ev7_wardens_b hx, h⟩
set_option maxRecDepth 100000 in
set_option maxHeartbeats 1000000 in
theorem st_inside {G : jj_G} {s : jj_S} (h : Inv s) (x : Int32) : jStp G m6_inside m7_inside 4 2 [.int x] s isI := by
  obtain ⟨h1, h2, h3, h4, h5, h6, h7, h8, h9⟩ := id h
  obtain ⟨wl, w1, w2, w3, w4⟩ := h9
  by_cases z : vF x
  · obtain ⟨f, hf, rfl⟩ := vF_n z
    have E6 := ev6_inside (G := G) w2 hf
    have E7 := ev7_inside (G := G) h8.1 w1 hf
    rw [in_e (fun f hf => j7_o_lt wl hf) hf] at E6
    exact ⟨_, _, _, ⟨_, rfl⟩, E6, E7, h⟩
  · exact ⟨_, _, _, ⟨_, rfl⟩, ev6_inside_b x z, ev7_inside_b z, h⟩
set_option maxRecDepth 100000 in
set_option maxHeartbeats 1000000 in
theorem st_rounds_n {G : jj_G} {s : jj_S} (h : Inv s)  : jStp G m6_rounds m7_rounds 17 2 [.int (-1)] s isI := by
  obtain ⟨h1, h2, h3, h4, h5, h6, h7, h8, h9⟩ := id h
  obtain ⟨wl, w1, w2, w3, w4, w5⟩ := h9
  generalize hr0 : (fun j => (wa_rw s j).toUInt32.toNat) = r0
  have hr : wa_rw s = fun j => nI (r0 j) := by rw [← hr0]; exact funext fun j => nI_nat _
  generalize hr1 : (fun j => (mo_row s j).toUInt32.toNat) = r1
  have hr' : mo_row s = fun j => nI (r1 j) := by rw [← hr1]; exact funext fun j => nI_nat _
  generalize hT : j5_fs (j7_o wl) 11 (jU r0 0 0, wa_fr s, 0) = T
  generalize hE : j7_gr (j7_o wl) 10 1 1 (jU (jU r1 0 0) 1 0, mo_fst s, 0) = E
  obtain ⟨q1, q2, q3⟩ := rounds_e w3 r0 r1 (wa_fr s) (mo_fst s) hT hE
  have E6 := ev6_rounds_n (G := G) w2 hr hT
  unfold j5_fr at E6
  rcases w5 with w5 | ⟨w5, r2, f2, T2, c0, c1, c2⟩
  · rw [if_pos w5] at E6
    have E7 := ev7_rounds_n (G := G) (s := (wa_rfS (j5_sT s T) 1)) h8.1 w1 hr' hE
    rw [show wa_rc (wa_rfS (j5_sT s T) 1) = E.2.2 from q1] at E6
    exact ⟨_, _, _, ⟨_, rfl⟩, E6, E7, ⟨Iv_tx_mv h1 rfl rfl rfl rfl, Iv_kd_mv h2 rfl rfl, Iv_kt_mv h3 rfl rfl, Iv_w_mv h4 rfl rfl rfl rfl rfl rfl, Iv_t_mv h5 rfl rfl rfl rfl rfl, Iv_k2_mv h6 rfl rfl rfl rfl rfl rfl rfl, Iv_k3_mv h7 rfl rfl rfl rfl rfl rfl rfl, Iv_c_mv h8 rfl rfl, ⟨wl, w1, w2, w3, w4, .inr ⟨by show ¬ (1 : Int32) = 0; decide, r0, wa_fr s, T, hT, rfl, rfl⟩⟩⟩⟩
  · rw [if_neg w5] at E6
    have E7 := ev7_rounds_n (G := G) (s := s) h8.1 w1 hr' hE
    obtain ⟨q1', q2', q3'⟩ := rounds_e w3 r2 r1 f2 (mo_fst s) c0 hE
    rw [c1, q1'] at E6
    exact ⟨_, _, _, ⟨_, rfl⟩, E6, E7, Inv_mv h (sT7_Sm s E).1 (sT7_Sm s E).2⟩
set_option maxRecDepth 100000 in
set_option maxHeartbeats 1000000 in
theorem st_rounds_i {G : jj_G} {s : jj_S} (h : Inv s) {i : Nat} (hi : i < 12) : jStp G m6_rounds m7_rounds 17 2 [.int (nI i)] s isI := by
  obtain ⟨h1, h2, h3, h4, h5, h6, h7, h8, h9⟩ := id h
  obtain ⟨wl, w1, w2, w3, w4, w5⟩ := h9
  generalize hr0 : (fun j => (wa_rw s j).toUInt32.toNat) = r0
  have hr : wa_rw s = fun j => nI (r0 j) := by rw [← hr0]; exact funext fun j => nI_nat _
  generalize hr1 : (fun j => (mo_row s j).toUInt32.toNat) = r1
  have hr' : mo_row s = fun j => nI (r1 j) := by rw [← hr1]; exact funext fun j => nI_nat _
  generalize hT : j5_fs (j7_o wl) 11 (jU r0 0 0, wa_fr s, 0) = T
  generalize hE : j7_gr (j7_o wl) 10 1 1 (jU (jU r1 0 0) 1 0, mo_fst s, 0) = E
  obtain ⟨q1, q2, q3⟩ := rounds_e w3 r0 r1 (wa_fr s) (mo_fst s) hT hE
  have E6 := ev6_rounds (G := G) w2 hr hT hi
  unfold j5_fr at E6
  rcases w5 with w5 | ⟨w5, r2, f2, T2, c0, c1, c2⟩
  · rw [if_pos w5] at E6
    have E7 := ev7_rounds (G := G) (s := (wa_rfS (j5_sT s T) 1)) h8.1 w1 hr' hE hi
    have ev : (if wa_rc (wa_rfS (j5_sT s T) 1) ≤ 0 then (-1 : Int32) else wa_fr (wa_rfS (j5_sT s T) 1) i) = if E.2.2 = 0 then -1 else E.2.1 i := by
      show (if T.2.2 ≤ 0 then (-1 : Int32) else T.2.1 i) = _
      by_cases z : E.2.2 = 0
      · rw [if_pos z, if_pos (q2.mpr z)]
      · rw [if_neg z, if_neg (fun y => z (q2.mp y)), q3 z i hi]
    rw [ev] at E6
    exact ⟨_, _, _, ⟨_, rfl⟩, E6, E7, ⟨Iv_tx_mv h1 rfl rfl rfl rfl, Iv_kd_mv h2 rfl rfl, Iv_kt_mv h3 rfl rfl, Iv_w_mv h4 rfl rfl rfl rfl rfl rfl, Iv_t_mv h5 rfl rfl rfl rfl rfl, Iv_k2_mv h6 rfl rfl rfl rfl rfl rfl rfl, Iv_k3_mv h7 rfl rfl rfl rfl rfl rfl rfl, Iv_c_mv h8 rfl rfl, ⟨wl, w1, w2, w3, w4, .inr ⟨by show ¬ (1 : Int32) = 0; decide, r0, wa_fr s, T, hT, rfl, rfl⟩⟩⟩⟩
  · rw [if_neg w5] at E6
    have E7 := ev7_rounds (G := G) (s := s) h8.1 w1 hr' hE hi
    obtain ⟨q1', q2', q3'⟩ := rounds_e w3 r2 r1 f2 (mo_fst s) c0 hE
    have ev : (if wa_rc s ≤ 0 then (-1 : Int32) else wa_fr s i) = if E.2.2 = 0 then -1 else E.2.1 i := by
      rw [c1, c2]
      by_cases z : E.2.2 = 0
      · rw [if_pos z, if_pos (q2'.mpr z)]
      · rw [if_neg z, if_neg (fun y => z (q2'.mp y)), q3' z i hi]
    rw [ev] at E6
    exact ⟨_, _, _, ⟨_, rfl⟩, E6, E7, Inv_mv h (sT7_Sm s E).1 (sT7_Sm s E).2⟩
theorem rng_no {x : Int32} (h1 : ¬ x = -1) (h : ¬ vF x) : ¬ (-1 ≤ x ∧ x ≤ 11) := by
  intro z
  have a := Int32.le_iff_toInt_le.mp z.1
  have b := Int32.le_iff_toInt_le.mp z.2
  have e1 : (-1 : Int32).toInt = -1 := rfl
  have e2 : (11 : Int32).toInt = 11 := rfl
  rw [e1] at a
  rw [e2] at b
  by_cases c : x.toInt = -1
  · exact h1 (Int32.toInt_inj.mp (c.trans e1.symm))
  · refine h ⟨Int32.le_iff_toInt_le.mpr ?_, Int32.lt_iff_toInt_lt.mpr ?_⟩
    · show (0 : Int32).toInt ≤ x.toInt
      have e0 : (0 : Int32).toInt = 0 := rfl
      rw [e0]; omega
    · have e3 : (12 : Int32).toInt = 12 := rfl
      rw [e3]; omega
set_option maxRecDepth 100000 in
set_option maxHeartbeats 1000000 in
theorem st_rounds {G : jj_G} {s : jj_S} (h : Inv s) (x : Int32) : jStp G m6_rounds m7_rounds 17 2 [.int x] s isI := by
  obtain ⟨h1, h2, h3, h4, h5, h6, h7, h8, h9⟩ := id h
  by_cases x1 : x = -1
  · subst x1; exact st_rounds_n h
  · by_cases z : vF x
    · obtain ⟨i, hi, rfl⟩ := vF_n z
      exact st_rounds_i h hi
    · exact ⟨_, _, _, ⟨_, rfl⟩, ev6_rounds_b x x1 z, ev7_rounds_b (rng_no x1 z), h⟩
set_option maxRecDepth 100000 in
set_option maxHeartbeats 1000000 in
theorem st_walks {G : jj_G} {s : jj_S} (h : Inv s) (x y z : Int32) : jStp G m6_walks m7_walks 4 2 [.int x, .int y, .int z] s isL := by
  obtain ⟨h1, h2, h3, h4, h5, h6, h7, h8, h9⟩ := id h
  obtain ⟨wl, w1, w2, w3, w4⟩ := h9
  by_cases q : vF x ∧ vF y
  · obtain ⟨a, ha, rfl⟩ := vF_n q.1
    obtain ⟨b, hb, rfl⟩ := vF_n q.2
    by_cases hz : 0 ≤ z ∧ z ≤ 20
    · obtain ⟨n, hn, rfl⟩ := jb_num hz.1 ((jb_le_lt (a := 20) (b := 21) (by decide)).mp hz.2) (by decide)
      have E6 := ev6_walks (G := G) w2 ha hb hn
      rw [walks_e (j7_o wl) (fun _ v => v) s a n hb] at E6
      generalize j2_wk (j7_o wl) (fun _ v => v) (j2_so a (sh_he s, sh_th s) 12) n = P at E6
      have E7 := ev7_walks (G := G) (s := j2_S s P) h8.1 w1 ha hb hn
      rw [show j7_so (j2_S s P) a = j7_so s a from rfl] at E7
      generalize j7_wk (j7_o wl) (fun _ v => v) (j7_so s a) n = Q at E6 E7
      exact ⟨_, _, _, ⟨_, rfl⟩, E6, E7, Inv_mv (Inv_mv h (sS2_Sm s P).1 (sS2_Sm s P).2) (sN7_Sm _ Q).1 (sN7_Sm _ Q).2⟩
    · exact ⟨_, _, _, ⟨_, rfl⟩, ev6_walks_c ha hb hz, ev7_walks_c ha hb hz, h⟩
  · exact ⟨_, _, _, ⟨_, rfl⟩, ev6_walks_b x y z q, ev7_walks_b q, h⟩
set_option maxRecDepth 100000 in
set_option maxHeartbeats 1000000 in
theorem st_odds {G : jj_G} {s : jj_S} (h : Inv s) (x y z u : Int32) : jStp G m6_odds m7_odds 4 2 [.int x, .int y, .int z, .int u] s isL := by
  obtain ⟨h1, h2, h3, h4, h5, h6, h7, h8, h9⟩ := id h
  obtain ⟨wl, w1, w2, w3, w4⟩ := h9
  by_cases q : vF x ∧ vF y
  · obtain ⟨a, ha, rfl⟩ := vF_n q.1
    obtain ⟨b, hb, rfl⟩ := vF_n q.2
    by_cases hz : (0 ≤ z ∧ z ≤ 8) ∧ v01 u
    · obtain ⟨n, hn, rfl⟩ := jb_num hz.1.1 ((jb_le_lt (a := 8) (b := 9) (by decide)).mp hz.1.2) (by decide)
      have E6 := ev6_odds (G := G) w2 ha hb hn hz.2
      obtain ⟨c, c0, c1, c2⟩ := odds_e (o := j7_o wl) (fun f hf => j7_o_lt wl hf) s u ha hb hn
      rw [c2] at E6
      generalize j6_wk (j7_o wl) s a n = P at E6
      have E7 := ev7_odds (G := G) (s := j2_S s P) h8.1 w1 ha hb hn hz.2 (c := c) (by rw [show j7_so (j2_S s P) a = j7_so s a from rfl]; exact c1) c0
      rw [show j7_so (j2_S s P) a = j7_so s a from rfl] at E7
      generalize j7_wk (j2_gl (j7_o wl)) (j7_sv1 (j7_o wl)) (j7_so s a) n = Q at E6 E7
      exact ⟨_, _, _, ⟨_, rfl⟩, E6, E7, Inv_mv (Inv_mv h (sS2_Sm s P).1 (sS2_Sm s P).2) (sN7_Sm _ Q).1 (sN7_Sm _ Q).2⟩
    · exact ⟨_, _, _, ⟨_, rfl⟩, ev6_odds_c ha hb hz, ev7_odds_c ha hb hz, h⟩
  · exact ⟨_, _, _, ⟨_, rfl⟩, ev6_odds_b x y z u q, ev7_odds_b q, h⟩
theorem ne_out7 {x : Int32} (h : ∀ k, k < 8 → ¬ x = nI k) : x.toInt < 0 ∨ 7 < x.toInt := by
  apply Classical.byContradiction
  intro q
  have h1 : 0 ≤ x.toInt := by omega
  have h2 : x.toInt ≤ 7 := by omega
  refine h x.toInt.toNat (by omega) (Int32.toInt_inj.mp ?_)
  rw [nI_toInt (by omega)]
  omega
set_option maxRecDepth 100000 in
set_option maxHeartbeats 1000000 in
theorem st_count {G : jj_G} {s : jj_S} (h : Inv s) (x : Int32) : jStp G m6_count m7_count 5 3 [.int x] s isI := by
  obtain ⟨h1, h2, h3, h4, h5, h6, h7, h8, h9⟩ := id h
  obtain ⟨wl, w1, w2, w3, w4⟩ := h9
  by_cases hx : ∃ k, k < 8 ∧ x = nI k
  · obtain ⟨k, hk, rfl⟩ := hx
    by_cases k3 : k < 4
    · have E6 := ev6_count_k (G := G) (s := s) k3
      rw [kc_cong (nI k) (Iv_kd_eq h2) 12 (Nat.le_refl 12)] at E6
      exact ⟨_, _, _, ⟨_, rfl⟩, E6, ev7_count_k k3, h⟩
    · obtain ⟨kn, hkn⟩ : ∃ kn : Nat → Nat, ∀ f, f < 12 → (s1_kd s f = nI (kn f) ∧ kn f < 4) ∧ (mo_kind s f = nI (kn f) ∧ kn f < 4) := by
        refine ⟨fun f => if h : f < 12 then Classical.choose (h2 f h) else 0, fun f hf => ?_⟩
        show (s1_kd s f = nI (if h : f < 12 then Classical.choose (h2 f h) else 0) ∧ (if h : f < 12 then Classical.choose (h2 f h) else 0) < 4) ∧ (mo_kind s f = nI (if h : f < 12 then Classical.choose (h2 f h) else 0) ∧ (if h : f < 12 then Classical.choose (h2 f h) else 0) < 4)
        rw [dif_pos hf]
        have c := Classical.choose_spec (h2 f hf)
        exact ⟨⟨c.2.1, c.1⟩, ⟨c.2.2, c.1⟩⟩
      rcases (show k = 4 ∨ k = 5 ∨ k = 6 ∨ k = 7 by omega) with e | e | e | e
      · subst e
        have E6 := ev6_count_4 (G := G) w2
        rw [j5_wl_e wl 12 (Nat.le_refl 12)] at E6
        exact ⟨_, _, _, ⟨_, rfl⟩, E6, ev7_count_4 w1, h⟩
      · subst e
        have E6 := ev6_count_5 (G := G) w2 (fun f hf => (hkn f hf).1)
        have e : j7_ts (j6_tF s (j7_o wl) kn) 12 = j7_ts (j7_tF s wl kn) 12 := ts_cong 12 (fun f hf => by
          unfold j6_tF j7_tF
          rw [ct_cong 3 (Iv_kd_eq h2) 12 (Nat.le_refl 12), ct_cong 1 (Iv_kd_eq h2) 12 (Nat.le_refl 12)])
        rw [e] at E6
        have E7 := ev7_count_5 (G := G) h8.1 w1 (fun f hf => (hkn f hf).2)
        generalize j7_ts (j7_tF s wl kn) 12 = R at E6 E7
        exact ⟨_, _, _, ⟨_, rfl⟩, E6, E7, h⟩
      · subst e
        have E6 := ev6_count_6 (G := G) w2
        rw [(ic_e (fun f hf => j7_o_lt wl hf) w3 12 (Nat.le_refl 12)).2] at E6
        have E7 := ev7_count_6 (G := G) h8.1 w1
        generalize j7_ni (j7_o wl) 12 = R at E6 E7
        exact ⟨_, _, _, ⟨_, rfl⟩, E6, E7, h⟩
      · subst e
        obtain ⟨L, hL, e1, e2, e3⟩ := h1
        have E6 := ev6_count_7 (G := G) (s := s)
        have E7 := ev7_count_7 (G := G) (s := s)
        rw [e1] at E6
        rw [e2] at E7
        exact ⟨_, _, _, ⟨_, rfl⟩, E6, E7, h⟩
  · have ho := ne_out7 (x := x) (fun k hk e => hx ⟨k, hk, e⟩)
    exact ⟨_, _, _, ⟨_, rfl⟩, ev6_count_b ho, ev7_count_b ho, h⟩
