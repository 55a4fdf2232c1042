/-! EACH CALL: both answer alike and stand alike behind it -/
theorem ne_out2 {x : Int32} (h0 : ¬ x = 0) (h1 : ¬ x = 1) (h2 : ¬ x = 2) : x.toInt < 0 ∨ 2 < x.toInt := by
  have e : ∀ k, k < 3 → ¬ x = nI k → ¬ x.toInt = (k : Int) := fun k hk hn he => hn (Int32.toInt_inj.mp (by rw [he, nI_toInt (by omega)]))
  have a0 := e 0 (by decide) h0
  have a1 := e 1 (by decide) h1
  have a2 := e 2 (by decide) h2
  omega
theorem ne_out3 {x : Int32} (h0 : ¬ x = 0) (h1 : ¬ x = 1) (h2 : ¬ x = 2) (h3 : ¬ x = 3) : x.toInt < 0 ∨ 3 < x.toInt := by
  have e : ¬ x.toInt = (3 : Nat) := fun he => h3 (Int32.toInt_inj.mp (by rw [he]; rfl))
  have a := ne_out2 h0 h1 h2
  omega
theorem ct_cong {a : Nat} {kd kd2 : Nat → Int32} (x : Int32) (h : ∀ f, f < 12 → kd f = kd2 f) : ∀ k, k ≤ 12 → j7_ct a kd x k = j7_ct a kd2 x k := by
  intro k
  induction k with
  | zero => intro _; rfl
  | succ k ih => intro hk; rw [j7_ct, j7_ct, ih (by omega), h k (by omega)]
theorem kc_cong {kd kd2 : Nat → Int32} (x : Int32) (h : ∀ f, f < 12 → kd f = kd2 f) : ∀ k, k ≤ 12 → j7_kc kd x k = j7_kc kd2 x k := by
  intro k
  induction k with
  | zero => intro _; rfl
  | succ k ih => intro hk; rw [j7_kc, j7_kc, ih (by omega), h k (by omega)]
theorem Iv_kd_eq {s : jj_S} (h : Iv_kd s) : ∀ f, f < 12 → s1_kd s f = mo_kind s f := fun f hf => by
  obtain ⟨n, _, a, b⟩ := h f hf
  rw [a, b]
set_option maxRecDepth 100000 in
set_option maxHeartbeats 1000000 in
theorem st_write {G : jj_G} {s : jj_S} (h : Inv s) (v : Int64) (x : Int32) : jStp G m6_write m7_write 1 1 [.long v, .int x] s isI := by
  obtain ⟨h1, h2, h3, h4, h5, h6, h7, h8, h9⟩ := id h
  obtain ⟨L, hL, e1, e2, e3⟩ := h1
  by_cases hx : 1 ≤ x ∧ x ≤ 8
  · obtain ⟨n, hn9, hn1, rfl⟩ := jv18 hx
    have E6 := ev6_write (G := G) (s := s) (L := L) (n := n) v hL ⟨hn1, by omega⟩
    have es : jj_m s = jj_m (tx_lenS s (nI L)) := by rw [← e1]; rfl
    rw [← es] at E6
    by_cases z : L + n ≤ 200
    · rw [if_pos z, if_pos z] at E6
      have E7 := ev7_write (G := G) (s := tx_lenS (tx_sgS s (j3_ap v (tx_sg s) L n)) (nI (L + n))) (L := L) (n := n) v e2 hL ⟨hn1, by omega⟩
      rw [if_pos z, if_pos z] at E7
      refine ⟨_, _, _, ⟨_, rfl⟩, E6, E7, ⟨⟨L + n, z, rfl, rfl, ?_⟩, Iv_kd_mv h2 rfl rfl, Iv_kt_mv h3 rfl rfl, Iv_w_mv h4 rfl rfl rfl rfl rfl rfl, Iv_t_mv h5 rfl rfl rfl rfl rfl, Iv_k2_mv h6 rfl rfl rfl rfl rfl rfl rfl, Iv_k3_mv h7 rfl rfl rfl rfl rfl rfl rfl, Iv_c_mv h8 rfl rfl, Iv_o_mv h9 rfl rfl rfl rfl rfl rfl rfl rfl rfl⟩⟩
      show j3_ap v (tx_sg s) L n = j3_ap v (mo_text s) L n
      rw [e3]
    · rw [if_neg z, if_neg z] at E6
      have E7 := ev7_write (G := G) (s := tx_lenS s (nI L)) (L := L) (n := n) v e2 hL ⟨hn1, by omega⟩
      rw [if_neg z, if_neg z] at E7
      exact ⟨_, _, _, ⟨_, rfl⟩, E6, E7, ⟨⟨L, hL, rfl, e2, e3⟩, Iv_kd_mv h2 rfl rfl, Iv_kt_mv h3 rfl rfl, Iv_w_mv h4 rfl rfl rfl rfl rfl rfl, Iv_t_mv h5 rfl rfl rfl rfl rfl, Iv_k2_mv h6 rfl rfl rfl rfl rfl rfl rfl, Iv_k3_mv h7 rfl rfl rfl rfl rfl rfl rfl, Iv_c_mv h8 rfl rfl, Iv_o_mv h9 rfl rfl rfl rfl rfl rfl rfl rfl rfl⟩⟩
  · exact ⟨_, _, _, ⟨_, rfl⟩, ev6_write_b v hx, ev7_write_b v hx, h⟩
set_option maxRecDepth 100000 in
set_option maxHeartbeats 1000000 in
theorem st_erase {G : jj_G} {s : jj_S} (h : Inv s)  : jStp G m6_erase m7_erase 1 0 [] s isI := by
  obtain ⟨h1, h2, h3, h4, h5, h6, h7, h8, h9⟩ := id h
  obtain ⟨L, hL, e1, e2, e3⟩ := h1
  have E6 := ev6_erase (G := G) (s := s)
  rw [e1] at E6
  have E7 := ev7_erase (G := G) (s := tx_lenS s 0)
  rw [show mo_by (tx_lenS s 0) = nI L from e2] at E7
  exact ⟨_, _, _, ⟨_, rfl⟩, E6, E7, ⟨⟨0, Nat.zero_le _, rfl, rfl, e3⟩, Iv_kd_mv h2 rfl rfl, Iv_kt_mv h3 rfl rfl, Iv_w_mv h4 rfl rfl rfl rfl rfl rfl, Iv_t_mv h5 rfl rfl rfl rfl rfl, Iv_k2_mv h6 rfl rfl rfl rfl rfl rfl rfl, Iv_k3_mv h7 rfl rfl rfl rfl rfl rfl rfl, Iv_c_mv h8 rfl rfl, Iv_o_mv h9 rfl rfl rfl rfl rfl rfl rfl rfl rfl⟩⟩
set_option maxRecDepth 100000 in
set_option maxHeartbeats 1000000 in
theorem st_beside {G : jj_G} {s : jj_S} (h : Inv s) (x y : Int32) : jStp G m6_beside m7_beside 2 2 [.int x, .int y] s isI := by
  obtain ⟨h1, h2, h3, h4, h5, h6, h7, h8, h9⟩ := id h
  have E7 := ev7_beside (G := G) x y h8.1
  by_cases z : vF x ∧ vS y
  · rw [if_pos z] at E7
    obtain ⟨f, hf, rfl⟩ := vF_n z.1
    obtain ⟨g, hg, rfl⟩ := vS_n z.2
    rw [jn_n (by omega), jn_n (by omega)] at E7
    exact ⟨_, _, _, ⟨_, rfl⟩, ev6_beside hf hg, E7, h⟩
  · rw [if_neg z] at E7
    exact ⟨_, _, _, ⟨_, rfl⟩, ev6_beside_b x y z, E7, h⟩
set_option maxRecDepth 100000 in
set_option maxHeartbeats 1000000 in
theorem st_side {G : jj_G} {s : jj_S} (h : Inv s) (x y : Int32) : jStp G m6_side m7_side 3 2 [.int x, .int y] s isI := by
  obtain ⟨h1, h2, h3, h4, h5, h6, h7, h8, h9⟩ := id h
  have E7 := ev7_side (G := G) x y h8.1
  by_cases z : vF x ∧ vF y
  · rw [if_pos z] at E7
    obtain ⟨f, hf, rfl⟩ := vF_n z.1
    obtain ⟨g, hg, rfl⟩ := vF_n z.2
    rw [jn_n (by omega), jn_n (by omega)] at E7
    exact ⟨_, _, _, ⟨_, rfl⟩, ev6_side hf hg, E7, h⟩
  · rw [if_neg z] at E7
    exact ⟨_, _, _, ⟨_, rfl⟩, ev6_side_b x y z, E7, h⟩
set_option maxRecDepth 100000 in
set_option maxHeartbeats 1000000 in
theorem st_far {G : jj_G} {s : jj_S} (h : Inv s) (x y : Int32) : jStp G m6_far m7_far 5 2 [.int x, .int y] s isI := by
  obtain ⟨h1, h2, h3, h4, h5, h6, h7, h8, h9⟩ := id h
  have E7 := ev7_far (G := G) x y h8.1
  by_cases z : vF x ∧ vF y
  · rw [if_pos z] at E7
    obtain ⟨f, hf, rfl⟩ := vF_n z.1
    obtain ⟨g, hg, rfl⟩ := vF_n z.2
    rw [jn_n (by omega), jn_n (by omega)] at E7
    exact ⟨_, _, _, ⟨_, rfl⟩, ev6_far hf hg, E7, h⟩
  · rw [if_neg z] at E7
    exact ⟨_, _, _, ⟨_, rfl⟩, ev6_far_b x y z, E7, h⟩
set_option maxRecDepth 100000 in
set_option maxHeartbeats 1000000 in
theorem st_other {G : jj_G} {s : jj_S} (h : Inv s) (x : Int32) : jStp G m6_other m7_other 6 2 [.int x] s isI := by
  obtain ⟨h1, h2, h3, h4, h5, h6, h7, h8, h9⟩ := id h
  have E7 := ev7_other (G := G) x h8.1
  by_cases z : vF x
  · rw [if_pos z] at E7
    obtain ⟨f, hf, rfl⟩ := vF_n z
    rw [jn_n (by omega)] at E7
    exact ⟨_, _, _, ⟨_, rfl⟩, ev6_other hf, E7, h⟩
  · rw [if_neg z] at E7
    exact ⟨_, _, _, ⟨_, rfl⟩, ev6_other_b x z, E7, h⟩
set_option maxRecDepth 100000 in
set_option maxHeartbeats 1000000 in
theorem st_goes {G : jj_G} {s : jj_S} (h : Inv s) (x y z : Int32) : jStp G m6_goes m7_goes 2 2 [.int x, .int y, .int z] s isI := by
  obtain ⟨h1, h2, h3, h4, h5, h6, h7, h8, h9⟩ := id h
  by_cases q : vF x ∧ vS y ∧ vF z
  · obtain ⟨a, ha, rfl⟩ := vF_n q.1
    obtain ⟨t, ht, rfl⟩ := vS_n q.2.1
    obtain ⟨f, hf, rfl⟩ := vF_n q.2.2
    exact ⟨_, _, _, ⟨_, rfl⟩, ev6_goes h8.2 ha ht hf, ev7_goes h8.1 ha ht hf, Inv_mv h (la_Sm s a t).1 (la_Sm s a t).2⟩
  · exact ⟨_, _, _, ⟨_, rfl⟩, ev6_goes_b x y z q, ev7_goes_b q, h⟩
set_option maxRecDepth 100000 in
set_option maxHeartbeats 1000000 in
theorem st_field {G : jj_G} {s : jj_S} (h : Inv s) (x y : Int32) : jStp G m6_field m7_field 4 3 [.int x, .int y] s isI := by
  obtain ⟨h1, h2, h3, h4, h5, h6, h7, h8, h9⟩ := id h
  obtain ⟨wl, w1, w2, w3, w4⟩ := h9
  by_cases q : vF x
  · obtain ⟨f, hf, rfl⟩ := vF_n q
    obtain ⟨n, hn, k1, k2⟩ := h2 f hf
    by_cases y0 : y = 0
    · subst y0
      have E6 := ev6_field_0 (G := G) (s := s) hf
      have E7 := ev7_field_0 (G := G) w1 hf
      rw [k1] at E6
      rw [k2] at E7
      exact ⟨_, _, _, ⟨_, rfl⟩, E6, E7, h⟩
    · by_cases y1 : y = 1
      · subst y1
        have E6 := ev6_field_1 (G := G) hf w2
        rw [j5_sc_e wl hf 5 (Nat.le_refl 5)] at E6
        exact ⟨_, _, _, ⟨_, rfl⟩, E6, ev7_field_1 w1 hf, h⟩
      · by_cases y2 : y = 2
        · subst y2
          have E6 := ev6_field_2 (G := G) hf w2 k1 hn
          rw [ct_cong 3 (Iv_kd_eq h2) 12 (Nat.le_refl 12), ct_cong 1 (Iv_kd_eq h2) 12 (Nat.le_refl 12)] at E6
          exact ⟨_, _, _, ⟨_, rfl⟩, E6, ev7_field_2 w1 hf h8.1 k2 hn, h⟩
        · by_cases y3 : y = 3
          · subst y3
            exact ⟨_, _, _, ⟨_, rfl⟩, ev6_field_3 hf w2, ev7_field_3 w1 hf h8.1, h⟩
          · have ho := ne_out3 y0 y1 y2 y3
            exact ⟨_, _, _, ⟨_, rfl⟩, ev6_field_d hf ho, ev7_field_d w1 hf ho, h⟩
  · exact ⟨_, _, _, ⟨_, rfl⟩, ev6_field_b x y q, ev7_field_b q, h⟩
set_option maxRecDepth 100000 in
set_option maxHeartbeats 1000000 in
theorem st_as {G : jj_G} {s : jj_S} (h : Inv s) (x y : Int32) : jStp G m6_as m7_as 3 3 [.int x, .int y] s isI := by
  obtain ⟨h1, h2, h3, h4, h5, h6, h7, h8, h9⟩ := id h
  obtain ⟨wl, w1, w2, w3, w4⟩ := h9
  by_cases q : vF x
  · obtain ⟨f, hf, rfl⟩ := vF_n q
    obtain ⟨n, hn, k1, k2⟩ := h2 f hf
    by_cases y0 : 0 ≤ y ∧ y ≤ 4
    · obtain ⟨k, hk, rfl⟩ := vS_n (v04.mp y0)
      have E6 := ev6_as (G := G) w2 hf k1 hn hk
      rw [ct_cong 3 (Iv_kd_eq h2) 12 (Nat.le_refl 12), ct_cong 1 (Iv_kd_eq h2) 12 (Nat.le_refl 12)] at E6
      exact ⟨_, _, _, ⟨_, rfl⟩, E6, ev7_as h8.1 w1 hf k2 hn hk, h⟩
    · exact ⟨_, _, _, ⟨_, rfl⟩, ev6_as_c hf y0, ev7_as_c hf y0, h⟩
  · exact ⟨_, _, _, ⟨_, rfl⟩, ev6_as_b x y q, ev7_as_b q, h⟩
set_option maxRecDepth 100000 in
set_option maxHeartbeats 1000000 in
theorem st_walker {G : jj_G} {s : jj_S} (h : Inv s) (x : Int32) : jStp G m6_walker m7_walker 1 0 [.int x] s isI := by
  obtain ⟨h1, h2, h3, h4, h5, h6, h7, h8, h9⟩ := id h
  obtain ⟨F, D, N, hF, hD, hN, p1, p2, d1, d2, n1, n2⟩ := h4
  have E7 := ev7_walker (G := G) (s := s) x
  by_cases x0 : x = 0
  · subst x0
    have E6 := ev6_walker_0 (G := G) (s := s)
    rw [p1] at E6
    rw [if_pos rfl, p2] at E7
    exact ⟨_, _, _, ⟨_, rfl⟩, E6, E7, h⟩
  · rw [if_neg x0] at E7
    by_cases x1 : x = 1
    · subst x1
      have E6 := ev6_walker_1 (G := G) (s := s)
      rw [d1] at E6
      rw [if_pos rfl, d2] at E7
      exact ⟨_, _, _, ⟨_, rfl⟩, E6, E7, h⟩
    · rw [if_neg x1] at E7
      by_cases x2 : x = 2
      · subst x2
        have E6 := ev6_walker_2 (G := G) (s := s)
        rw [n1] at E6
        rw [if_pos rfl, n2] at E7
        exact ⟨_, _, _, ⟨_, rfl⟩, E6, E7, h⟩
      · rw [if_neg x2] at E7
        exact ⟨_, _, _, ⟨_, rfl⟩, ev6_walker_d (ne_out2 x0 x1 x2), E7, h⟩
