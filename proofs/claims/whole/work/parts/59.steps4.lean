/-! EACH CALL, the texts: fault, town -/
theorem j3_same_Sm {s t : jj_S} (h : j3_same s t) (hl : tx_len t = tx_len s) : Sm_c s t ∧ Sm_m s t := ⟨⟨hl, h.2.2.2, h.2.1 4 (by decide), h.2.1 6 (by decide), h.1 4 (by decide), h.2.1 8 (by decide), h.1 5 (by decide), h.1 6 (by decide), h.1 7 (by decide), h.1 8 (by decide), h.1 9 (by decide), h.2.1 9 (by decide), h.1 10 (by decide), h.1 11 (by decide), h.1 12 (by decide), h.2.1 11 (by decide), h.1 14 (by decide), h.1 15 (by decide), h.1 16 (by decide), h.2.1 13 (by decide), h.1 18 (by decide), h.1 19 (by decide), h.1 20 (by decide), h.1 21 (by decide), h.2.1 15 (by decide), h.1 22 (by decide), h.1 23 (by decide), h.1 24 (by decide), h.1 25 (by decide)⟩, ⟨h.2.1 17 (by decide), h.2.1 18 (by decide), h.2.1 19 (by decide), h.2.1 20 (by decide), h.1 26 (by decide), h.1 27 (by decide), h.1 28 (by decide), h.1 29 (by decide), h.1 30 (by decide), h.1 31 (by decide), h.2.1 21 (by decide), h.2.1 23 (by decide), h.2.1 24 (by decide)⟩⟩
theorem j3_rd_len {L : Nat} : ∀ n k (s : jj_S) a b, tx_len (j3_rd L n k s a b).2 = nI L := by
  intro n
  induction n with
  | zero => intro k s a b; rfl
  | succ n ih =>
    intro k s a b
    rw [j3_rd]
    generalize tk_l (tx_sg s) L b = R
    unfold j3_rk
    by_cases z1 : R.1 = true
    · rw [if_pos z1]
      generalize tk_t (tx_sg s) L R.2.1.2 = t
      generalize j3_ok s k R = s2
      unfold j3_rt
      by_cases z2 : t.1 = L
      · rw [if_pos z2]; rfl
      · rw [if_neg z2]
        by_cases z3 : tx_sg s2 t.1 = 59
        · rw [if_pos z3]; exact ih _ _ _ _
        · rw [if_neg z3]; rfl
    · rw [if_neg z1]; rfl
theorem jx_ex (s : jj_S) {L : Nat} (h : mo_by s = nI L) : ∃ X, jj_m s = jj_m (jx s L X) := by
  obtain ⟨p, hp⟩ : ∃ p, mo_pos s = nI p := ⟨_, nI_nat _⟩
  obtain ⟨a, ha⟩ : ∃ a, mo_tat s = nI a := ⟨_, nI_nat _⟩
  refine ⟨(p, a, mo_tok s, mo_dig s, mo_num s, mo_fa s, mo_read s), ?_⟩
  unfold jx
  rw [← h, show nI ((p, a, mo_tok s, mo_dig s, mo_num s, mo_fa s, mo_read s) : jx_X).1 = mo_pos s from hp.symm, show nI ((p, a, mo_tok s, mo_dig s, mo_num s, mo_fa s, mo_read s) : jx_X).2.1 = mo_tat s from ha.symm]
  rfl
theorem jx_Sm {s : jj_S} {L : Nat} (h : mo_by s = nI L) (v : Int32) (X : jx_X) : Sm_c s (jx (mo_rmS s v) L X) ∧ Sm_m s (jx (mo_rmS s v) L X) := ⟨⟨rfl, rfl, rfl, rfl, rfl, rfl, rfl, rfl, rfl, rfl, rfl, rfl, rfl, rfl, rfl, rfl, rfl, rfl, rfl, rfl, rfl, rfl, rfl, rfl, rfl, rfl, rfl, rfl, rfl⟩, ⟨rfl, rfl, rfl, rfl, rfl, rfl, rfl, rfl, rfl, h.symm, rfl, rfl, rfl⟩⟩
theorem j3_ex (s : jj_S) {L : Nat} (h : tx_len s = nI L) : ∃ a b, jj_m s = jj_m (j3_s s L a b) := by
  obtain ⟨a, ha⟩ : ∃ a, tx_ts s = nI a := ⟨_, nI_nat _⟩
  obtain ⟨b, hb⟩ : ∃ b, tx_te s = nI b := ⟨_, nI_nat _⟩
  exact ⟨a, b, by rw [j3_id h ha hb]⟩
def tk_F0 : Nat → tkR := fun _ => (false, (0, 0), 0, 0, 0)
/-- the class's reading -/
theorem rd6 {s : jj_S} {L : Nat} (hL : L ≤ 200) (hl : tx_len s = nI L) (a : Nat) : ∃ Y, j3_rd L 12 0 (tx_lcS s 0) a 0 = ((tk_rs (tx_sg s) L 12 0 0 0 tk_F0).1, Y) ∧ Sm_c s Y ∧ Sm_m s Y ∧ ((tk_rs (tx_sg s) L 12 0 0 0 tk_F0).1 = -1 → tx_lc Y = nI (tk_rs (tx_sg s) L 12 0 0 0 tk_F0).2.1 ∧ j3_lines Y (tk_rs (tx_sg s) L 12 0 0 0 tk_F0).2.1 (tk_rs (tx_sg s) L 12 0 0 0 tk_F0).2.2) := by
  have e0 : j3_rd L 12 0 (tx_lcS s 0) a 0 = j3_rd L 12 0 (tx_lcS s 0) 0 0 := rfl
  have h := j3_rd_rs hL 12 0 (tx_lcS s 0) 0 0 tk_F0 (Nat.zero_le L) (Nat.zero_le L) rfl (fun j hj => absurd hj (Nat.not_lt_zero j))
  have h2 := j3_rd_len (L := L) 12 0 (tx_lcS s 0) 0 0
  rw [e0]
  generalize j3_rd L 12 0 (tx_lcS s 0) 0 0 = Q at h h2 ⊢
  change Q.1 = (tk_rs (tx_sg s) L 12 0 0 0 tk_F0).1 ∧ j3_same (tx_lcS s 0) Q.2 ∧ ((tk_rs (tx_sg s) L 12 0 0 0 tk_F0).1 = -1 → tx_lc Q.2 = nI (tk_rs (tx_sg s) L 12 0 0 0 tk_F0).2.1 ∧ j3_lines Q.2 (tk_rs (tx_sg s) L 12 0 0 0 tk_F0).2.1 (tk_rs (tx_sg s) L 12 0 0 0 tk_F0).2.2) at h
  have hs := j3_same_Sm (j3_same_tr (j3_same_lc s) h.2.1) (h2.trans hl.symm)
  exact ⟨Q.2, Prod.ext h.1 rfl, hs.1, hs.2, h.2.2⟩
/-- the model's reading -/
theorem rd7 {sg : Nat → Int32} {L : Nat} (hL : L ≤ 200) (X : jx_X) : ∃ b k Y, jx_rd sg L 12 0 (0, X.2) = (b, k, Y) ∧ (b = true ↔ (tk_rs sg L 12 0 0 0 tk_F0).1 = -1) ∧ (b = false → Y.2.2.2.2.2.1 = (tk_rs sg L 12 0 0 0 tk_F0).1) ∧ (b = true → k = (tk_rs sg L 12 0 0 0 tk_F0).2.1 ∧ (tk_rs sg L 12 0 0 0 tk_F0).2.1 ≤ 12 ∧ jx_all Y.2.2.2.2.2.2 (tk_rs sg L 12 0 0 0 tk_F0).2.1 (tk_rs sg L 12 0 0 0 tk_F0).2.2) := by
  have h := jx_rd_rs (sg := sg) hL 12 0 0 (0, X.2) tk_F0 (Nat.zero_le L) (fun q => absurd q (by decide)) (Nat.zero_le L) (fun j hj => absurd hj (Nat.not_lt_zero j))
  generalize jx_rd sg L 12 0 (0, X.2) = Q at h ⊢
  change (Q.1 = true ↔ (tk_rs sg L 12 0 0 0 tk_F0).1 = -1) ∧ (Q.1 = false → Q.2.2.2.2.2.2.2.1 = (tk_rs sg L 12 0 0 0 tk_F0).1) ∧ (Q.1 = true → Q.2.1 = (tk_rs sg L 12 0 0 0 tk_F0).2.1 ∧ (tk_rs sg L 12 0 0 0 tk_F0).2.1 ≤ 12 ∧ jx_all Q.2.2.2.2.2.2.2.2 (tk_rs sg L 12 0 0 0 tk_F0).2.1 (tk_rs sg L 12 0 0 0 tk_F0).2.2) at h
  exact ⟨Q.1, Q.2.1, Q.2.2, rfl, h.1, h.2.1, h.2.2⟩
set_option maxRecDepth 100000 in
set_option maxHeartbeats 1000000 in
theorem st_fault {G : jj_G} {s : jj_S} (h : Inv s)  : jStp G m6_fault m7_fault 9 6 [] s isI := by
  obtain ⟨h1, h2, h3, h4, h5, h6, h7, h8, h9⟩ := id h
  obtain ⟨L, hL, e1, e2, e3⟩ := h1
  obtain ⟨a, b, es⟩ := j3_ex s e1
  obtain ⟨Y, y1, y2, y3, y4⟩ := rd6 hL e1 a
  have E6 := ev6_fault (G := G) (s := s) (a := a) (b := b) hL
  rw [← es, y1] at E6
  change jj_Ev G m6_fault _ _ (jj_m s) 0 0 (some (.int (tk_rs (tx_sg s) L 12 0 0 0 tk_F0).1)) (jj_m Y) at E6
  have hY := Inv_mv h y2 y3
  obtain ⟨e_mo_ball, e_mo_wall, e_mo_told, e_mo_kind, e_mo_tf, e_mo_td, e_mo_fi, e_mo_sd, e_mo_st, e_mo_by, e_mo_text, e_mo_img, e_mo_isk⟩ := id y3
  have b2 : mo_by Y = nI L := e_mo_by.trans e2
  obtain ⟨X, eX⟩ := jx_ex Y b2
  obtain ⟨bb, k, Z, z1, z2, z3, z4⟩ := rd7 (sg := mo_text Y) hL X
  have E7 := ev7_fault (G := G) (s := Y) (L := L) (X := X) hY.2.2.2.2.2.2.2.1.1 hL
  rw [← eX, z1] at E7
  have et : mo_text Y = tx_sg s := e_mo_text.trans e3.symm
  rw [et] at z2 z3
  generalize (tk_rs (tx_sg s) L 12 0 0 0 tk_F0).1 = R at E6 z2 z3
  have ev : (if ((bb, k, Z) : Bool × Nat × jx_X).1 = true then (-1 : Int32) else ((bb, k, Z) : Bool × Nat × jx_X).2.2.2.2.2.2.2.1) = R := by
    show (if bb = true then (-1 : Int32) else Z.2.2.2.2.2.1) = R
    by_cases y : bb = true
    · rw [if_pos y, z2.mp y]
    · rw [if_neg y]
      exact z3 (by simpa using y)
  rw [ev] at E7
  exact ⟨_, _, _, ⟨_, rfl⟩, E6, E7, Inv_mv hY (jx_Sm b2 _ _).1 (jx_Sm b2 _ _).2⟩
theorem dr6_m (A : jj_S) (R : tkR) : Sm_m A (j6_dr A R) := by
  unfold j6_dr
  repeat' split
  all_goals exact ⟨rfl, rfl, rfl, rfl, rfl, rfl, rfl, rfl, rfl, rfl, rfl, rfl, rfl⟩
theorem dr7_c (B : jj_S) (R : tkR) : Sm_c B (j7_dr B R) := by
  unfold j7_dr
  repeat' split
  all_goals exact ⟨rfl, rfl, rfl, rfl, rfl, rfl, rfl, rfl, rfl, rfl, rfl, rfl, rfl, rfl, rfl, rfl, rfl, rfl, rfl, rfl, rfl, rfl, rfl, rfl, rfl, rfl, rfl, rfl, rfl⟩
theorem ds6_m (A : jj_S) (F : Nat → tkR) : ∀ k, Sm_m A (j6_ds A F k) := by
  intro k
  induction k with
  | zero => exact Sm_m_rf A
  | succ k ih => rw [j6_ds]; exact Sm_m_tr ih (dr6_m _ _)
theorem ds7_c (B : jj_S) (F : Nat → tkR) : ∀ k, Sm_c B (j7_ds B F k) := by
  intro k
  induction k with
  | zero => exact Sm_c_rf B
  | succ k ih => rw [j7_ds]; exact Sm_c_tr ih (dr7_c _ _)
theorem ds6_k (A : jj_S) (F : Nat → tkR) : ∀ k, tx_sg (j6_ds A F k) = tx_sg A ∧ tn_go (j6_ds A F k) = tn_go A ∧ s0_st (j6_ds A F k) = s0_st A := by
  intro k
  induction k with
  | zero => exact ⟨rfl, rfl, rfl⟩
  | succ k ih =>
    rw [j6_ds]
    have h : ∀ (A : jj_S) (R : tkR), tx_sg (j6_dr A R) = tx_sg A ∧ tn_go (j6_dr A R) = tn_go A ∧ s0_st (j6_dr A R) = s0_st A := by
      intro A R
      unfold j6_dr
      repeat' split
      all_goals exact ⟨rfl, rfl, rfl⟩
    obtain ⟨a, b, c⟩ := h (j6_ds A F k) (F k)
    exact ⟨a.trans ih.1, b.trans ih.2.1, c.trans ih.2.2⟩
theorem ds7_k (B : jj_S) (F : Nat → tkR) : ∀ k, mo_text (j7_ds B F k) = mo_text B ∧ mo_ball (j7_ds B F k) = mo_ball B := by
  intro k
  induction k with
  | zero => exact ⟨rfl, rfl⟩
  | succ k ih =>
    rw [j7_ds]
    have h : ∀ (B : jj_S) (R : tkR), mo_text (j7_dr B R) = mo_text B ∧ mo_ball (j7_dr B R) = mo_ball B := by
      intro B R
      unfold j7_dr
      repeat' split
      all_goals exact ⟨rfl, rfl⟩
    obtain ⟨a, b⟩ := h (j7_ds B F k) (F k)
    exact ⟨a.trans ih.1, b.trans ih.2⟩
/-- lines done alike -/
def Rl (A B : jj_S) : Prop := (∀ f, f < 12 → ∃ n, n < 4 ∧ s0_kd A f = nI n ∧ mo_told B f = nI n) ∧ (∃ F D, F < 12 ∧ D < 5 ∧ s0_pl A = nI F ∧ mo_tf B = nI F ∧ s0_en A = nI D ∧ mo_td B = nI D) ∧ ∃ wl, mw_ok B wl ∧ j5_ok A (j7_o wl) ∧ wl_sym wl ∧ Iv_ca A wl
theorem Rl_wall {A B : jj_S} {wl : Nat → Nat → Bool} {f g : Nat} (hf : f < 12) (hg : g < 12) (hs : ¬ jb_sd f g = -1) (w1 : mw_ok B wl) (w2 : j5_ok A (j7_o wl)) (w3 : wl_sym wl) :
    (mw_ok (j7_dw B f g 1) (wl_s wl f (jb_sdN f g) g (jb_sdN g f) true) ∧ j5_ok (j6_cl A f g) (j7_o (wl_s wl f (jb_sdN f g) g (jb_sdN g f) true)) ∧ wl_sym (wl_s wl f (jb_sdN f g) g (jb_sdN g f) true)) ∧
    (mw_ok (j7_dw B f g 0) (wl_s wl f (jb_sdN f g) g (jb_sdN g f) false) ∧ j5_ok (j6_op A f g) (j7_o (wl_s wl f (jb_sdN f g) g (jb_sdN g f) false)) ∧ wl_sym (wl_s wl f (jb_sdN f g) g (jb_sdN g f) false)) := by
  have hn : ¬ f = g := fun e => hs (by rw [← e]; exact jb_sd_ne f hf)
  have ha := (jb_sd_n hs).2
  have hb := (jb_sd_n (jb_sd_sym f hf g hg hs)).2
  have mw : ∀ (v : Bool) (x : Int32), x = jb_b (v = true) → mw_ok (j7_dw B f g x) (wl_s wl f (jb_sdN f g) g (jb_sdN g f) v) := by
    intro v x hx i hi u hu
    show jU (jU (mo_wall B) (5 * f + jb_sdN f g) x) (5 * g + jb_sdN g f) x (5 * i + u) = jb_b (wl_s wl f (jb_sdN f g) g (jb_sdN g f) v i u = true)
    unfold wl_s
    by_cases c1 : i = f ∧ u = jb_sdN f g
    · obtain ⟨rfl, rfl⟩ := c1
      rw [if_pos (.inl ⟨rfl, rfl⟩), jU_ne _ _ (by omega), jU_at]; exact hx
    · by_cases c2 : i = g ∧ u = jb_sdN g f
      · obtain ⟨rfl, rfl⟩ := c2
        rw [if_pos (.inr ⟨rfl, rfl⟩), jU_at]; exact hx
      · rw [if_neg (fun q => q.elim c1 c2), jU_ne _ _ (by omega), jU_ne _ _ (by omega)]
        exact w1 i hi u hu
  have op : ∀ (x y : Nat), x < 4096 → y < 4096 → ∀ wl', (∀ i, i < 12 → j7_o wl' i = if i = g then y else if i = f then x else j7_o wl i) → ∀ t : jj_S, wa_op t = jU (jU (wa_op A) f (nI x)) g (nI y) → j5_ok t (j7_o wl') := by
    intro x y hx hy wl' hw' t ht i hi
    rw [ht, hw' i hi]
    by_cases c1 : i = g
    · subst c1; rw [if_pos rfl, jU_at]; exact ⟨rfl, hy⟩
    · rw [if_neg c1, jU_ne _ _ c1]
      by_cases c2 : i = f
      · subst c2; rw [if_pos rfl, jU_at]; exact ⟨rfl, hx⟩
      · rw [if_neg c2, jU_ne _ _ c2]; exact w2 i hi
  have lf := j7_o_lt wl hf
  have lg' := j7_o_lt wl hg
  have af : jn (wa_op A f) = j7_o wl f := by rw [(w2 f hf).1, jn_n (by omega)]
  have ag : jn (wa_op A g) = j7_o wl g := by rw [(w2 g hg).1, jn_n (by omega)]
  refine ⟨⟨mw true 1 rfl, ?_, wl_s_sym hf hg hn ha hb true w3⟩, ⟨mw false 0 rfl, ?_, wl_s_sym hf hg hn ha hb false w3⟩⟩
  · refine op (j5_cl (j7_o wl f) g) (j5_cl (j7_o wl g) f) (j5_cl_lt lf) (j5_cl_lt lg') _ (fun i hi => wl_close hf hg hn ha hb hi) _ ?_
    show jU (jU (wa_op A) f (nI (j5_cl (jn (wa_op A f)) g))) g (nI (j5_cl (jn (wa_op A g)) f)) = _
    rw [af, ag]
  · refine op (j7_o wl f ||| 2 ^ g) (j7_o wl g ||| 2 ^ f) (jor_lt lf hg) (jor_lt lg' hf) _ (fun i hi => wl_open hf hg hn ha hb hi) _ ?_
    show jU (jU (wa_op A) f (nI (jn (wa_op A f) ||| 2 ^ g))) g (nI (jn (wa_op A g) ||| 2 ^ f)) = _
    rw [af, ag]
theorem Rl_s {A B : jj_S} (h : Rl A B) {R : tkR} (hR : tk_okR R) : Rl (j6_dr A R) (j7_dr B R) := by
  obtain ⟨h1, ⟨F, D, hF, hD, p1, p2, d1, d2⟩, wl, w1, w2, w3, w4⟩ := h
  unfold j6_dr j7_dr
  unfold tk_okR at hR
  rcases hR with e | ⟨e, f, hf, ef⟩ | ⟨e, f, g, hf, hg, ef, eg, hs⟩ | ⟨e, f, g, hf, hg, ef, eg⟩
  · rw [if_pos e, if_pos e]
    refine ⟨fun f hf => ⟨0, by decide, ?_, ?_⟩, ⟨0, 0, by decide, by decide, rfl, rfl, rfl, rfl⟩, wl_0, ?_, ?_, wl_0_sym, .inl rfl, .inl rfl⟩
    · show jF (fun _ => (0 : Int32)) (s0_kd A) 12 f = 0
      rw [jF_in hf]
    · show jF (fun _ => (0 : Int32)) (mo_told B) 12 f = 0
      rw [jF_in hf]
    · intro f hf t ht
      show jF (fun _ => (0 : Int32)) (mo_wall B) 60 (5 * f + t) = jb_b (false = true)
      rw [jF_in (by omega)]
      rfl
    · intro f hf
      show jF (fun f => nI (jb_al f)) (wa_op A) 12 f = nI (j7_o wl_0 f) ∧ j7_o wl_0 f < 4096
      rw [jF_in hf, wl_0_o f hf]
      exact ⟨rfl, jb_al_lt f hf⟩
  · rw [if_neg (by omega), if_neg (by omega), if_neg (by omega), if_neg (by omega), if_neg (by omega), if_neg (by omega), if_neg (by omega), if_neg (by omega), ef, jn_n (by omega)]
    refine ⟨fun i hi => ?_, ⟨F, D, hF, hD, p1, p2, d1, d2⟩, wl, w1, w2, w3, w4⟩
    show ∃ n, n < 4 ∧ jU (s0_kd A) f (nI (tk_i R)) i = nI n ∧ jU (mo_told B) f (nI (tk_i R)) i = nI n
    by_cases c : i = f
    · subst c; rw [jU_at, jU_at]; exact ⟨tk_i R, e, rfl, rfl⟩
    · rw [jU_ne _ _ c, jU_ne _ _ c]; exact h1 i hi
  · have n7 : ¬ tk_i R = 7 := by omega
    rw [if_neg n7, if_neg n7, ef, eg, jn_n (by omega), jn_n (by omega)]
    obtain ⟨⟨c1, c2, c3⟩, ⟨o1, o2, o3⟩⟩ := Rl_wall hf hg hs w1 w2 w3
    rcases e with e | e
    · rw [if_pos e, if_pos e]
      exact ⟨h1, ⟨F, D, hF, hD, p1, p2, d1, d2⟩, _, c1, c2, c3, .inl rfl, .inl rfl⟩
    · have n4 : ¬ tk_i R = 4 := by omega
      rw [if_neg n4, if_neg n4, if_pos e, if_pos e]
      exact ⟨h1, ⟨F, D, hF, hD, p1, p2, d1, d2⟩, _, o1, o2, o3, .inl rfl, .inl rfl⟩
  · rw [if_neg (by omega), if_neg (by omega), if_neg (by omega), if_pos e, if_neg (by omega), if_neg (by omega), if_neg (by omega), if_pos e]
    exact ⟨h1, ⟨f, g, hf, hg, ef, ef, eg, eg⟩, wl, w1, w2, w3, w4⟩
theorem Rl_n {A B : jj_S} (h : Rl A B) {F : Nat → tkR} {n : Nat} (hF : ∀ j, j < n → tk_okR (F j)) : ∀ k, k ≤ n → Rl (j6_ds A F k) (j7_ds B F k) := by
  intro k
  induction k with
  | zero => intro _; exact h
  | succ k ih => intro hk; exact Rl_s (ih (by omega)) (hF k (by omega))
set_option maxRecDepth 100000 in
set_option maxHeartbeats 1000000 in
theorem st_town {G : jj_G} {s : jj_S} (h : Inv s)  : jStp G m6_town m7_town 9 6 [] s isI := by
  obtain ⟨h1, h2, h3, h4, h5, h6, h7, h8, h9⟩ := id h
  obtain ⟨L, hL, e1, e2, e3⟩ := h1
  obtain ⟨a, b, es⟩ := j3_ex s e1
  obtain ⟨Y, y1, y2, y3, y4⟩ := rd6 hL e1 a
  have hY := Inv_mv h y2 y3
  obtain ⟨e_tx_len, e_tx_sg, e_tn_go, e_wa_op, e_wa_rc, e_wa_fr, e_wa_wc, e_wa_ws, e_wa_wn, e_wa_rf, e_wa_wf, e_s0_kd, e_s0_pl, e_s0_en, e_s0_st, e_s1_kd, e_s1_pl, e_s1_en, e_s1_st, e_s2_kd, e_s2_pl, e_s2_en, e_s2_st, e_s2_tk, e_s3_kd, e_s3_pl, e_s3_en, e_s3_st, e_s3_tk⟩ := id y2
  obtain ⟨e_mo_ball, e_mo_wall, e_mo_told, e_mo_kind, e_mo_tf, e_mo_td, e_mo_fi, e_mo_sd, e_mo_st, e_mo_by, e_mo_text, e_mo_img, e_mo_isk⟩ := id y3
  have b2 : mo_by Y = nI L := e_mo_by.trans e2
  have et : mo_text Y = tx_sg s := e_mo_text.trans e3.symm
  by_cases zr : (tk_rs (tx_sg s) L 12 0 0 0 tk_F0).1 = -1
  · obtain ⟨y5, y6⟩ := y4 zr
    rw [zr] at y1
    obtain ⟨wl, w1, w2, w3, w4⟩ := hY.2.2.2.2.2.2.2.2
    have hk7 : ∀ X : jx_X, ∃ Z, jx_rd (tx_sg s) L 12 0 (0, X.2) = (true, (tk_rs (tx_sg s) L 12 0 0 0 tk_F0).2.1, Z) ∧ (tk_rs (tx_sg s) L 12 0 0 0 tk_F0).2.1 ≤ 12 ∧ jx_all Z.2.2.2.2.2.2 (tk_rs (tx_sg s) L 12 0 0 0 tk_F0).2.1 (tk_rs (tx_sg s) L 12 0 0 0 tk_F0).2.2 := fun X => by
      obtain ⟨bb, k, Z, z1, z2, z3, z4⟩ := rd7 (sg := tx_sg s) hL X
      have hbb := z2.mpr zr
      obtain ⟨c1, c2, c3⟩ := z4 hbb
      exact ⟨Z, by rw [z1, hbb, c1], c2, c3⟩
    generalize (tk_rs (tx_sg s) L 12 0 0 0 tk_F0).2.2 = F at y6 hk7
    generalize (tk_rs (tx_sg s) L 12 0 0 0 tk_F0).2.1 = n at y5 y6 hk7
    obtain ⟨Z0, _, hn12, hall0⟩ := hk7 (0, 0, 0, 0, 0, 0, fun _ => 0)
    have hok : ∀ j, j < n → tk_okR (F j) := fun j hj => (hall0 j hj).1
    have E6 := ev6_town (G := G) (s := s) (a := a) (b := b) (F := F) hL y1 y5 hn12 w2 (fun j hj => ⟨hok j hj, y6 j hj⟩)
    rw [← es] at E6
    have m6 := ds6_m Y F n
    have k6 := ds6_k Y F n
    have hRl : ∀ B, Sm_m Y B → Rl (j6_ds Y F n) (j7_ds B F n) := fun B hB => by
      refine Rl_n ?_ hok n (Nat.le_refl n)
      obtain ⟨f_mo_ball, f_mo_wall, f_mo_told, f_mo_kind, f_mo_tf, f_mo_td, f_mo_fi, f_mo_sd, f_mo_st, f_mo_by, f_mo_text, f_mo_img, f_mo_isk⟩ := hB
      obtain ⟨F0, D0, q1, q2, q3, q4, q5, q6, q7⟩ := hY.2.2.2.2.1
      refine ⟨fun f hf => ?_, ⟨F0, D0, q1, q2, q3, by rw [f_mo_tf]; exact q4, q5, by rw [f_mo_td]; exact q6⟩, wl, ?_, w2, w3, w4⟩
      · rw [f_mo_told]; exact hY.2.2.1 f hf
      · unfold mw_ok; rw [f_mo_wall]; exact w1
    generalize hA : j6_ds Y F n = A at E6 m6 k6 hRl
    have mt : Sm_m A (j6_tw A) := ⟨rfl, rfl, rfl, rfl, rfl, rfl, rfl, rfl, rfl, rfl, rfl, rfl, rfl⟩
    have mY := Sm_m_tr m6 mt
    generalize hs1 : j6_tw A = s1 at E6 mt mY
    have b3 : mo_by s1 = nI L := by
      obtain ⟨g_mo_ball, g_mo_wall, g_mo_told, g_mo_kind, g_mo_tf, g_mo_td, g_mo_fi, g_mo_sd, g_mo_st, g_mo_by, g_mo_text, g_mo_img, g_mo_isk⟩ := mY
      exact g_mo_by.trans b2
    have t3 : mo_text s1 = tx_sg s := by
      obtain ⟨g_mo_ball, g_mo_wall, g_mo_told, g_mo_kind, g_mo_tf, g_mo_td, g_mo_fi, g_mo_sd, g_mo_st, g_mo_by, g_mo_text, g_mo_img, g_mo_isk⟩ := mY
      exact g_mo_text.trans et
    have hb3 : mb_ok s1 := by
      obtain ⟨g_mo_ball, g_mo_wall, g_mo_told, g_mo_kind, g_mo_tf, g_mo_td, g_mo_fi, g_mo_sd, g_mo_st, g_mo_by, g_mo_text, g_mo_img, g_mo_isk⟩ := mY
      unfold mb_ok; rw [g_mo_ball]; exact hY.2.2.2.2.2.2.2.1.1
    obtain ⟨X, eX⟩ := jx_ex s1 b3
    obtain ⟨Z, z1, _, z3⟩ := hk7 X
    rw [← t3] at z1
    have E7 := ev7_town (G := G) (s := s1) (L := L) (X := X) (Y := Z) (n := n) (F := F) hb3 hL (by rw [z1]) (by rw [z1]) (by rw [z1]) hn12 z3
    rw [← eX] at E7
    have jS := jx_Sm b3 (nI n) Z
    have hB := hRl (jx (mo_rmS s1 (nI n)) L Z) (Sm_m_tr mY jS.2)
    have cB := ds7_c (jx (mo_rmS s1 (nI n)) L Z) F n
    have kB := ds7_k (jx (mo_rmS s1 (nI n)) L Z) F n
    have cA := Sm_c_tr jS.1 cB
    have tB : mo_text (j7_ds (jx (mo_rmS s1 (nI n)) L Z) F n) = mo_text s1 := kB.1
    have bB : mo_ball (j7_ds (jx (mo_rmS s1 (nI n)) L Z) F n) = mo_ball s1 := kB.2
    generalize j7_ds (jx (mo_rmS s1 (nI n)) L Z) F n = B at E7 hB cA tB bB
    refine ⟨_, _, _, ⟨_, rfl⟩, E6, E7, ?_⟩
    obtain ⟨c_tx_len, c_tx_sg, c_tn_go, c_wa_op, c_wa_rc, c_wa_fr, c_wa_wc, c_wa_ws, c_wa_wn, c_wa_rf, c_wa_wf, c_s0_kd, c_s0_pl, c_s0_en, c_s0_st, c_s1_kd, c_s1_pl, c_s1_en, c_s1_st, c_s2_kd, c_s2_pl, c_s2_en, c_s2_st, c_s2_tk, c_s3_kd, c_s3_pl, c_s3_en, c_s3_st, c_s3_tk⟩ := cA
    subst hs1
    obtain ⟨r1, ⟨F0, D0, q1, q2, q3, q4, q5, q6⟩, wl2, v1, v2, v3, v4⟩ := hB
    obtain ⟨k1, k2, k3⟩ := k6
    have st0 : s0_st A = 0 := by
      obtain ⟨_, _, _, _, _, _, _, _, z⟩ := hY.2.2.2.2.1
      exact k3.trans z
    refine ⟨⟨0, Nat.zero_le _, c_tx_len, rfl, ?_⟩, ?_, ?_, ⟨F0, D0, 0, q1, q2, Nat.zero_le _, c_s1_pl.trans q3, q4, c_s1_en.trans q5, q6, c_s1_st.trans st0, rfl⟩, ⟨F0, D0, q1, q2, c_s0_pl.trans q3, q4, c_s0_en.trans q5, q6, c_s0_st.trans st0⟩, .inl ⟨c_s2_tk, rfl⟩, .inl ⟨c_s3_tk, rfl⟩, ⟨?_, ?_⟩, ?_⟩
    · show tx_sg B = mo_text B
      rw [tB, t3]
      exact c_tx_sg.trans (k1.trans e_tx_sg)
    · intro f hf
      obtain ⟨m, m1, m2, m3⟩ := r1 f hf
      refine ⟨m, m1, (congrFun c_s1_kd f).trans ?_, ?_⟩
      · show jF (s0_kd A) (s1_kd A) 12 f = nI m
        rw [jF_in hf]; exact m2
      · show jF (mo_told B) (mo_kind B) 12 f = nI m
        rw [jF_in hf]; exact m3
    · intro f hf
      obtain ⟨m, m1, m2, m3⟩ := r1 f hf
      exact ⟨m, m1, (congrFun c_s0_kd f).trans m2, m3⟩
    · intro f hf t ht
      show mo_ball B (5 * f + t) = nI (jb_s f t)
      rw [bB]
      exact hb3 f hf t ht
    · intro t ht f hf
      show tn_go B (t * 12 + f) = _ ∧ _
      rw [c_tn_go]
      show tn_go A (t * 12 + f) = _ ∧ _
      rw [k2]
      exact hY.2.2.2.2.2.2.2.1.2 t ht f hf
    · refine ⟨wl2, v1, ?_, v3, ?_⟩
      · intro f hf
        show wa_op B f = _ ∧ _
        rw [c_wa_op]
        exact v2 f hf
      · unfold Iv_ca at v4 ⊢
        show (wa_wf B = 0 ∨ (¬ wa_wf B = 0 ∧ ∃ w, j5_wd (j7_o wl2) 4096 = w ∧ wa_wc B = w.1 ∧ wa_ws B = w.2.1 ∧ wa_wn B = nI w.2.2)) ∧ (wa_rf B = 0 ∨ (¬ wa_rf B = 0 ∧ ∃ r0 f0 T, j5_fs (j7_o wl2) 11 (jU r0 0 0, f0, 0) = T ∧ wa_rc B = T.2.2 ∧ wa_fr B = T.2.1))
        rw [c_wa_wf, c_wa_wc, c_wa_ws, c_wa_wn, c_wa_rf, c_wa_rc, c_wa_fr]
        exact v4
  · have E6 := ev6_town_b (G := G) (s := s) (a := a) (b := b) hL (by rw [y1]; exact zr)
    rw [← es, y1] at E6
    change jj_Ev G m6_town _ _ (jj_m s) 0 0 (some (.int (-4))) (jj_m Y) at E6
    obtain ⟨X, eX⟩ := jx_ex Y b2
    obtain ⟨bb, k, Z, z1, z2, z3, z4⟩ := rd7 (sg := mo_text Y) hL X
    rw [et] at z2
    have hbb : bb = false := by
      cases bb
      · rfl
      · exact absurd (z2.mp rfl) zr
    have E7 := ev7_town_b (G := G) (s := Y) (L := L) (X := X) hY.2.2.2.2.2.2.2.1.1 hL (by rw [z1]; exact hbb)
    rw [← eX] at E7
    exact ⟨_, _, _, ⟨_, rfl⟩, E6, E7, Inv_mv hY (jx_Sm b2 _ _).1 (jx_Sm b2 _ _).2⟩
