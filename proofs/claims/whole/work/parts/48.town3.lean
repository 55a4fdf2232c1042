/-! THE CLASS: lines done, a town told -/
def j6_cl (s : jj_S) (f g : Nat) : jj_S := wa_wfS (wa_rfS (wa_opS s (jU (jU (wa_op s) f (nI (j5_cl (jn (wa_op s f)) g))) g (nI (j5_cl (jn (wa_op s g)) f)))) 0) 0
def j6_op (s : jj_S) (f g : Nat) : jj_S := wa_wfS (wa_rfS (wa_opS s (jU (jU (wa_op s) f (nI (jn (wa_op s f) ||| 2 ^ g))) g (nI (jn (wa_op s g) ||| 2 ^ f)))) 0) 0
def j6_bg (s : jj_S) : jj_S := wa_wfS (wa_rfS (wa_opS (s0_enS (s0_plS (s0_kdS s (jF (fun _ => 0) (s0_kd s) 12)) 0) 0) (jF (fun f => nI (jb_al f)) (wa_op s) 12)) 0) 0
def j6_dr (s : jj_S) (R : tkR) : jj_S :=
  if tk_i R = 7 then j6_bg s else if tk_i R = 4 then j6_cl s (jn (tk_f R)) (jn (tk_g R)) else if tk_i R = 5 then j6_op s (jn (tk_f R)) (jn (tk_g R))
  else if tk_i R = 6 then s0_enS (s0_plS s (tk_f R)) (tk_g R) else s0_kdS s (jU (s0_kd s) (jn (tk_f R)) (nI (tk_i R)))
def j6_ds (s : jj_S) (F : Nat → tkR) : Nat → jj_S
  | 0 => s
  | k + 1 => j6_dr (j6_ds s F k) (F k)
def j6_tw (s : jj_S) : jj_S := s3_tkS (s2_tkS (s1_tkS (s1_stS (s1_enS (s1_plS (s1_kdS (tx_lenS s 0) (jF (s0_kd s) (s1_kd s) 12)) (s0_pl s)) (s0_en s)) (s0_st s)) 1) 0) 0
theorem jb_sd_ne : ∀ f, f < 12 → jb_sd f f = -1 := by decide +kernel
theorem j6_ok {s : jj_S} {o : Nat → Nat} {R : tkR} (ho : j5_ok s o) (hR : tk_okR R) : ∃ o', j5_ok (j6_dr s R) o' := by
  unfold j6_dr
  unfold tk_okR at hR
  have hjn : ∀ f, f < 12 → jn (wa_op s f) < 4096 := fun f hf => by rw [(ho f hf).1, jn_n (by have := (ho f hf).2; omega)]; exact (ho f hf).2
  have two : ∀ (f g x y : Nat), x < 4096 → y < 4096 → j5_ok (wa_wfS (wa_rfS (wa_opS s (jU (jU (wa_op s) f (nI x)) g (nI y))) 0) 0) (jU (jU o f x) g y) := by
    intro f g x y hx hy j hj
    show jU (jU (wa_op s) f (nI x)) g (nI y) j = nI (jU (jU o f x) g y j) ∧ jU (jU o f x) g y j < 4096
    by_cases e1 : j = g
    · subst e1; rw [jU_at, jU_at]; exact ⟨rfl, hy⟩
    · rw [jU_ne _ _ e1, jU_ne _ _ e1]
      by_cases e2 : j = f
      · subst e2; rw [jU_at, jU_at]; exact ⟨rfl, hx⟩
      · rw [jU_ne _ _ e2, jU_ne _ _ e2]; exact ho j hj
  rcases hR with e | ⟨e, f, hf, ef⟩ | ⟨e, f, g, hf, hg, ef, eg, hs⟩ | ⟨e, f, g, hf, hg, ef, eg⟩
  · rw [if_pos e]
    refine ⟨jb_al, fun j hj => ?_⟩
    show jF (fun f => nI (jb_al f)) (wa_op s) 12 j = nI (jb_al j) ∧ jb_al j < 4096
    rw [jF_in hj]
    exact ⟨rfl, jb_al_lt j hj⟩
  · rw [if_neg (by omega), if_neg (by omega), if_neg (by omega), if_neg (by omega)]
    exact ⟨o, ho⟩
  · rw [if_neg (by omega), ef, eg, jn_n (by omega), jn_n (by omega)]
    rcases e with e | e
    · rw [if_pos e]
      exact ⟨_, two f g _ _ (j5_cl_lt (hjn f hf)) (j5_cl_lt (hjn g hg))⟩
    · rw [if_neg (by omega), if_pos e]
      exact ⟨_, two f g _ _ (jor_lt (hjn f hf) hg) (jor_lt (hjn g hg) hf)⟩
  · rw [if_neg (by omega), if_neg (by omega), if_neg (by omega), if_pos e]
    exact ⟨o, ho⟩
def tx_same (s t : jj_S) : Prop := tx_wd t = tx_wd s ∧ tx_fs t = tx_fs s ∧ tx_sc t = tx_sc s ∧ tx_lc t = tx_lc s
theorem j6_dr_tx (s : jj_S) (R : tkR) : tx_same s (j6_dr s R) := by
  unfold j6_dr
  repeat' split
  all_goals exact ⟨rfl, rfl, rfl, rfl⟩
theorem j6_ds_tx (s : jj_S) (F : Nat → tkR) : ∀ k, tx_same s (j6_ds s F k) := by
  intro k
  induction k with
  | zero => exact ⟨rfl, rfl, rfl, rfl⟩
  | succ k ih =>
    rw [j6_ds]
    obtain ⟨a, b, c, d⟩ := j6_dr_tx (j6_ds s F k) (F k)
    exact ⟨a.trans ih.1, b.trans ih.2.1, c.trans ih.2.2.1, d.trans ih.2.2.2⟩
theorem j6_ds_ok {s : jj_S} {o : Nat → Nat} {F : Nat → tkR} {n : Nat} (ho : j5_ok s o) (hF : ∀ j, j < n → tk_okR (F j)) : ∀ k, k ≤ n → ∃ o', j5_ok (j6_ds s F k) o' := by
  intro k
  induction k with
  | zero => intro _; exact ⟨o, ho⟩
  | succ k ih =>
    intro hk
    obtain ⟨o', h⟩ := ih (by omega)
    exact j6_ok h (hF k (by omega))
theorem ev5_close_s {G : jj_G} {s : jj_S} {o : Nat → Nat} {f g : Nat} (ho : j5_ok s o) (hf : f < 12) (hg : g < 12) (hs : ¬ jb_sd f g = -1) : jj_Ev G m5_close 3 [.ref 9, .int (nI f), .int (nI g)] (jj_m s) 0 0 none (jj_m (j6_cl s f g)) := by
  have h := ev5_close (G := G) ho hf hg hs
  have hfg : ¬ g = f := fun e => hs (by rw [e]; exact jb_sd_ne f hf)
  rw [jU_ne _ _ hfg] at h
  unfold j6_cl
  rw [(ho f hf).1, (ho g hg).1, jn_n (by have := (ho f hf).2; omega), jn_n (by have := (ho g hg).2; omega)]
  exact h
theorem ev5_open_s {G : jj_G} {s : jj_S} {o : Nat → Nat} {f g : Nat} (ho : j5_ok s o) (hf : f < 12) (hg : g < 12) (hs : ¬ jb_sd f g = -1) : jj_Ev G m5_open 3 [.ref 9, .int (nI f), .int (nI g)] (jj_m s) 0 0 none (jj_m (j6_op s f g)) := by
  have h := ev5_open (G := G) ho hf hg hs
  have hfg : ¬ g = f := fun e => hs (by rw [e]; exact jb_sd_ne f hf)
  rw [jU_ne _ _ hfg] at h
  unfold j6_op
  rw [(ho f hf).1, (ho g hg).1, jn_n (by have := (ho f hf).2; omega), jn_n (by have := (ho g hg).2; omega)]
  exact h
set_option maxRecDepth 100000 in
set_option maxHeartbeats 1500000 in
theorem ev6_doLine {G : jj_G} {s : jj_S} {o : Nat → Nat} {R : tkR} (ho : j5_ok s o) (hok : tk_okR R) : jj_Ev G m6_doLine 4 [.ref 0, .int (nI (tk_i R)), .int (tk_f R), .int (tk_g R)] (jj_m s) 0 0 (none) (jj_m (j6_dr s R)) := by
  refine jj_Ev_of (lo := [some (.ref 0), some (.int (nI (tk_i R))), some (.int (tk_f R)), some (.int (tk_g R))]) (by decide +kernel) (Nat.le_of_ble_eq_true rfl) rfl (by trivial) ?_
  unfold j6_dr
  unfold tk_okR at hok
  generalize tk_i R = i at hok ⊢
  generalize tk_f R = F at hok ⊢
  generalize tk_g R = D at hok ⊢
  rcases hok with e | ⟨e, f, hf, ef⟩ | ⟨e, f, g, hf, hg, ef, eg, hs⟩ | ⟨e, f, g, hf, hg, ef, eg⟩
  · subst e
    rw [if_pos rfl]
    refine jj_iload_n dX6_doLine_0 rfl ?_
    refine jj_swIn (tgt := 32) (off := 31) dX6_doLine_1 (by decide) (by decide) (by decide) (by decide) ?_
    refine jj_aload_n dX6_doLine_32 rfl ?_
    refine jj_getf dX6_doLine_33 fl6_40 rfl rfl ?_
    refine jj_callV (M2 := m1_begin) dX6_doLine_36 ml6_92 tm1_begin (ev1_begin) rfl rfl rfl rfl rfl (by omega) (Nat.le_of_ble_eq_true rfl) ?_
    refine jj_aload_n dX6_doLine_39 rfl ?_
    refine jj_getf dX6_doLine_40 fl6_26 rfl rfl ?_
    refine jj_callV (M2 := m5_clear) dX6_doLine_43 ml6_95 tm5_clear (ev5_clear) rfl rfl rfl rfl rfl (by omega) (Nat.le_of_ble_eq_true rfl) ?_
    refine jj_goto (tgt := 94) dX6_doLine_46 (by decide) ?_
    exact jj_leaf dX6_doLine_94 rfl rfl
  · subst ef
    rw [if_neg (by omega), if_neg (by omega), if_neg (by omega), if_neg (by omega), jn_n (by omega)]
    rcases (show i = 0 ∨ i = 1 ∨ i = 2 ∨ i = 3 by omega) with q | q | q | q
    · subst q
      refine jj_iload_n dX6_doLine_0 rfl ?_
      refine jj_swOut (tgt := 85) dX6_doLine_1 (by decide) (by decide) ?_
      refine jj_aload_n dX6_doLine_85 rfl ?_
      refine jj_getf dX6_doLine_86 fl6_40 rfl rfl ?_
      refine jj_iload_n dX6_doLine_89 rfl ?_
      refine jj_iload_n dX6_doLine_90 rfl ?_
      refine jj_callV (M2 := m1_plant) dX6_doLine_91 ml6_107 tm1_plant (ev1_plant_0 _ hf) rfl rfl rfl rfl rfl (by omega) (Nat.le_of_ble_eq_true rfl) ?_
      exact jj_leaf dX6_doLine_94 rfl rfl
    · subst q
      refine jj_iload_n dX6_doLine_0 rfl ?_
      refine jj_swOut (tgt := 85) dX6_doLine_1 (by decide) (by decide) ?_
      refine jj_aload_n dX6_doLine_85 rfl ?_
      refine jj_getf dX6_doLine_86 fl6_40 rfl rfl ?_
      refine jj_iload_n dX6_doLine_89 rfl ?_
      refine jj_iload_n dX6_doLine_90 rfl ?_
      refine jj_callV (M2 := m1_plant) dX6_doLine_91 ml6_107 tm1_plant (ev1_plant_0 _ hf) rfl rfl rfl rfl rfl (by omega) (Nat.le_of_ble_eq_true rfl) ?_
      exact jj_leaf dX6_doLine_94 rfl rfl
    · subst q
      refine jj_iload_n dX6_doLine_0 rfl ?_
      refine jj_swOut (tgt := 85) dX6_doLine_1 (by decide) (by decide) ?_
      refine jj_aload_n dX6_doLine_85 rfl ?_
      refine jj_getf dX6_doLine_86 fl6_40 rfl rfl ?_
      refine jj_iload_n dX6_doLine_89 rfl ?_
      refine jj_iload_n dX6_doLine_90 rfl ?_
      refine jj_callV (M2 := m1_plant) dX6_doLine_91 ml6_107 tm1_plant (ev1_plant_0 _ hf) rfl rfl rfl rfl rfl (by omega) (Nat.le_of_ble_eq_true rfl) ?_
      exact jj_leaf dX6_doLine_94 rfl rfl
    · subst q
      refine jj_iload_n dX6_doLine_0 rfl ?_
      refine jj_swOut (tgt := 85) dX6_doLine_1 (by decide) (by decide) ?_
      refine jj_aload_n dX6_doLine_85 rfl ?_
      refine jj_getf dX6_doLine_86 fl6_40 rfl rfl ?_
      refine jj_iload_n dX6_doLine_89 rfl ?_
      refine jj_iload_n dX6_doLine_90 rfl ?_
      refine jj_callV (M2 := m1_plant) dX6_doLine_91 ml6_107 tm1_plant (ev1_plant_0 _ hf) rfl rfl rfl rfl rfl (by omega) (Nat.le_of_ble_eq_true rfl) ?_
      exact jj_leaf dX6_doLine_94 rfl rfl
  · subst ef
    subst eg
    rw [if_neg (by omega), jn_n (by omega), jn_n (by omega)]
    rcases e with e | e
    · subst e
      rw [if_pos rfl]
      refine jj_iload_n dX6_doLine_0 rfl ?_
      refine jj_swIn (tgt := 49) (off := 48) dX6_doLine_1 (by decide) (by decide) (by decide) (by decide) ?_
      refine jj_aload_n dX6_doLine_49 rfl ?_
      refine jj_getf dX6_doLine_50 fl6_26 rfl rfl ?_
      refine jj_iload_n dX6_doLine_53 rfl ?_
      refine jj_iload_n dX6_doLine_54 rfl ?_
      refine jj_callV (M2 := m5_close) dX6_doLine_55 ml6_97 tm5_close (ev5_close_s ho hf hg hs) rfl rfl rfl rfl rfl (by omega) (Nat.le_of_ble_eq_true rfl) ?_
      refine jj_goto (tgt := 94) dX6_doLine_58 (by decide) ?_
      exact jj_leaf dX6_doLine_94 rfl rfl
    · subst e
      rw [if_neg (by decide), if_pos rfl]
      refine jj_iload_n dX6_doLine_0 rfl ?_
      refine jj_swIn (tgt := 61) (off := 60) dX6_doLine_1 (by decide) (by decide) (by decide) (by decide) ?_
      refine jj_aload_n dX6_doLine_61 rfl ?_
      refine jj_getf dX6_doLine_62 fl6_26 rfl rfl ?_
      refine jj_iload_n dX6_doLine_65 rfl ?_
      refine jj_iload_n dX6_doLine_66 rfl ?_
      refine jj_callV (M2 := m5_open) dX6_doLine_67 ml6_101 tm5_open (ev5_open_s ho hf hg hs) rfl rfl rfl rfl rfl (by omega) (Nat.le_of_ble_eq_true rfl) ?_
      refine jj_goto (tgt := 94) dX6_doLine_70 (by decide) ?_
      exact jj_leaf dX6_doLine_94 rfl rfl
  · subst e
    rw [if_neg (by decide), if_neg (by decide), if_neg (by decide), if_pos rfl]
    refine jj_iload_n dX6_doLine_0 rfl ?_
    refine jj_swIn (tgt := 73) (off := 72) dX6_doLine_1 (by decide) (by decide) (by decide) (by decide) ?_
    refine jj_aload_n dX6_doLine_73 rfl ?_
    refine jj_getf dX6_doLine_74 fl6_40 rfl rfl ?_
    refine jj_iload_n dX6_doLine_77 rfl ?_
    refine jj_iload_n dX6_doLine_78 rfl ?_
    refine jj_callV (M2 := m1_stand) dX6_doLine_79 ml6_104 tm1_stand (ev1_stand_0 _ _) rfl rfl rfl rfl rfl (by omega) (Nat.le_of_ble_eq_true rfl) ?_
    refine jj_goto (tgt := 94) dX6_doLine_82 (by decide) ?_
    exact jj_leaf dX6_doLine_94 rfl rfl
set_option maxRecDepth 100000 in
set_option maxHeartbeats 1500000 in
theorem ev6_fault {G : jj_G} {s : jj_S} {L a b : Nat} (hL : L ≤ 200) : jj_Ev G m6_fault 9 [.ref 0] (jj_m (j3_s s L a b)) 0 0 (some (.int (j3_rd L 12 0 (tx_lcS s 0) a 0).1)) (jj_m (j3_rd L 12 0 (tx_lcS s 0) a 0).2) := by
  refine jj_Ev_of (lo := [some (.ref 0)]) (by decide +kernel) (Nat.le_of_ble_eq_true rfl) rfl (by trivial) ?_
  have hc := ev3_read (G := G) (s := s) (L := L) (a := a) (b := b) hL
  generalize j3_rd L 12 0 (tx_lcS s 0) a 0 = Q at hc ⊢
  refine jj_aload_n dX6_fault_0 rfl ?_
  refine jj_getf dX6_fault_1 fl6_12 rfl rfl ?_
  refine jj_callV (M2 := m3_read) dX6_fault_4 ml6_65 tm3_read (hc) rfl rfl rfl rfl rfl (by omega) (Nat.le_of_ble_eq_true rfl) ?_
  exact jj_leaf dX6_fault_7 rfl rfl
set_option maxRecDepth 100000 in
set_option maxHeartbeats 1500000 in
theorem ev6_town_b {G : jj_G} {s : jj_S} {L a b : Nat} (hL : L ≤ 200) (hQ : ¬ (j3_rd L 12 0 (tx_lcS s 0) a 0).1 = -1) : jj_Ev G m6_town 9 [.ref 0] (jj_m (j3_s s L a b)) 0 0 (some (.int (-4))) (jj_m (j3_rd L 12 0 (tx_lcS s 0) a 0).2) := by
  refine jj_Ev_of (lo := [some (.ref 0), none, none]) (by decide +kernel) (Nat.le_of_ble_eq_true rfl) rfl (by trivial) ?_
  have hc := ev3_read (G := G) (s := s) (L := L) (a := a) (b := b) hL
  generalize j3_rd L 12 0 (tx_lcS s 0) a 0 = Q at hc hQ ⊢
  refine jj_aload_n dX6_town_0 rfl ?_
  refine jj_getf dX6_town_1 fl6_12 rfl rfl ?_
  refine jj_callV (M2 := m3_read) dX6_town_4 ml6_65 tm3_read (hc) rfl rfl rfl rfl rfl (by omega) (Nat.le_of_ble_eq_true rfl) ?_
  refine jj_iconst (v := (-1)) dX6_town_7 (by decide) ?_
  refine jj_icmp_eq (tgt := 14) dX6_town_8 (by decide) (fun zz => absurd zz hQ) (fun _ => ?_)
  refine jj_bipush (v := (-4)) dX6_town_11 (by decide) ?_
  exact jj_leaf dX6_town_13 rfl rfl
set_option maxRecDepth 100000 in
set_option maxHeartbeats 1500000 in
theorem ev6_town {G : jj_G} {s : jj_S} {o : Nat → Nat} {L a b n : Nat} {F : Nat → tkR} {Y : jj_S} (hL : L ≤ 200) (hQ : (j3_rd L 12 0 (tx_lcS s 0) a 0) = (-1, Y)) (hlc : tx_lc Y = nI n) (hn : n ≤ 12) (ho : j5_ok Y o) (hw : ∀ j, j < n → tk_okR (F j) ∧ tx_wd Y j = nI (tk_i (F j)) ∧ tx_fs Y j = tk_f (F j) ∧ tx_sc Y j = tk_g (F j)) : jj_Ev G m6_town 9 [.ref 0] (jj_m (j3_s s L a b)) 0 0 (some (.int (nI n))) (jj_m (j6_tw (j6_ds Y F n))) := by
  refine jj_Ev_of (lo := [some (.ref 0), none, none]) (by decide +kernel) (Nat.le_of_ble_eq_true rfl) rfl (by trivial) ?_
  have hc := ev3_read (G := G) (s := s) (L := L) (a := a) (b := b) hL
  rw [hQ] at hc
  change jj_Ev G m3_read 8 _ _ 0 0 (some (.int (-1))) (jj_m Y) at hc
  obtain ⟨t1, t2, t3, t4⟩ := j6_ds_tx Y F n
  have L1 : ∀ k, k ≤ n → jj_Go G m6_town 9 24 [some (.ref 0), some (.int (nI n)), some (.int (nI k))] [] (jj_m (j6_ds Y F k)) 0 0 (some (.int (nI n))) (jj_m (j6_tw (j6_ds Y F n))) := by
    refine jj_up n (fun k hk ih => ?_) ?_
    · obtain ⟨ok, hok⟩ := j6_ds_ok ho (fun j hj => (hw j hj).1) k (by omega)
      obtain ⟨u1, u2, u3, u4⟩ := j6_ds_tx Y F k
      obtain ⟨w1, w2, w3, w4⟩ := hw k hk
      have e4 : j6_ds Y F (k + 1) = j6_dr (j6_ds Y F k) (F k) := rfl
      rw [e4] at ih
      have g1 : tx_wd (j6_ds Y F k) k = nI (tk_i (F k)) := by rw [u1]; exact w2
      have g2 : tx_fs (j6_ds Y F k) k = tk_f (F k) := by rw [u2]; exact w3
      have g3 : tx_sc (j6_ds Y F k) k = tk_g (F k) := by rw [u3]; exact w4
      generalize j6_ds Y F k = sk at hok ih g1 g2 g3 ⊢
      refine jj_iload_n dX6_town_24 rfl ?_
      refine jj_iload_n dX6_town_25 rfl ?_
      refine jj_icmp_ge (tgt := 63) dX6_town_26 (by decide) (fun zz => absurd zz (nI_ge (a := k) (b := n) hk (by omega))) (fun _ => ?_)
      refine jj_aload_n dX6_town_29 rfl ?_
      refine jj_aload_n dX6_town_30 rfl ?_
      refine jj_getf dX6_town_31 fl6_12 rfl rfl ?_
      refine jj_iload_n dX6_town_34 rfl ?_
      refine jj_callV (M2 := m3_wordOf) dX6_town_35 ml6_71 tm3_wordOf (ev3_wordOf (s := sk) (k := k) (by omega)) rfl rfl rfl rfl rfl (by omega) (Nat.le_of_ble_eq_true rfl) ?_
      rw [g1]
      refine jj_aload_n dX6_town_38 rfl ?_
      refine jj_getf dX6_town_39 fl6_12 rfl rfl ?_
      refine jj_iload_n dX6_town_42 rfl ?_
      refine jj_callV (M2 := m3_firstOf) dX6_town_43 ml6_75 tm3_firstOf (ev3_firstOf (s := sk) (k := k) (by omega)) rfl rfl rfl rfl rfl (by omega) (Nat.le_of_ble_eq_true rfl) ?_
      rw [g2]
      refine jj_aload_n dX6_town_46 rfl ?_
      refine jj_getf dX6_town_47 fl6_12 rfl rfl ?_
      refine jj_iload_n dX6_town_50 rfl ?_
      refine jj_callV (M2 := m3_secondOf) dX6_town_51 ml6_78 tm3_secondOf (ev3_secondOf (s := sk) (k := k) (by omega)) rfl rfl rfl rfl rfl (by omega) (Nat.le_of_ble_eq_true rfl) ?_
      rw [g3]
      refine jj_callV (M2 := m6_doLine) dX6_town_54 ml6_81 tm6_doLine (ev6_doLine (R := F k) hok w1) rfl rfl rfl rfl rfl (by omega) (Nat.le_of_ble_eq_true rfl) ?_
      refine jj_iinc dX6_town_57 rfl (jb_i k) (by decide) rfl ?_
      refine jj_goto (tgt := 24) dX6_town_60 (by decide) ?_
      exact ih
    · generalize j6_ds Y F n = sn at t4 ⊢
      refine jj_iload_n dX6_town_24 rfl ?_
      refine jj_iload_n dX6_town_25 rfl ?_
      refine jj_icmp_ge (tgt := 63) dX6_town_26 (by decide) (fun _ => ?_) (fun zz => absurd (nI_le (a := n) (b := n) (Nat.le_refl n) (by omega)) zz)
      refine jj_aload_n dX6_town_63 rfl ?_
      refine jj_getf dX6_town_64 fl6_12 rfl rfl ?_
      refine jj_callV (M2 := m3_clear) dX6_town_67 ml6_61 tm3_clear (ev3_clear) rfl rfl rfl rfl rfl (by omega) (Nat.le_of_ble_eq_true rfl) ?_
      refine jj_pop dX6_town_70 rfl ?_
      refine jj_aload_n dX6_town_71 rfl ?_
      refine jj_getf dX6_town_72 fl6_44 rfl rfl ?_
      refine jj_aload_n dX6_town_75 rfl ?_
      refine jj_getf dX6_town_76 fl6_40 rfl rfl ?_
      refine jj_callV (M2 := m1_take) dX6_town_79 ml6_85 tm1_take (ev1_take_1_0) rfl rfl rfl rfl rfl (by omega) (Nat.le_of_ble_eq_true rfl) ?_
      refine jj_aload_n dX6_town_82 rfl ?_
      refine jj_getf dX6_town_83 fl6_47 rfl rfl ?_
      refine jj_callV (M2 := m1_forget) dX6_town_86 ml6_89 tm1_forget (ev1_forget_2) rfl rfl rfl rfl rfl (by omega) (Nat.le_of_ble_eq_true rfl) ?_
      refine jj_aload_n dX6_town_89 rfl ?_
      refine jj_getf dX6_town_90 fl6_50 rfl rfl ?_
      refine jj_callV (M2 := m1_forget) dX6_town_93 ml6_89 tm1_forget (ev1_forget_3) rfl rfl rfl rfl rfl (by omega) (Nat.le_of_ble_eq_true rfl) ?_
      refine jj_iload_n dX6_town_96 rfl ?_
      exact jj_leaf dX6_town_97 rfl rfl
  refine jj_aload_n dX6_town_0 rfl ?_
  refine jj_getf dX6_town_1 fl6_12 rfl rfl ?_
  refine jj_callV (M2 := m3_read) dX6_town_4 ml6_65 tm3_read (hc) rfl rfl rfl rfl rfl (by omega) (Nat.le_of_ble_eq_true rfl) ?_
  refine jj_iconst (v := (-1)) dX6_town_7 (by decide) ?_
  refine jj_icmp_eq (tgt := 14) dX6_town_8 (by decide) (fun _ => ?_) (fun zz => absurd rfl zz)
  refine jj_aload_n dX6_town_14 rfl ?_
  refine jj_getf dX6_town_15 fl6_12 rfl rfl ?_
  refine jj_callV (M2 := m3_lineCount) dX6_town_18 ml6_68 tm3_lineCount (ev3_lineCount) rfl rfl rfl rfl rfl (by omega) (Nat.le_of_ble_eq_true rfl) ?_
  rw [hlc]
  refine jj_istore_n dX6_town_21 rfl (by decide) rfl ?_
  refine jj_iconst (v := nI 0) dX6_town_22 (by decide) ?_
  refine jj_istore_n dX6_town_23 rfl (by decide) rfl ?_
  exact L1 0 (Nat.zero_le n)
/-- all but the text's scratch is as it was -/
def j3_same (s t : jj_S) : Prop := (∀ k, 4 ≤ k → t.1 k = s.1 k) ∧ (∀ k, 4 ≤ k → t.2.1 k = s.2.1 k) ∧ t.2.2 = s.2.2 ∧ tx_sg t = tx_sg s
theorem j3_same_rf (s : jj_S) : j3_same s s := ⟨fun _ _ => rfl, fun _ _ => rfl, rfl, rfl⟩
theorem j3_same_tr {s t u : jj_S} (h1 : j3_same s t) (h2 : j3_same t u) : j3_same s u := ⟨fun k hk => (h2.1 k hk).trans (h1.1 k hk), fun k hk => (h2.2.1 k hk).trans (h1.2.1 k hk), h2.2.2.1.trans h1.2.2.1, h2.2.2.2.trans h1.2.2.2⟩
theorem j3_same_s (s : jj_S) (L a b : Nat) : j3_same s (j3_s s L a b) := by
  refine ⟨fun k hk => ?_, fun _ _ => rfl, rfl, rfl⟩
  show jU (jU (jU s.1 0 (nI L)) 1 (nI a)) 2 (nI b) k = s.1 k
  rw [jU_ne _ _ (by omega), jU_ne _ _ (by omega), jU_ne _ _ (by omega)]
theorem j3_same_ok (s : jj_S) (k : Nat) (R : tkR) : j3_same s (j3_ok s k R) := by
  refine ⟨fun j hj => ?_, fun j hj => ?_, rfl, rfl⟩
  · show jU s.1 3 (nI (k + 1)) j = s.1 j
    rw [jU_ne _ _ (by omega)]
  · show jU (jU (jU s.2.1 1 _) 2 _) 3 _ j = s.2.1 j
    rw [jU_ne _ _ (by omega), jU_ne _ _ (by omega), jU_ne _ _ (by omega)]
theorem j3_same_lc (s : jj_S) : j3_same s (tx_lcS s 0) := by
  refine ⟨fun j hj => ?_, fun _ _ => rfl, rfl, rfl⟩
  show jU s.1 3 0 j = s.1 j
  rw [jU_ne _ _ (by omega)]
def j3_lines (s : jj_S) (k : Nat) (F : Nat → tkR) : Prop := ∀ j, j < k → tx_wd s j = nI (tk_i (F j)) ∧ tx_fs s j = tk_f (F j) ∧ tx_sc s j = tk_g (F j)
theorem j3_lines_ok {s : jj_S} {k : Nat} {F : Nat → tkR} (h : j3_lines s k F) (R : tkR) : j3_lines (j3_ok s k R) (k + 1) (jU F k R) := by
  intro j hj
  show jU (tx_wd s) k (nI (tk_i R)) j = _ ∧ jU (tx_fs s) k (tk_f R) j = _ ∧ jU (tx_sc s) k (tk_g R) j = _
  by_cases e : j = k
  · subst e
    rw [jU_at, jU_at, jU_at, jU_at]
    exact ⟨rfl, rfl, rfl⟩
  · rw [jU_ne _ _ e, jU_ne _ _ e, jU_ne _ _ e, jU_ne _ _ e]
    exact h j (by omega)
theorem j3_rd_rs {L : Nat} (hL : L ≤ 200) : ∀ n k (s : jj_S) a b (F : Nat → tkR), b ≤ L → a ≤ L → tx_lc s = nI k → j3_lines s k F →
    (j3_rd L n k s a b).1 = (tk_rs (tx_sg s) L n k a b F).1 ∧ j3_same s (j3_rd L n k s a b).2 ∧
    ((tk_rs (tx_sg s) L n k a b F).1 = -1 → tx_lc (j3_rd L n k s a b).2 = nI (tk_rs (tx_sg s) L n k a b F).2.1 ∧ j3_lines (j3_rd L n k s a b).2 (tk_rs (tx_sg s) L n k a b F).2.1 (tk_rs (tx_sg s) L n k a b F).2.2) := by
  intro n
  induction n with
  | zero =>
    intro k s a b F hb ha hlc hF
    have n1 : ¬ nI a = -1 := jb_nm1 (by omega)
    exact ⟨rfl, j3_same_s s L a b, fun h => absurd h n1⟩
  | succ n ih =>
    intro k s a b F hb ha hlc hF
    have hRl := tk_l_le (sg := tx_sg s) hb
    have hRl1 := tk_l_le1 (sg := tx_sg s) hb
    rw [j3_rd, tk_rs]
    generalize tk_l (tx_sg s) L b = R at hRl hRl1 ⊢
    unfold j3_rk
    by_cases z1 : R.1 = true
    · rw [if_pos z1, if_pos z1]
      have ht := tk_t_le (sg := tx_sg s) hRl
      have hs2 := j3_same_ok s k R
      have hF2 := j3_lines_ok hF R
      have hlc2 : tx_lc (j3_ok s k R) = nI (k + 1) := rfl
      have hsg : tx_sg (j3_ok s k R) = tx_sg s := hs2.2.2.2
      generalize tk_t (tx_sg s) L R.2.1.2 = t at ht ⊢
      unfold j3_rt
      rw [hsg]
      generalize j3_ok s k R = s2 at hs2 hF2 hlc2 hsg ⊢
      by_cases z2 : t.1 = L
      · rw [if_pos z2, if_pos z2]
        exact ⟨rfl, j3_same_tr hs2 (j3_same_s s2 L t.1 t.2), fun _ => ⟨hlc2, hF2⟩⟩
      · rw [if_neg z2, if_neg z2]
        by_cases z3 : tx_sg s t.1 = 59
        · rw [if_pos z3, if_pos z3]
          have h := ih (k + 1) s2 t.1 t.2 (jU F k R) ht.2.2 (by omega) hlc2 hF2
          rw [hsg] at h
          exact ⟨h.1, j3_same_tr hs2 h.2.1, h.2.2⟩
        · rw [if_neg z3, if_neg z3]
          have n1 : ¬ nI t.1 = -1 := jb_nm1 (by omega)
          exact ⟨rfl, j3_same_tr hs2 (j3_same_s s2 L t.1 t.2), fun h => absurd h n1⟩
    · rw [if_neg z1, if_neg z1]
      have n1 : ¬ nI R.2.1.1 = -1 := jb_nm1 (by omega)
      exact ⟨rfl, j3_same_s s L _ _, fun h => absurd h n1⟩
