/-! THE MODEL: wardens -/
theorem wst_A (w3 k : Nat) (b : Int32) (ok : Bool) : j5_wst (-1, -1, w3) k b ok = if ok = true then (b, nI k, 1) else (-1, -1, w3) := if_pos (Or.inl rfl)
theorem wst_1 {P w2 b : Int32} (w3 k : Nat) (ok : Bool) (h : b < P) : j5_wst (P, w2, w3) k b ok = if ok = true then (b, nI k, 1) else (P, w2, w3) := if_pos (Or.inr h)
theorem wst_2 {P w2 b : Int32} (w3 k : Nat) (ok : Bool) (h1 : ¬ P = -1) (h2 : ¬ b < P) (h3 : b = P) : j5_wst (P, w2, w3) k b ok = if ok = true then (P, w2, w3 + 1) else (P, w2, w3) := (if_neg (fun q => q.elim h1 h2)).trans (if_pos h3)
theorem wst_3 {P w2 b : Int32} (w3 k : Nat) (ok : Bool) (h1 : ¬ P = -1) (h2 : ¬ b < P) (h3 : ¬ b = P) : j5_wst (P, w2, w3) k b ok = (P, w2, w3) := (if_neg (fun q => q.elim h1 h2)).trans (if_neg h3)
def j7_wj (w : Int32 × Int32 × Nat) : Prop := (w.1 = -1 ∧ w.2.1 = -1) ∨ ∃ b, b < 4096 ∧ w.2.1 = nI b ∧ w.1 = nI (jb_pc b)
theorem j7_wjs {w : Int32 × Int32 × Nat} (h : j7_wj w) {k : Nat} (hk : k < 4096) (ok : Bool) : j7_wj (j5_wst w k (nI (jb_pc k)) ok) := by
  unfold j5_wst
  have hn : j7_wj (nI (jb_pc k), nI k, 1) := .inr ⟨k, hk, rfl, rfl⟩
  split
  · split
    · exact hn
    · exact h
  · split
    · split
      · exact h
      · exact h
    · exact h
theorem j7_wJ (o : Nat → Nat) : ∀ k, k ≤ 4096 → j7_wj (j5_wd o k) := by
  intro k
  induction k with
  | zero => intro _; exact .inl ⟨rfl, rfl⟩
  | succ k ih => intro hk; exact j7_wjs (ih (by omega)) (by omega) _
theorem j7_wns {w : Int32 × Int32 × Nat} {k : Nat} (h : w.2.2 ≤ k) (b : Int32) (ok : Bool) : (j5_wst w k b ok).2.2 ≤ k + 1 := by
  unfold j5_wst
  have h1 : w.2.2 ≤ k + 1 := by omega
  split
  · split
    · exact Nat.le_add_left 1 k
    · exact h1
  · split
    · split
      · exact Nat.succ_le_succ h
      · exact h1
    · exact h1
theorem j7_wN (o : Nat → Nat) : ∀ k, (j5_wd o k).2.2 ≤ k := by
  intro k
  induction k with
  | zero => exact Nat.le_refl 0
  | succ k ih => exact j7_wns ih _ _
theorem jb_pc_le (a : Nat) : jb_pc a ≤ 12 := jb_pcn_le a 12
theorem j7_v02 {x : Int32} (h : 0 ≤ x ∧ x ≤ 2) : x = 0 ∨ x = 1 ∨ x = 2 := by
  have h1 := Int32.le_iff_toInt_le.mp h.1
  have h2 := Int32.le_iff_toInt_le.mp h.2
  have e1 : (0 : Int32).toInt = 0 := rfl
  have e2 : (2 : Int32).toInt = 2 := rfl
  rw [e1] at h1
  rw [e2] at h2
  rcases (show x.toInt = 0 ∨ x.toInt = 1 ∨ x.toInt = 2 by omega) with q | q | q
  · exact .inl (Int32.toInt_inj.mp q)
  · exact .inr (.inl (Int32.toInt_inj.mp q))
  · exact .inr (.inr (Int32.toInt_inj.mp q))
set_option maxRecDepth 100000 in
set_option maxHeartbeats 1500000 in
theorem ev7_wardens {G : jj_G} {s : jj_S} {wl : Nat → Nat → Bool} {x : Int32} (hb : mb_ok s) (hw : mw_ok s wl) (hx : 0 ≤ x ∧ x ≤ 2) : jj_Ev G m7_wardens 1 [.ref 28, .int x] (jj_m s) 0 0 (some (.int (if x = 2 then nI (j5_wd (j7_o wl) 4096).2.2 else if x = 1 then (j5_wd (j7_o wl) 4096).2.1 else (j5_wd (j7_o wl) 4096).1))) (jj_m s) := by
  refine jj_Ev_of (lo := [some (.ref 28), some (.int x), none, none, none, none, none, none]) (by decide +kernel) (Nat.le_of_ble_eq_true rfl) rfl (by trivial) ?_
  have hJ4 := j7_wJ (j7_o wl) 4096 (Nat.le_refl _)
  generalize he : j5_wd (j7_o wl) 4096 = e at hJ4 ⊢
  have L : ∀ k, k ≤ 4096 → jj_Go G m7_wardens 1 19 [some (.ref 28), some (.int x), some (.int (j5_wd (j7_o wl) k).2.1), some (.int (nI (j5_wd (j7_o wl) k).2.2)), some (.int (nI k)), none, none, none] [] (jj_m s) 0 0 (some (.int (if x = 2 then nI e.2.2 else if x = 1 then e.2.1 else e.1))) (jj_m s) := by
    refine jj_up 4096 (fun n hn ih => ?_) ?_
    · have hn4 : n < 4096 := hn
      have hJ := j7_wJ (j7_o wl) n (by omega)
      have hN := j7_wN (j7_o wl) n
      have e9 : j5_wd (j7_o wl) (n + 1) = j5_wst (j5_wd (j7_o wl) n) n (nI (jb_pc n)) (j5_wa (j7_o wl) n) := rfl
      rw [e9] at ih
      generalize j5_wd (j7_o wl) n = w at hJ hN ih ⊢
      have hpn := jb_pc_le n
      have LM : ∀ (B N Z : Int32), (j5_wa (j7_o wl) n = true → jj_Go G m7_wardens 1 95 [some (.ref 28), some (.int x), some (.int B), some (.int N), some (.int (nI n)), some (.int Z), some (.int 1), none] [] (jj_m s) 0 0 (some (.int (if x = 2 then nI e.2.2 else if x = 1 then e.2.1 else e.1))) (jj_m s)) → (j5_wa (j7_o wl) n = false → jj_Go G m7_wardens 1 95 [some (.ref 28), some (.int x), some (.int B), some (.int N), some (.int (nI n)), some (.int Z), some (.int 0), none] [] (jj_m s) 0 0 (some (.int (if x = 2 then nI e.2.2 else if x = 1 then e.2.1 else e.1))) (jj_m s)) → ∀ j, j ≤ 12 → (∀ i, i < j → ¬ j7_o wl i &&& n = 0) → jj_Go G m7_wardens 1 58 [some (.ref 28), some (.int x), some (.int B), some (.int N), some (.int (nI n)), some (.int Z), some (.int 1), some (.int (nI j))] [] (jj_m s) 0 0 (some (.int (if x = 2 then nI e.2.2 else if x = 1 then e.2.1 else e.1))) (jj_m s) := by
        intro B N Z K1 K0
        refine jj_up 12 (fun j hj ih2 hp => ?_) (fun hp => ?_)
        · have hol := j7_o_lt wl hj
          refine jj_iload dX7_wardens_58 rfl ?_
          refine jj_bipush (v := 12) dX7_wardens_60 (by decide) ?_
          refine jj_icmp_ge (tgt := 95) dX7_wardens_62 (by decide) (fun zz => absurd zz (jb_ge hj (by decide))) (fun _ => ?_)
          refine jj_iload dX7_wardens_65 rfl ?_
          refine jj_if_eq (tgt := 95) dX7_wardens_67 (by decide) (fun zz => absurd zz (by decide)) (fun _ => ?_)
          refine jj_aload_n dX7_wardens_70 rfl ?_
          refine jj_iload dX7_wardens_71 rfl ?_
          refine jj_callV (M2 := m7_openOf) dX7_wardens_73 ml7_184 tm7_openOf (ev7_openOf hb hw hj) rfl rfl rfl rfl rfl (by omega) (Nat.le_of_ble_eq_true rfl) ?_
          refine jj_iload dX7_wardens_76 rfl ?_
          refine jj_iand dX7_wardens_78 (fa_and _ _) ?_
          refine jj_if_eq (tgt := 86) dX7_wardens_79 (by decide) (fun c79 => ?_) (fun c79 => ?_)
          · refine jj_iconst (v := 0) dX7_wardens_86 (by decide) ?_
            refine jj_istore dX7_wardens_87 (by decide) rfl ?_
            refine jj_iinc dX7_wardens_89 rfl (jb_i j) (by decide) rfl ?_
            refine jj_goto (tgt := 58) dX7_wardens_92 (by decide) ?_
            first
            | (have hp2 : ∀ i, i < j + 1 → ¬ j7_o wl i &&& n = 0 := fun i hi => (by
                 rcases Nat.lt_or_ge i j with q | q
                 · exact hp i q
                 · rw [show i = j by omega]; exact fun z => c79 (by rw [z]; rfl))
               exact ih2 hp2)
            | (rcases Nat.lt_or_ge (j + 1) 12 with q | q
               · skip
                 refine jj_iload dX7_wardens_58 rfl ?_
                 refine jj_bipush (v := 12) dX7_wardens_60 (by decide) ?_
                 refine jj_icmp_ge (tgt := 95) dX7_wardens_62 (by decide) (fun zz => absurd zz (jb_ge q (by decide))) (fun _ => ?_)
                 refine jj_iload dX7_wardens_65 rfl ?_
                 refine jj_if_eq (tgt := 95) dX7_wardens_67 (by decide) (fun _ => ?_) (fun zz => absurd rfl zz)
                 exact jj_keep [true, true, true, true, true, true, true, false] (K0 (by have e : ¬ j5_wa (j7_o wl) n = true := (fun z => absurd ((jb_all_iff _ 12).mp z j hj) (by have c := (jb_inj (a := j7_o wl j &&& n) (b := 0) (Nat.lt_of_le_of_lt Nat.and_le_left (by omega)) (by decide)).mp c79; simp [c])); simpa using e))
               · have q2 : j + 1 = 12 := by omega
                 rw [q2]
                 refine jj_iload dX7_wardens_58 rfl ?_
                 refine jj_bipush (v := 12) dX7_wardens_60 (by decide) ?_
                 refine jj_icmp_ge (tgt := 95) dX7_wardens_62 (by decide) (fun _ => ?_) (fun zz => absurd (jb_ge' (n := 12) (by decide)) zz)
                 exact jj_keep [true, true, true, true, true, true, true, false] (K0 (by have e : ¬ j5_wa (j7_o wl) n = true := (fun z => absurd ((jb_all_iff _ 12).mp z j hj) (by have c := (jb_inj (a := j7_o wl j &&& n) (b := 0) (Nat.lt_of_le_of_lt Nat.and_le_left (by omega)) (by decide)).mp c79; simp [c])); simpa using e)))
          · refine jj_iconst (v := 1) dX7_wardens_82 (by decide) ?_
            refine jj_goto (tgt := 87) dX7_wardens_83 (by decide) ?_
            refine jj_istore dX7_wardens_87 (by decide) rfl ?_
            refine jj_iinc dX7_wardens_89 rfl (jb_i j) (by decide) rfl ?_
            refine jj_goto (tgt := 58) dX7_wardens_92 (by decide) ?_
            first
            | (have hp2 : ∀ i, i < j + 1 → ¬ j7_o wl i &&& n = 0 := fun i hi => (by
                 rcases Nat.lt_or_ge i j with q | q
                 · exact hp i q
                 · rw [show i = j by omega]; exact fun z => c79 (by rw [z]; rfl))
               exact ih2 hp2)
            | (rcases Nat.lt_or_ge (j + 1) 12 with q | q
               · skip
                 refine jj_iload dX7_wardens_58 rfl ?_
                 refine jj_bipush (v := 12) dX7_wardens_60 (by decide) ?_
                 refine jj_icmp_ge (tgt := 95) dX7_wardens_62 (by decide) (fun zz => absurd zz (jb_ge q (by decide))) (fun _ => ?_)
                 refine jj_iload dX7_wardens_65 rfl ?_
                 refine jj_if_eq (tgt := 95) dX7_wardens_67 (by decide) (fun _ => ?_) (fun zz => absurd rfl zz)
                 exact jj_keep [true, true, true, true, true, true, true, false] (K0 (by have e : ¬ j5_wa (j7_o wl) n = true := (fun z => absurd ((jb_all_iff _ 12).mp z j hj) (by have c := (jb_inj (a := j7_o wl j &&& n) (b := 0) (Nat.lt_of_le_of_lt Nat.and_le_left (by omega)) (by decide)).mp c79; simp [c])); simpa using e))
               · have q2 : j + 1 = 12 := by omega
                 rw [q2]
                 refine jj_iload dX7_wardens_58 rfl ?_
                 refine jj_bipush (v := 12) dX7_wardens_60 (by decide) ?_
                 refine jj_icmp_ge (tgt := 95) dX7_wardens_62 (by decide) (fun _ => ?_) (fun zz => absurd (jb_ge' (n := 12) (by decide)) zz)
                 exact jj_keep [true, true, true, true, true, true, true, false] (K0 (by have e : ¬ j5_wa (j7_o wl) n = true := (fun z => absurd ((jb_all_iff _ 12).mp z j hj) (by have c := (jb_inj (a := j7_o wl j &&& n) (b := 0) (Nat.lt_of_le_of_lt Nat.and_le_left (by omega)) (by decide)).mp c79; simp [c])); simpa using e)))
        · have hok : j5_wa (j7_o wl) n = true := (jb_all_iff _ 12).mpr fun i hi => (by simpa using hp i hi)
          refine jj_iload dX7_wardens_58 rfl ?_
          refine jj_bipush (v := 12) dX7_wardens_60 (by decide) ?_
          refine jj_icmp_ge (tgt := 95) dX7_wardens_62 (by decide) (fun _ => ?_) (fun zz => absurd (jb_ge' (n := 12) (by decide)) zz)
          exact jj_keep [true, true, true, true, true, true, true, false] (K1 hok)
      obtain ⟨w1, w2, w3⟩ := w
      rcases hJ with ⟨e1, e2⟩ | ⟨b, hb1, e2, e1⟩
      · replace e1 : w1 = -1 := e1
        replace e2 : w2 = -1 := e2
        subst e1
        subst e2
        rw [wst_A] at ih
        have K1 : j5_wa (j7_o wl) n = true → jj_Go G m7_wardens 1 95 [some (.ref 28), some (.int x), some (.int (-1)), some (.int (nI w3)), some (.int (nI n)), some (.int (nI (jb_pc n))), some (.int 1), none] [] (jj_m s) 0 0 (some (.int (if x = 2 then nI e.2.2 else if x = 1 then e.2.1 else e.1))) (jj_m s) := by
          intro hok
          rw [hok, if_pos rfl] at ih
          refine jj_iload dX7_wardens_95 rfl ?_
          refine jj_if_eq (tgt := 146) dX7_wardens_97 (by decide) (fun zz => absurd zz (by decide)) (fun _ => ?_)
          refine jj_iload_n dX7_wardens_100 rfl ?_
          refine jj_iconst (v := (-1)) dX7_wardens_101 (by decide) ?_
          refine jj_icmp_eq (tgt := 114) dX7_wardens_102 (by decide) (fun _ => ?_) (fun zz => absurd rfl zz)
          refine jj_iconst (v := 1) dX7_wardens_114 (by decide) ?_
          refine jj_goto (tgt := 119) dX7_wardens_115 (by decide) ?_
          refine jj_istore dX7_wardens_119 (by decide) rfl ?_
          refine jj_iload dX7_wardens_121 rfl ?_
          refine jj_if_eq (tgt := 130) dX7_wardens_123 (by decide) (fun zz => absurd zz (by decide)) (fun _ => ?_)
          refine jj_iconst (v := 1) dX7_wardens_126 (by decide) ?_
          refine jj_goto (tgt := 133) dX7_wardens_127 (by decide) ?_
          refine jj_istore_n dX7_wardens_133 rfl (by decide) rfl ?_
          refine jj_iload dX7_wardens_134 rfl ?_
          refine jj_if_eq (tgt := 144) dX7_wardens_136 (by decide) (fun zz => absurd zz (by decide)) (fun _ => ?_)
          refine jj_iload dX7_wardens_139 rfl ?_
          refine jj_goto (tgt := 145) dX7_wardens_141 (by decide) ?_
          refine jj_istore_n dX7_wardens_145 rfl (by decide) rfl ?_
          refine jj_iinc dX7_wardens_146 rfl (jb_i n) (by decide) rfl ?_
          refine jj_goto (tgt := 19) dX7_wardens_149 (by decide) ?_
          exact jj_keep [true, true, true, true, true, false, false, false] ih
        have K0 : j5_wa (j7_o wl) n = false → jj_Go G m7_wardens 1 95 [some (.ref 28), some (.int x), some (.int (-1)), some (.int (nI w3)), some (.int (nI n)), some (.int (nI (jb_pc n))), some (.int 0), none] [] (jj_m s) 0 0 (some (.int (if x = 2 then nI e.2.2 else if x = 1 then e.2.1 else e.1))) (jj_m s) := by
          intro hok
          rw [hok, if_neg (by decide)] at ih
          refine jj_iload dX7_wardens_95 rfl ?_
          refine jj_if_eq (tgt := 146) dX7_wardens_97 (by decide) (fun _ => ?_) (fun zz => absurd rfl zz)
          refine jj_iinc dX7_wardens_146 rfl (jb_i n) (by decide) rfl ?_
          refine jj_goto (tgt := 19) dX7_wardens_149 (by decide) ?_
          exact jj_keep [true, true, true, true, true, false, false, false] ih
        refine jj_iload dX7_wardens_19 rfl ?_
        refine jj_sipush (v := 4096) dX7_wardens_21 (by decide) ?_
        refine jj_icmp_ge (tgt := 152) dX7_wardens_24 (by decide) (fun zz => absurd zz (nI_ge (a := n) (b := 4096) hn4 (by decide))) (fun _ => ?_)
        refine jj_iload dX7_wardens_27 rfl ?_
        refine jj_callS (M2 := m7_bits) dX7_wardens_29 ml7_200 tm7_bits (ev7_bits hn4) rfl rfl (by omega) (Nat.le_of_ble_eq_true rfl) ?_
        refine jj_istore dX7_wardens_32 (by decide) rfl ?_
        refine jj_iload_n dX7_wardens_34 rfl ?_
        refine jj_iconst (v := (-1)) dX7_wardens_35 (by decide) ?_
        refine jj_icmp_eq (tgt := 48) dX7_wardens_36 (by decide) (fun _ => ?_) (fun zz => absurd rfl zz)
        refine jj_iconst (v := 1) dX7_wardens_48 (by decide) ?_
        refine jj_goto (tgt := 53) dX7_wardens_49 (by decide) ?_
        refine jj_istore dX7_wardens_53 (by decide) rfl ?_
        refine jj_iconst (v := 0) dX7_wardens_55 (by decide) ?_
        refine jj_istore dX7_wardens_56 (by decide) rfl ?_
        exact LM _ _ _ K1 K0 0 (by decide) (fun i hi => absurd hi (Nat.not_lt_zero i))
      · replace e1 : w1 = nI (jb_pc b) := e1
        replace e2 : w2 = nI b := e2
        subst e1
        subst e2
        have hm1 : ¬ nI b = -1 := jb_nm1 (by omega)
        have hm2 : ¬ nI (jb_pc b) = -1 := jb_nm1 (by have := jb_pc_le b; omega)
        have hpb := jb_pc_le b
        rcases Nat.lt_trichotomy (jb_pc n) (jb_pc b) with q | q | q
        · rw [wst_1 _ _ _ (nI_lt (a := jb_pc n) (b := jb_pc b) q (by omega))] at ih
          have K1 : j5_wa (j7_o wl) n = true → jj_Go G m7_wardens 1 95 [some (.ref 28), some (.int x), some (.int (nI b)), some (.int (nI w3)), some (.int (nI n)), some (.int (nI (jb_pc n))), some (.int 1), none] [] (jj_m s) 0 0 (some (.int (if x = 2 then nI e.2.2 else if x = 1 then e.2.1 else e.1))) (jj_m s) := by
            intro hok
            rw [hok, if_pos rfl] at ih
            refine jj_iload dX7_wardens_95 rfl ?_
            refine jj_if_eq (tgt := 146) dX7_wardens_97 (by decide) (fun zz => absurd zz (by decide)) (fun _ => ?_)
            refine jj_iload_n dX7_wardens_100 rfl ?_
            refine jj_iconst (v := (-1)) dX7_wardens_101 (by decide) ?_
            refine jj_icmp_eq (tgt := 114) dX7_wardens_102 (by decide) (fun zz => absurd zz hm1) (fun _ => ?_)
            refine jj_iload dX7_wardens_105 rfl ?_
            refine jj_iload_n dX7_wardens_107 rfl ?_
            refine jj_callS (M2 := m7_bits) dX7_wardens_108 ml7_200 tm7_bits (ev7_bits hb1) rfl rfl (by omega) (Nat.le_of_ble_eq_true rfl) ?_
            refine jj_icmp_ge (tgt := 118) dX7_wardens_111 (by decide) (fun zz => absurd zz (nI_ge (a := jb_pc n) (b := jb_pc b) q (by omega))) (fun _ => ?_)
            refine jj_iconst (v := 1) dX7_wardens_114 (by decide) ?_
            refine jj_goto (tgt := 119) dX7_wardens_115 (by decide) ?_
            refine jj_istore dX7_wardens_119 (by decide) rfl ?_
            refine jj_iload dX7_wardens_121 rfl ?_
            refine jj_if_eq (tgt := 130) dX7_wardens_123 (by decide) (fun zz => absurd zz (by decide)) (fun _ => ?_)
            refine jj_iconst (v := 1) dX7_wardens_126 (by decide) ?_
            refine jj_goto (tgt := 133) dX7_wardens_127 (by decide) ?_
            refine jj_istore_n dX7_wardens_133 rfl (by decide) rfl ?_
            refine jj_iload dX7_wardens_134 rfl ?_
            refine jj_if_eq (tgt := 144) dX7_wardens_136 (by decide) (fun zz => absurd zz (by decide)) (fun _ => ?_)
            refine jj_iload dX7_wardens_139 rfl ?_
            refine jj_goto (tgt := 145) dX7_wardens_141 (by decide) ?_
            refine jj_istore_n dX7_wardens_145 rfl (by decide) rfl ?_
            refine jj_iinc dX7_wardens_146 rfl (jb_i n) (by decide) rfl ?_
            refine jj_goto (tgt := 19) dX7_wardens_149 (by decide) ?_
            exact jj_keep [true, true, true, true, true, false, false, false] ih
          have K0 : j5_wa (j7_o wl) n = false → jj_Go G m7_wardens 1 95 [some (.ref 28), some (.int x), some (.int (nI b)), some (.int (nI w3)), some (.int (nI n)), some (.int (nI (jb_pc n))), some (.int 0), none] [] (jj_m s) 0 0 (some (.int (if x = 2 then nI e.2.2 else if x = 1 then e.2.1 else e.1))) (jj_m s) := by
            intro hok
            rw [hok, if_neg (by decide)] at ih
            refine jj_iload dX7_wardens_95 rfl ?_
            refine jj_if_eq (tgt := 146) dX7_wardens_97 (by decide) (fun _ => ?_) (fun zz => absurd rfl zz)
            refine jj_iinc dX7_wardens_146 rfl (jb_i n) (by decide) rfl ?_
            refine jj_goto (tgt := 19) dX7_wardens_149 (by decide) ?_
            exact jj_keep [true, true, true, true, true, false, false, false] ih
          refine jj_iload dX7_wardens_19 rfl ?_
          refine jj_sipush (v := 4096) dX7_wardens_21 (by decide) ?_
          refine jj_icmp_ge (tgt := 152) dX7_wardens_24 (by decide) (fun zz => absurd zz (nI_ge (a := n) (b := 4096) hn4 (by decide))) (fun _ => ?_)
          refine jj_iload dX7_wardens_27 rfl ?_
          refine jj_callS (M2 := m7_bits) dX7_wardens_29 ml7_200 tm7_bits (ev7_bits hn4) rfl rfl (by omega) (Nat.le_of_ble_eq_true rfl) ?_
          refine jj_istore dX7_wardens_32 (by decide) rfl ?_
          refine jj_iload_n dX7_wardens_34 rfl ?_
          refine jj_iconst (v := (-1)) dX7_wardens_35 (by decide) ?_
          refine jj_icmp_eq (tgt := 48) dX7_wardens_36 (by decide) (fun zz => absurd zz hm1) (fun _ => ?_)
          refine jj_iload dX7_wardens_39 rfl ?_
          refine jj_iload_n dX7_wardens_41 rfl ?_
          refine jj_callS (M2 := m7_bits) dX7_wardens_42 ml7_200 tm7_bits (ev7_bits hb1) rfl rfl (by omega) (Nat.le_of_ble_eq_true rfl) ?_
          refine jj_icmp_gt (tgt := 52) dX7_wardens_45 (by decide) (fun zz => absurd zz (Int32.not_lt.mpr (nI_le (a := jb_pc n) (b := jb_pc b) (by omega) (by omega)))) (fun _ => ?_)
          refine jj_iconst (v := 1) dX7_wardens_48 (by decide) ?_
          refine jj_goto (tgt := 53) dX7_wardens_49 (by decide) ?_
          refine jj_istore dX7_wardens_53 (by decide) rfl ?_
          refine jj_iconst (v := 0) dX7_wardens_55 (by decide) ?_
          refine jj_istore dX7_wardens_56 (by decide) rfl ?_
          exact LM _ _ _ K1 K0 0 (by decide) (fun i hi => absurd hi (Nat.not_lt_zero i))
        · rw [wst_2 _ _ _ hm2 (Int32.not_lt.mpr (nI_le (a := jb_pc b) (b := jb_pc n) (by omega) (by omega))) (by rw [q])] at ih
          have K1 : j5_wa (j7_o wl) n = true → jj_Go G m7_wardens 1 95 [some (.ref 28), some (.int x), some (.int (nI b)), some (.int (nI w3)), some (.int (nI n)), some (.int (nI (jb_pc n))), some (.int 1), none] [] (jj_m s) 0 0 (some (.int (if x = 2 then nI e.2.2 else if x = 1 then e.2.1 else e.1))) (jj_m s) := by
            intro hok
            rw [hok, if_pos rfl] at ih
            refine jj_iload dX7_wardens_95 rfl ?_
            refine jj_if_eq (tgt := 146) dX7_wardens_97 (by decide) (fun zz => absurd zz (by decide)) (fun _ => ?_)
            refine jj_iload_n dX7_wardens_100 rfl ?_
            refine jj_iconst (v := (-1)) dX7_wardens_101 (by decide) ?_
            refine jj_icmp_eq (tgt := 114) dX7_wardens_102 (by decide) (fun zz => absurd zz hm1) (fun _ => ?_)
            refine jj_iload dX7_wardens_105 rfl ?_
            refine jj_iload_n dX7_wardens_107 rfl ?_
            refine jj_callS (M2 := m7_bits) dX7_wardens_108 ml7_200 tm7_bits (ev7_bits hb1) rfl rfl (by omega) (Nat.le_of_ble_eq_true rfl) ?_
            refine jj_icmp_ge (tgt := 118) dX7_wardens_111 (by decide) (fun _ => ?_) (fun zz => absurd (nI_le (a := jb_pc b) (b := jb_pc n) (by omega) (by omega)) zz)
            refine jj_iconst (v := 0) dX7_wardens_118 (by decide) ?_
            refine jj_istore dX7_wardens_119 (by decide) rfl ?_
            refine jj_iload dX7_wardens_121 rfl ?_
            refine jj_if_eq (tgt := 130) dX7_wardens_123 (by decide) (fun _ => ?_) (fun zz => absurd rfl zz)
            refine jj_iload_n dX7_wardens_130 rfl ?_
            refine jj_iconst (v := 1) dX7_wardens_131 (by decide) ?_
            refine jj_iadd (v := nI (w3 + 1)) dX7_wardens_132 (nI_add w3 1) ?_
            refine jj_istore_n dX7_wardens_133 rfl (by decide) rfl ?_
            refine jj_iload dX7_wardens_134 rfl ?_
            refine jj_if_eq (tgt := 144) dX7_wardens_136 (by decide) (fun _ => ?_) (fun zz => absurd rfl zz)
            refine jj_iload_n dX7_wardens_144 rfl ?_
            refine jj_istore_n dX7_wardens_145 rfl (by decide) rfl ?_
            refine jj_iinc dX7_wardens_146 rfl (jb_i n) (by decide) rfl ?_
            refine jj_goto (tgt := 19) dX7_wardens_149 (by decide) ?_
            exact jj_keep [true, true, true, true, true, false, false, false] ih
          have K0 : j5_wa (j7_o wl) n = false → jj_Go G m7_wardens 1 95 [some (.ref 28), some (.int x), some (.int (nI b)), some (.int (nI w3)), some (.int (nI n)), some (.int (nI (jb_pc n))), some (.int 0), none] [] (jj_m s) 0 0 (some (.int (if x = 2 then nI e.2.2 else if x = 1 then e.2.1 else e.1))) (jj_m s) := by
            intro hok
            rw [hok, if_neg (by decide)] at ih
            refine jj_iload dX7_wardens_95 rfl ?_
            refine jj_if_eq (tgt := 146) dX7_wardens_97 (by decide) (fun _ => ?_) (fun zz => absurd rfl zz)
            refine jj_iinc dX7_wardens_146 rfl (jb_i n) (by decide) rfl ?_
            refine jj_goto (tgt := 19) dX7_wardens_149 (by decide) ?_
            exact jj_keep [true, true, true, true, true, false, false, false] ih
          refine jj_iload dX7_wardens_19 rfl ?_
          refine jj_sipush (v := 4096) dX7_wardens_21 (by decide) ?_
          refine jj_icmp_ge (tgt := 152) dX7_wardens_24 (by decide) (fun zz => absurd zz (nI_ge (a := n) (b := 4096) hn4 (by decide))) (fun _ => ?_)
          refine jj_iload dX7_wardens_27 rfl ?_
          refine jj_callS (M2 := m7_bits) dX7_wardens_29 ml7_200 tm7_bits (ev7_bits hn4) rfl rfl (by omega) (Nat.le_of_ble_eq_true rfl) ?_
          refine jj_istore dX7_wardens_32 (by decide) rfl ?_
          refine jj_iload_n dX7_wardens_34 rfl ?_
          refine jj_iconst (v := (-1)) dX7_wardens_35 (by decide) ?_
          refine jj_icmp_eq (tgt := 48) dX7_wardens_36 (by decide) (fun zz => absurd zz hm1) (fun _ => ?_)
          refine jj_iload dX7_wardens_39 rfl ?_
          refine jj_iload_n dX7_wardens_41 rfl ?_
          refine jj_callS (M2 := m7_bits) dX7_wardens_42 ml7_200 tm7_bits (ev7_bits hb1) rfl rfl (by omega) (Nat.le_of_ble_eq_true rfl) ?_
          refine jj_icmp_gt (tgt := 52) dX7_wardens_45 (by decide) (fun zz => absurd zz (Int32.not_lt.mpr (nI_le (a := jb_pc n) (b := jb_pc b) (by omega) (by omega)))) (fun _ => ?_)
          refine jj_iconst (v := 1) dX7_wardens_48 (by decide) ?_
          refine jj_goto (tgt := 53) dX7_wardens_49 (by decide) ?_
          refine jj_istore dX7_wardens_53 (by decide) rfl ?_
          refine jj_iconst (v := 0) dX7_wardens_55 (by decide) ?_
          refine jj_istore dX7_wardens_56 (by decide) rfl ?_
          exact LM _ _ _ K1 K0 0 (by decide) (fun i hi => absurd hi (Nat.not_lt_zero i))
        · rw [wst_3 _ _ _ hm2 (Int32.not_lt.mpr (nI_le (a := jb_pc b) (b := jb_pc n) (by omega) (by omega))) (fun z => absurd ((jb_inj (by omega) (by omega)).mp z) (by omega))] at ih
          refine jj_iload dX7_wardens_19 rfl ?_
          refine jj_sipush (v := 4096) dX7_wardens_21 (by decide) ?_
          refine jj_icmp_ge (tgt := 152) dX7_wardens_24 (by decide) (fun zz => absurd zz (nI_ge (a := n) (b := 4096) hn4 (by decide))) (fun _ => ?_)
          refine jj_iload dX7_wardens_27 rfl ?_
          refine jj_callS (M2 := m7_bits) dX7_wardens_29 ml7_200 tm7_bits (ev7_bits hn4) rfl rfl (by omega) (Nat.le_of_ble_eq_true rfl) ?_
          refine jj_istore dX7_wardens_32 (by decide) rfl ?_
          refine jj_iload_n dX7_wardens_34 rfl ?_
          refine jj_iconst (v := (-1)) dX7_wardens_35 (by decide) ?_
          refine jj_icmp_eq (tgt := 48) dX7_wardens_36 (by decide) (fun zz => absurd zz hm1) (fun _ => ?_)
          refine jj_iload dX7_wardens_39 rfl ?_
          refine jj_iload_n dX7_wardens_41 rfl ?_
          refine jj_callS (M2 := m7_bits) dX7_wardens_42 ml7_200 tm7_bits (ev7_bits hb1) rfl rfl (by omega) (Nat.le_of_ble_eq_true rfl) ?_
          refine jj_icmp_gt (tgt := 52) dX7_wardens_45 (by decide) (fun _ => ?_) (fun zz => absurd (nI_lt (a := jb_pc b) (b := jb_pc n) q (by omega)) zz)
          refine jj_iconst (v := 0) dX7_wardens_52 (by decide) ?_
          refine jj_istore dX7_wardens_53 (by decide) rfl ?_
          refine jj_iconst (v := 0) dX7_wardens_55 (by decide) ?_
          refine jj_istore dX7_wardens_56 (by decide) rfl ?_
          refine jj_iload dX7_wardens_58 rfl ?_
          refine jj_bipush (v := 12) dX7_wardens_60 (by decide) ?_
          refine jj_icmp_ge (tgt := 95) dX7_wardens_62 (by decide) (fun zz => absurd zz (by decide)) (fun _ => ?_)
          refine jj_iload dX7_wardens_65 rfl ?_
          refine jj_if_eq (tgt := 95) dX7_wardens_67 (by decide) (fun _ => ?_) (fun zz => absurd rfl zz)
          refine jj_iload dX7_wardens_95 rfl ?_
          refine jj_if_eq (tgt := 146) dX7_wardens_97 (by decide) (fun _ => ?_) (fun zz => absurd rfl zz)
          refine jj_iinc dX7_wardens_146 rfl (jb_i n) (by decide) rfl ?_
          refine jj_goto (tgt := 19) dX7_wardens_149 (by decide) ?_
          exact jj_keep [true, true, true, true, true, false, false, false] ih
    · rw [he]
      obtain ⟨w1, w2, w3⟩ := e
      have hx3 : x = 0 ∨ x = 1 ∨ x = 2 := j7_v02 hx
      rcases hJ4 with ⟨e1, e2⟩ | ⟨b, hb1, e2, e1⟩
      · replace e2 : w2 = -1 := e2
        replace e1 : w1 = -1 := e1
        subst e2
        subst e1
        rcases hx3 with q | q | q
        · subst q
          refine jj_iload dX7_wardens_19 rfl ?_
          refine jj_sipush (v := 4096) dX7_wardens_21 (by decide) ?_
          refine jj_icmp_ge (tgt := 152) dX7_wardens_24 (by decide) (fun _ => ?_) (fun zz => absurd (jb_ge' (n := 4096) (by decide)) zz)
          refine jj_iload_n dX7_wardens_152 rfl ?_
          refine jj_iconst (v := 2) dX7_wardens_153 (by decide) ?_
          refine jj_icmp_ne (tgt := 161) dX7_wardens_154 (by decide) (fun _ => ?_) (fun zz => absurd zz (by decide))
          refine jj_iload_n dX7_wardens_161 rfl ?_
          refine jj_iconst (v := (-1)) dX7_wardens_162 (by decide) ?_
          refine jj_icmp_eq (tgt := 171) dX7_wardens_163 (by decide) (fun _ => ?_) (fun zz => absurd rfl zz)
          refine jj_iload_n dX7_wardens_171 rfl ?_
          refine jj_goto (tgt := 179) dX7_wardens_172 (by decide) ?_
          exact jj_leaf dX7_wardens_179 rfl rfl
        · subst q
          refine jj_iload dX7_wardens_19 rfl ?_
          refine jj_sipush (v := 4096) dX7_wardens_21 (by decide) ?_
          refine jj_icmp_ge (tgt := 152) dX7_wardens_24 (by decide) (fun _ => ?_) (fun zz => absurd (jb_ge' (n := 4096) (by decide)) zz)
          refine jj_iload_n dX7_wardens_152 rfl ?_
          refine jj_iconst (v := 2) dX7_wardens_153 (by decide) ?_
          refine jj_icmp_ne (tgt := 161) dX7_wardens_154 (by decide) (fun _ => ?_) (fun zz => absurd zz (by decide))
          refine jj_iload_n dX7_wardens_161 rfl ?_
          refine jj_iconst (v := (-1)) dX7_wardens_162 (by decide) ?_
          refine jj_icmp_eq (tgt := 171) dX7_wardens_163 (by decide) (fun _ => ?_) (fun zz => absurd rfl zz)
          refine jj_iload_n dX7_wardens_171 rfl ?_
          refine jj_goto (tgt := 179) dX7_wardens_172 (by decide) ?_
          exact jj_leaf dX7_wardens_179 rfl rfl
        · subst q
          refine jj_iload dX7_wardens_19 rfl ?_
          refine jj_sipush (v := 4096) dX7_wardens_21 (by decide) ?_
          refine jj_icmp_ge (tgt := 152) dX7_wardens_24 (by decide) (fun _ => ?_) (fun zz => absurd (jb_ge' (n := 4096) (by decide)) zz)
          refine jj_iload_n dX7_wardens_152 rfl ?_
          refine jj_iconst (v := 2) dX7_wardens_153 (by decide) ?_
          refine jj_icmp_ne (tgt := 161) dX7_wardens_154 (by decide) (fun zz => absurd rfl zz) (fun _ => ?_)
          refine jj_iload_n dX7_wardens_157 rfl ?_
          refine jj_goto (tgt := 179) dX7_wardens_158 (by decide) ?_
          exact jj_leaf dX7_wardens_179 rfl rfl
      · replace e2 : w2 = nI b := e2
        replace e1 : w1 = nI (jb_pc b) := e1
        subst e2
        subst e1
        have hm1 : ¬ nI b = -1 := jb_nm1 (by omega)
        rcases hx3 with q | q | q
        · subst q
          refine jj_iload dX7_wardens_19 rfl ?_
          refine jj_sipush (v := 4096) dX7_wardens_21 (by decide) ?_
          refine jj_icmp_ge (tgt := 152) dX7_wardens_24 (by decide) (fun _ => ?_) (fun zz => absurd (jb_ge' (n := 4096) (by decide)) zz)
          refine jj_iload_n dX7_wardens_152 rfl ?_
          refine jj_iconst (v := 2) dX7_wardens_153 (by decide) ?_
          refine jj_icmp_ne (tgt := 161) dX7_wardens_154 (by decide) (fun _ => ?_) (fun zz => absurd zz (by decide))
          refine jj_iload_n dX7_wardens_161 rfl ?_
          refine jj_iconst (v := (-1)) dX7_wardens_162 (by decide) ?_
          refine jj_icmp_eq (tgt := 171) dX7_wardens_163 (by decide) (fun zz => absurd zz hm1) (fun _ => ?_)
          refine jj_iload_n dX7_wardens_166 rfl ?_
          refine jj_iconst (v := 1) dX7_wardens_167 (by decide) ?_
          refine jj_icmp_ne (tgt := 175) dX7_wardens_168 (by decide) (fun _ => ?_) (fun zz => absurd zz (by decide))
          refine jj_iload_n dX7_wardens_175 rfl ?_
          refine jj_callS (M2 := m7_bits) dX7_wardens_176 ml7_200 tm7_bits (ev7_bits hb1) rfl rfl (by omega) (Nat.le_of_ble_eq_true rfl) ?_
          exact jj_leaf dX7_wardens_179 rfl rfl
        · subst q
          refine jj_iload dX7_wardens_19 rfl ?_
          refine jj_sipush (v := 4096) dX7_wardens_21 (by decide) ?_
          refine jj_icmp_ge (tgt := 152) dX7_wardens_24 (by decide) (fun _ => ?_) (fun zz => absurd (jb_ge' (n := 4096) (by decide)) zz)
          refine jj_iload_n dX7_wardens_152 rfl ?_
          refine jj_iconst (v := 2) dX7_wardens_153 (by decide) ?_
          refine jj_icmp_ne (tgt := 161) dX7_wardens_154 (by decide) (fun _ => ?_) (fun zz => absurd zz (by decide))
          refine jj_iload_n dX7_wardens_161 rfl ?_
          refine jj_iconst (v := (-1)) dX7_wardens_162 (by decide) ?_
          refine jj_icmp_eq (tgt := 171) dX7_wardens_163 (by decide) (fun zz => absurd zz hm1) (fun _ => ?_)
          refine jj_iload_n dX7_wardens_166 rfl ?_
          refine jj_iconst (v := 1) dX7_wardens_167 (by decide) ?_
          refine jj_icmp_ne (tgt := 175) dX7_wardens_168 (by decide) (fun zz => absurd rfl zz) (fun _ => ?_)
          refine jj_iload_n dX7_wardens_171 rfl ?_
          refine jj_goto (tgt := 179) dX7_wardens_172 (by decide) ?_
          exact jj_leaf dX7_wardens_179 rfl rfl
        · subst q
          refine jj_iload dX7_wardens_19 rfl ?_
          refine jj_sipush (v := 4096) dX7_wardens_21 (by decide) ?_
          refine jj_icmp_ge (tgt := 152) dX7_wardens_24 (by decide) (fun _ => ?_) (fun zz => absurd (jb_ge' (n := 4096) (by decide)) zz)
          refine jj_iload_n dX7_wardens_152 rfl ?_
          refine jj_iconst (v := 2) dX7_wardens_153 (by decide) ?_
          refine jj_icmp_ne (tgt := 161) dX7_wardens_154 (by decide) (fun zz => absurd rfl zz) (fun _ => ?_)
          refine jj_iload_n dX7_wardens_157 rfl ?_
          refine jj_goto (tgt := 179) dX7_wardens_158 (by decide) ?_
          exact jj_leaf dX7_wardens_179 rfl rfl
  refine jj_iload_n dX7_wardens_0 rfl ?_
  refine jj_iconst (v := 0) dX7_wardens_1 (by decide) ?_
  refine jj_iconst (v := 2) dX7_wardens_2 (by decide) ?_
  refine jj_callS (M2 := m7_in) dX7_wardens_3 ml7_65 tm7_in (ev7_in x 0 2) rfl rfl (by omega) (Nat.le_of_ble_eq_true rfl) ?_
  refine jj_if_ne (tgt := 12) dX7_wardens_6 (by decide) (fun _ => ?_) (fun zz => absurd zz (by rw [jb_bt hx]; decide))
  refine jj_iconst (v := (-1)) dX7_wardens_12 (by decide) ?_
  refine jj_istore_n dX7_wardens_13 rfl (by decide) rfl ?_
  refine jj_iconst (v := 0) dX7_wardens_14 (by decide) ?_
  refine jj_istore_n dX7_wardens_15 rfl (by decide) rfl ?_
  refine jj_iconst (v := 0) dX7_wardens_16 (by decide) ?_
  refine jj_istore dX7_wardens_17 (by decide) rfl ?_
  exact jj_keep [true, true, true, true, true, false, false, false] (L 0 (by decide))
set_option maxRecDepth 100000 in
set_option maxHeartbeats 1500000 in
theorem ev7_wardens_b {G : jj_G} {s : jj_S} {x : Int32} (hx : ¬ (0 ≤ x ∧ x ≤ 2)) : jj_Ev G m7_wardens 1 [.ref 28, .int x] (jj_m s) 0 0 (some (.int (-3))) (jj_m s) := by
  refine jj_Ev_of (lo := [some (.ref 28), some (.int x), none, none, none, none, none, none]) (by decide +kernel) (Nat.le_of_ble_eq_true rfl) rfl (by trivial) ?_
  refine jj_iload_n dX7_wardens_0 rfl ?_
  refine jj_iconst (v := 0) dX7_wardens_1 (by decide) ?_
  refine jj_iconst (v := 2) dX7_wardens_2 (by decide) ?_
  refine jj_callS (M2 := m7_in) dX7_wardens_3 ml7_65 tm7_in (ev7_in x 0 2) rfl rfl (by omega) (Nat.le_of_ble_eq_true rfl) ?_
  refine jj_if_ne (tgt := 12) dX7_wardens_6 (by decide) (fun zz => absurd (jb_bf hx) zz) (fun _ => ?_)
  refine jj_bipush (v := (-3)) dX7_wardens_9 (by decide) ?_
  exact jj_leaf dX7_wardens_11 rfl rfl
