/-! THE MODEL: how many turnings leave it alike -/
/-- the states while turnings are laid one after another -/
def j7_lk (s : jj_S) : Nat → jj_S
  | 0 => s
  | k + 1 => j7_la (j7_lk s k) (k / 5) (k % 5)
theorem lk_s (s : jj_S) (k : Nat) : j7_lk s (k + 1) = j7_la (j7_lk s k) (k / 5) (k % 5) := rfl
theorem lk_kind (s : jj_S) : ∀ k, mo_kind (j7_lk s k) = mo_kind s := by
  intro k
  induction k with
  | zero => rfl
  | succ k ih => rw [lk_s, la_kind]; exact ih
theorem lk_img (s : jj_S) : ∀ k, mo_img (j7_lk s k) = mo_img s := by
  intro k
  induction k with
  | zero => rfl
  | succ k ih => rw [lk_s, la_img]; exact ih
theorem lk_ok {s : jj_S} (h : mb_ok s) : ∀ k, mb_ok (j7_lk s k) := by
  intro k
  induction k with
  | zero => exact h
  | succ k ih => rw [lk_s]; exact la_ok _ _ ih
theorem j7_n60 {k : Nat} : 5 * (k / 5) + k % 5 = k := by omega
def jr_al (q : Nat → Bool) : Nat → Bool
  | 0 => true
  | k + 1 => jr_al q k && q k
def jr_ct (q : Nat → Bool) : Nat → Nat
  | 0 => 0
  | k + 1 => jr_ct q k + (if q k = true then 1 else 0)
theorem jr_ct_le (q : Nat → Bool) : ∀ k, jr_ct q k ≤ k := by
  intro k
  induction k with
  | zero => exact Nat.le_refl 0
  | succ k ih => unfold jr_ct; split <;> omega
def j7_al (kd : Nat → Int32) (n : Nat) : Bool := jr_al (fun f => decide (kd (j7_g n f) = kd f)) 12
def j7_li (kd img : Nat → Int32) (b n : Nat) : Bool := jr_al (fun f => decide (img (15 * b + j7_g n f) = kd f)) 12
theorem jl5 (a b c : Option Value) (x y : Option Value) : ∀ (j : Nat) (v : Value), [a, b, c, none, none][j]? = some (some v) → [a, b, c, x, y][j]? = some (some v) := by
  intro j v hj
  match j, hj with
  | 0, hj => exact hj
  | 1, hj => exact hj
  | 2, hj => exact hj
  | 3, hj => exact absurd hj (by simp)
  | 4, hj => exact absurd hj (by simp)
  | j + 5, hj => exact absurd hj (by simp)
set_option maxRecDepth 100000 in
set_option maxHeartbeats 600000 in
theorem ev7_alike {G : jj_G} {s : jj_S}  (hb : mb_ok s) : jj_Ev G m7_alike 2 [.ref 28] (jj_m s) 0 0 (some (.int (nI (jr_ct (j7_al (mo_kind s)) 60)))) (jj_m (j7_lk s 60)) := by
  refine jj_Ev_of (lo := [some (.ref 28), none, none, none, none]) (by decide +kernel) (Nat.le_of_ble_eq_true rfl) rfl (by trivial) ?_
  have L : ∀ k, k ≤ 60 → jj_Go G m7_alike 2 4 [some (.ref 28), some (.int (nI (jr_ct (j7_al (mo_kind s)) k))), some (.int (nI k)), none, none] [] (jj_m (j7_lk s k)) 0 0 (some (.int (nI (jr_ct (j7_al (mo_kind s)) 60)))) (jj_m (j7_lk s 60)) := by
    refine jj_up 60 (fun n hn ih => ?_) ?_
    · have hn1 : n / 5 < 12 := by omega
      have hn2 : n % 5 < 5 := by omega
      have hto : ∀ f, f < 12 → mo_to (j7_lk s (n + 1)) f = nI (j7_g n f) := fun f hf => by rw [lk_s, j7_la_to _ hn1 hn2 hf, j7_n60]
      have hkd := lk_kind s (n + 1)
      have hgl : ∀ f, f < 12 → j7_g n f < 12 := fun f hf => j7_g_lt hn hf
      have hla := ev7_layTurning (G := G) (lk_ok hb n) hn1 hn2
      rw [← lk_s] at hla
      rw [jr_ct] at ih
      generalize j7_lk s (n + 1) = s2 at hto hkd hla ih
      generalize jr_ct (j7_al (mo_kind s)) n = C at ih ⊢
      have L2 : ∀ k, k ≤ 12 → jj_Go G m7_alike 2 25 [some (.ref 28), some (.int (nI C)), some (.int (nI n)), some (.int (jb_b (jr_al (fun f => decide (mo_kind s (j7_g n f) = mo_kind s f)) k = true))), some (.int (nI k))] [] (jj_m s2) 0 0 (some (.int (nI (jr_ct (j7_al (mo_kind s)) 60)))) (jj_m (j7_lk s 60)) := by
        refine jj_up 12 (fun k hk ih => ?_) ?_
        · have e1 : jr_al (fun f => decide (mo_kind s (j7_g n f) = mo_kind s f)) (k + 1) = (jr_al (fun f => decide (mo_kind s (j7_g n f) = mo_kind s f)) k && decide (mo_kind s (j7_g n k) = mo_kind s k)) := rfl
          rw [e1] at ih
          refine jj_iload dX7_alike_25 rfl ?_
          refine jj_bipush (v := 12) dX7_alike_27 (by decide) ?_
          refine jj_icmp_ge (tgt := 70) dX7_alike_29 (by decide) (fun zz => absurd zz (jb_ge hk (by decide))) (fun _ => ?_)
          refine jj_iload_n dX7_alike_32 rfl ?_
          refine jj_if_eq (tgt := 62) dX7_alike_33 (by decide) (fun c33 => ?_) (fun c33 => ?_)
          · refine jj_iconst (v := 0) dX7_alike_62 (by decide) ?_
            first
            | (have c : (jr_al (fun f => decide (mo_kind s (j7_g n f) = mo_kind s f)) k && decide (mo_kind s (j7_g n k) = mo_kind s k)) = true := by rw [jb_b1 c33, decide_eq_true c55]; rfl
               rw [jb_bt c] at ih; refine jj_istore_n dX7_alike_63 rfl (by decide) rfl ?_; refine jj_iinc dX7_alike_64 rfl (jb_i k) (by decide) rfl ?_; refine jj_goto (tgt := 25) dX7_alike_67 (by decide) ?_; exact ih)
            | (have c : ¬ (jr_al (fun f => decide (mo_kind s (j7_g n f) = mo_kind s f)) k && decide (mo_kind s (j7_g n k) = mo_kind s k)) = true := by rw [decide_eq_false c55, Bool.and_false]; decide
               rw [jb_bf c] at ih; refine jj_istore_n dX7_alike_63 rfl (by decide) rfl ?_; refine jj_iinc dX7_alike_64 rfl (jb_i k) (by decide) rfl ?_; refine jj_goto (tgt := 25) dX7_alike_67 (by decide) ?_; exact ih)
            | (have c : ¬ (jr_al (fun f => decide (mo_kind s (j7_g n f) = mo_kind s f)) k && decide (mo_kind s (j7_g n k) = mo_kind s k)) = true := fun z => jb_b0 c33 (Bool.and_eq_true_iff.mp z).1
               rw [jb_bf c] at ih; refine jj_istore_n dX7_alike_63 rfl (by decide) rfl ?_; refine jj_iinc dX7_alike_64 rfl (jb_i k) (by decide) rfl ?_; refine jj_goto (tgt := 25) dX7_alike_67 (by decide) ?_; exact ih)
          · refine jj_aload_n dX7_alike_36 rfl ?_
            refine jj_getf dX7_alike_37 fl7_20 rfl rfl ?_
            refine jj_aload_n dX7_alike_40 rfl ?_
            refine jj_getf dX7_alike_41 fl7_35 rfl rfl ?_
            refine jj_iload dX7_alike_44 rfl ?_
            refine jv_iald dX7_alike_46 rfl (hk) (by decide) ?_
            rw [hto k hk]
            refine jv_iald dX7_alike_47 rfl (hgl k hk) (by decide) ?_
            refine jj_aload_n dX7_alike_48 rfl ?_
            refine jj_getf dX7_alike_49 fl7_20 rfl rfl ?_
            refine jj_iload dX7_alike_52 rfl ?_
            refine jv_iald dX7_alike_54 rfl (hk) (by decide) ?_
            rw [hkd]
            refine jj_icmp_ne (tgt := 62) dX7_alike_55 (by decide) (fun c55 => ?_) (fun c55 => ?_)
            · refine jj_iconst (v := 0) dX7_alike_62 (by decide) ?_
              first
              | (have c : (jr_al (fun f => decide (mo_kind s (j7_g n f) = mo_kind s f)) k && decide (mo_kind s (j7_g n k) = mo_kind s k)) = true := by rw [jb_b1 c33, decide_eq_true c55]; rfl
                 rw [jb_bt c] at ih; refine jj_istore_n dX7_alike_63 rfl (by decide) rfl ?_; refine jj_iinc dX7_alike_64 rfl (jb_i k) (by decide) rfl ?_; refine jj_goto (tgt := 25) dX7_alike_67 (by decide) ?_; exact ih)
              | (have c : ¬ (jr_al (fun f => decide (mo_kind s (j7_g n f) = mo_kind s f)) k && decide (mo_kind s (j7_g n k) = mo_kind s k)) = true := by rw [decide_eq_false c55, Bool.and_false]; decide
                 rw [jb_bf c] at ih; refine jj_istore_n dX7_alike_63 rfl (by decide) rfl ?_; refine jj_iinc dX7_alike_64 rfl (jb_i k) (by decide) rfl ?_; refine jj_goto (tgt := 25) dX7_alike_67 (by decide) ?_; exact ih)
              | (have c : ¬ (jr_al (fun f => decide (mo_kind s (j7_g n f) = mo_kind s f)) k && decide (mo_kind s (j7_g n k) = mo_kind s k)) = true := fun z => jb_b0 c33 (Bool.and_eq_true_iff.mp z).1
                 rw [jb_bf c] at ih; refine jj_istore_n dX7_alike_63 rfl (by decide) rfl ?_; refine jj_iinc dX7_alike_64 rfl (jb_i k) (by decide) rfl ?_; refine jj_goto (tgt := 25) dX7_alike_67 (by decide) ?_; exact ih)
            · refine jj_iconst (v := 1) dX7_alike_58 (by decide) ?_
              refine jj_goto (tgt := 63) dX7_alike_59 (by decide) ?_
              first
              | (have c : (jr_al (fun f => decide (mo_kind s (j7_g n f) = mo_kind s f)) k && decide (mo_kind s (j7_g n k) = mo_kind s k)) = true := by rw [jb_b1 c33, decide_eq_true c55]; rfl
                 rw [jb_bt c] at ih; refine jj_istore_n dX7_alike_63 rfl (by decide) rfl ?_; refine jj_iinc dX7_alike_64 rfl (jb_i k) (by decide) rfl ?_; refine jj_goto (tgt := 25) dX7_alike_67 (by decide) ?_; exact ih)
              | (have c : ¬ (jr_al (fun f => decide (mo_kind s (j7_g n f) = mo_kind s f)) k && decide (mo_kind s (j7_g n k) = mo_kind s k)) = true := by rw [decide_eq_false c55, Bool.and_false]; decide
                 rw [jb_bf c] at ih; refine jj_istore_n dX7_alike_63 rfl (by decide) rfl ?_; refine jj_iinc dX7_alike_64 rfl (jb_i k) (by decide) rfl ?_; refine jj_goto (tgt := 25) dX7_alike_67 (by decide) ?_; exact ih)
              | (have c : ¬ (jr_al (fun f => decide (mo_kind s (j7_g n f) = mo_kind s f)) k && decide (mo_kind s (j7_g n k) = mo_kind s k)) = true := fun z => jb_b0 c33 (Bool.and_eq_true_iff.mp z).1
                 rw [jb_bf c] at ih; refine jj_istore_n dX7_alike_63 rfl (by decide) rfl ?_; refine jj_iinc dX7_alike_64 rfl (jb_i k) (by decide) rfl ?_; refine jj_goto (tgt := 25) dX7_alike_67 (by decide) ?_; exact ih)
        · refine jj_iload dX7_alike_25 rfl ?_
          refine jj_bipush (v := 12) dX7_alike_27 (by decide) ?_
          refine jj_icmp_ge (tgt := 70) dX7_alike_29 (by decide) (fun _ => ?_) (fun zz => absurd (jb_ge' (n := 12) (by decide)) zz)
          refine jj_iload_n dX7_alike_70 rfl ?_
          refine jj_iload_n dX7_alike_71 rfl ?_
          refine jj_if_eq (tgt := 79) dX7_alike_72 (by decide) (fun c72 => ?_) (fun c72 => ?_)
          · refine jj_iconst (v := 0) dX7_alike_79 (by decide) ?_
            first
            | (rw [if_pos (show j7_al (mo_kind s) n = true from jb_b1 c72)] at ih; refine jj_iadd (v := nI (C + 1)) dX7_alike_80 (nI_add C 1) ?_; refine jj_istore_n dX7_alike_81 rfl (by decide) rfl ?_; refine jj_iinc dX7_alike_82 rfl (jb_i n) (by decide) rfl ?_; refine jj_goto (tgt := 4) dX7_alike_85 (by decide) ?_; exact jj_less (jl5 _ _ _ _ _) ih)
            | (rw [if_neg (show ¬ j7_al (mo_kind s) n = true from jb_b0 c72)] at ih; refine jj_iadd (v := nI (C + 0)) dX7_alike_80 (nI_add C 0) ?_; refine jj_istore_n dX7_alike_81 rfl (by decide) rfl ?_; refine jj_iinc dX7_alike_82 rfl (jb_i n) (by decide) rfl ?_; refine jj_goto (tgt := 4) dX7_alike_85 (by decide) ?_; exact jj_less (jl5 _ _ _ _ _) ih)
          · refine jj_iconst (v := 1) dX7_alike_75 (by decide) ?_
            refine jj_goto (tgt := 80) dX7_alike_76 (by decide) ?_
            first
            | (rw [if_pos (show j7_al (mo_kind s) n = true from jb_b1 c72)] at ih; refine jj_iadd (v := nI (C + 1)) dX7_alike_80 (nI_add C 1) ?_; refine jj_istore_n dX7_alike_81 rfl (by decide) rfl ?_; refine jj_iinc dX7_alike_82 rfl (jb_i n) (by decide) rfl ?_; refine jj_goto (tgt := 4) dX7_alike_85 (by decide) ?_; exact jj_less (jl5 _ _ _ _ _) ih)
            | (rw [if_neg (show ¬ j7_al (mo_kind s) n = true from jb_b0 c72)] at ih; refine jj_iadd (v := nI (C + 0)) dX7_alike_80 (nI_add C 0) ?_; refine jj_istore_n dX7_alike_81 rfl (by decide) rfl ?_; refine jj_iinc dX7_alike_82 rfl (jb_i n) (by decide) rfl ?_; refine jj_goto (tgt := 4) dX7_alike_85 (by decide) ?_; exact jj_less (jl5 _ _ _ _ _) ih)
      refine jj_iload_n dX7_alike_4 rfl ?_
      refine jj_bipush (v := 60) dX7_alike_5 (by decide) ?_
      refine jj_icmp_ge (tgt := 88) dX7_alike_7 (by decide) (fun zz => absurd zz (jb_ge hn (by decide))) (fun _ => ?_)
      refine jj_aload_n dX7_alike_10 rfl ?_
      refine jj_iload_n dX7_alike_11 rfl ?_
      refine jj_iconst (v := nI 5) dX7_alike_12 (by decide) ?_
      refine jj_idiv dX7_alike_13 (by decide) (pk_div (a := n) (d := 5) (by omega) (by decide) (by decide)) ?_
      refine jj_iload_n dX7_alike_14 rfl ?_
      refine jj_iconst (v := nI 5) dX7_alike_15 (by decide) ?_
      refine jj_irem dX7_alike_16 (by decide) (pk_rem (a := n) (d := 5) (by omega) (by decide) (by decide)) ?_
      refine jj_callV (M2 := m7_layTurning) dX7_alike_17 ml7_181 tm7_layTurning (hla) rfl rfl rfl rfl rfl (by omega) (Nat.le_of_ble_eq_true rfl) ?_
      refine jj_iconst (v := 1) dX7_alike_20 (by decide) ?_
      refine jj_istore_n dX7_alike_21 rfl (by decide) rfl ?_
      refine jj_iconst (v := 0) dX7_alike_22 (by decide) ?_
      refine jj_istore dX7_alike_23 (by decide) rfl ?_
      exact L2 0 (by decide)
    · skip
      refine jj_iload_n dX7_alike_4 rfl ?_
      refine jj_bipush (v := 60) dX7_alike_5 (by decide) ?_
      refine jj_icmp_ge (tgt := 88) dX7_alike_7 (by decide) (fun _ => ?_) (fun zz => absurd (jb_ge' (n := 60) (by decide)) zz)
      refine jj_iload_n dX7_alike_88 rfl ?_
      exact jj_leaf dX7_alike_89 rfl rfl
  refine jj_iconst (v := 0) dX7_alike_0 (by decide) ?_
  refine jj_istore_n dX7_alike_1 rfl (by decide) rfl ?_
  refine jj_iconst (v := 0) dX7_alike_2 (by decide) ?_
  refine jj_istore_n dX7_alike_3 rfl (by decide) rfl ?_
  exact L 0 (by decide)
