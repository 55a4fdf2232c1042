/-! THE MODEL: how many turnings bring the image -/
def jj_msk : List Bool → List (Option Value) → List (Option Value)
  | true :: b, x :: l => x :: jj_msk b l
  | false :: b, _ :: l => none :: jj_msk b l
  | _, _ => []
theorem jj_msk_at : ∀ (b : List Bool) (l : List (Option Value)) (j : Nat) (v : Value), (jj_msk b l)[j]? = some (some v) → l[j]? = some (some v) := by
  intro b
  induction b with
  | nil => intro l j v h; cases l <;> simp [jj_msk] at h
  | cons a b ih =>
    intro l j v h
    cases l with
    | nil => cases a <;> simp [jj_msk] at h
    | cons x l =>
      cases j with
      | zero => cases a <;> simp [jj_msk] at h; exact congrArg some h
      | succ j => cases a <;> exact ih l j v h
theorem jj_keep (b : List Bool) {G : jj_G} {M : jj_M} {d pc : Nat} {lo : List (Option Value)} {st : List Value} {h : List jj_C} {kc ks : Nat} {r : Option Value} {h' : List jj_C} (k : jj_Go G M d pc (jj_msk b lo) st h kc ks r h') : jj_Go G M d pc lo st h kc ks r h' := jj_less (jj_msk_at b lo) k
theorem jl6 (a b c d : Option Value) (x y : Option Value) : ∀ (j : Nat) (v : Value), [a, b, c, d, none, none][j]? = some (some v) → [a, b, c, d, x, y][j]? = some (some v) := by
  intro j v hj
  match j, hj with
  | 0, hj => exact hj
  | 1, hj => exact hj
  | 2, hj => exact hj
  | 3, hj => exact hj
  | 4, hj => exact absurd hj (by simp)
  | 5, hj => exact absurd hj (by simp)
  | j + 6, hj => exact absurd hj (by simp)
theorem v01_b {b : Nat} (h : b < 2) : (0 : Int32) ≤ nI b ∧ nI b ≤ 1 := v01_of b h
set_option maxRecDepth 100000 in
set_option maxHeartbeats 600000 in
theorem ev7_like {G : jj_G} {s : jj_S} {b : Nat} (hb : mb_ok s) (hb2 : b < 2) : jj_Ev G m7_like 2 [.ref 28, .int (nI b)] (jj_m s) 0 0 (some (.int (if mo_isk s b = 0 then -4 else nI (jr_ct (j7_li (mo_kind s) (mo_img s) b) 60)))) (jj_m (if mo_isk s b = 0 then s else j7_lk s 60)) := by
  refine jj_Ev_of (lo := [some (.ref 28), some (.int (nI b)), none, none, none, none]) (by decide +kernel) (Nat.le_of_ble_eq_true rfl) rfl (by trivial) ?_
  by_cases hz : mo_isk s b = 0
  · rw [if_pos hz, if_pos hz]
    refine jj_iload_n dX7_like_0 rfl ?_
    refine jj_iconst (v := 0) dX7_like_1 (by decide) ?_
    refine jj_iconst (v := 1) dX7_like_2 (by decide) ?_
    refine jj_callS (M2 := m7_in) dX7_like_3 ml7_65 tm7_in (ev7_in (nI b) 0 1) rfl rfl (by omega) (Nat.le_of_ble_eq_true rfl) ?_
    refine jj_if_ne (tgt := 12) dX7_like_6 (by decide) (fun _ => ?_) (fun zz => absurd zz (by rw [jb_bt (v01_b hb2)]; decide))
    refine jj_aload_n dX7_like_12 rfl ?_
    refine jj_getf dX7_like_13 fl7_32 rfl rfl ?_
    refine jj_iload_n dX7_like_16 rfl ?_
    refine jv_zald dX7_like_17 rfl (hb2) (by decide) ?_
    refine jj_if_ne (tgt := 24) dX7_like_18 (by decide) (fun zz => absurd hz zz) (fun _ => ?_)
    refine jj_bipush (v := (-4)) dX7_like_21 (by decide) ?_
    exact jj_leaf dX7_like_23 rfl rfl
  · rw [if_neg hz, if_neg hz]
    have L : ∀ k, k ≤ 60 → jj_Go G m7_like 2 28 [some (.ref 28), some (.int (nI b)), some (.int (nI (jr_ct (j7_li (mo_kind s) (mo_img s) b) k))), some (.int (nI k)), none, none] [] (jj_m (j7_lk s k)) 0 0 (some (.int (nI (jr_ct (j7_li (mo_kind s) (mo_img s) b) 60)))) (jj_m (j7_lk s 60)) := by
      refine jj_up 60 (fun n hn ih => ?_) ?_
      · have hn1 : n / 5 < 12 := by omega
        have hn2 : n % 5 < 5 := by omega
        have hto : ∀ f, f < 12 → mo_to (j7_lk s (n + 1)) f = nI (j7_g n f) := fun f hf => by rw [lk_s, j7_la_to _ hn1 hn2 hf, j7_n60]
        have hkd := lk_kind s (n + 1)
        have him := lk_img s (n + 1)
        have hgl : ∀ f, f < 12 → j7_g n f < 12 := fun f hf => j7_g_lt hn hf
        have hla := ev7_layTurning (G := G) (lk_ok hb n) hn1 hn2
        rw [← lk_s] at hla
        rw [jr_ct] at ih
        generalize j7_lk s (n + 1) = s2 at hto hkd him hla ih
        generalize jr_ct (j7_li (mo_kind s) (mo_img s) b) n = C at ih ⊢
        have L2 : ∀ k, k ≤ 12 → jj_Go G m7_like 2 50 [some (.ref 28), some (.int (nI b)), some (.int (nI C)), some (.int (nI n)), some (.int (jb_b (jr_al (fun f => decide (mo_img s (15 * b + j7_g n f) = mo_kind s f)) k = true))), some (.int (nI k))] [] (jj_m s2) 0 0 (some (.int (nI (jr_ct (j7_li (mo_kind s) (mo_img s) b) 60)))) (jj_m (j7_lk s 60)) := by
          refine jj_up 12 (fun k hk ih => ?_) ?_
          · have e1 : jr_al (fun f => decide (mo_img s (15 * b + j7_g n f) = mo_kind s f)) (k + 1) = (jr_al (fun f => decide (mo_img s (15 * b + j7_g n f) = mo_kind s f)) k && decide (mo_img s (15 * b + j7_g n k) = mo_kind s k)) := rfl
            have hgk := hgl k hk
            rw [e1] at ih
            refine jj_iload dX7_like_50 rfl ?_
            refine jj_bipush (v := 12) dX7_like_52 (by decide) ?_
            refine jj_icmp_ge (tgt := 102) dX7_like_54 (by decide) (fun zz => absurd zz (jb_ge hk (by decide))) (fun _ => ?_)
            refine jj_iload dX7_like_57 rfl ?_
            refine jj_if_eq (tgt := 93) dX7_like_59 (by decide) (fun c59 => ?_) (fun c59 => ?_)
            · refine jj_iconst (v := 0) dX7_like_93 (by decide) ?_
              first
              | (have c : (jr_al (fun f => decide (mo_img s (15 * b + j7_g n f) = mo_kind s f)) k && decide (mo_img s (15 * b + j7_g n k) = mo_kind s k)) = true := by rw [jb_b1 c59, decide_eq_true c86]; rfl
                 rw [jb_bt c] at ih; refine jj_istore dX7_like_94 (by decide) rfl ?_; refine jj_iinc dX7_like_96 rfl (jb_i k) (by decide) rfl ?_; refine jj_goto (tgt := 50) dX7_like_99 (by decide) ?_; exact ih)
              | (have c : ¬ (jr_al (fun f => decide (mo_img s (15 * b + j7_g n f) = mo_kind s f)) k && decide (mo_img s (15 * b + j7_g n k) = mo_kind s k)) = true := by rw [decide_eq_false c86, Bool.and_false]; decide
                 rw [jb_bf c] at ih; refine jj_istore dX7_like_94 (by decide) rfl ?_; refine jj_iinc dX7_like_96 rfl (jb_i k) (by decide) rfl ?_; refine jj_goto (tgt := 50) dX7_like_99 (by decide) ?_; exact ih)
              | (have c : ¬ (jr_al (fun f => decide (mo_img s (15 * b + j7_g n f) = mo_kind s f)) k && decide (mo_img s (15 * b + j7_g n k) = mo_kind s k)) = true := fun z => jb_b0 c59 (Bool.and_eq_true_iff.mp z).1
                 rw [jb_bf c] at ih; refine jj_istore dX7_like_94 (by decide) rfl ?_; refine jj_iinc dX7_like_96 rfl (jb_i k) (by decide) rfl ?_; refine jj_goto (tgt := 50) dX7_like_99 (by decide) ?_; exact ih)
            · refine jj_aload_n dX7_like_62 rfl ?_
              refine jj_getf dX7_like_63 fl7_29 rfl rfl ?_
              refine jj_bipush (v := nI 15) dX7_like_66 (by decide) ?_
              refine jj_iload_n dX7_like_68 rfl ?_
              refine jj_imul dX7_like_69 (j4_mul 15 b) ?_
              refine jj_aload_n dX7_like_70 rfl ?_
              refine jj_getf dX7_like_71 fl7_35 rfl rfl ?_
              refine jj_iload dX7_like_74 rfl ?_
              refine jv_iald dX7_like_76 rfl (hk) (by decide) ?_
              rw [hto k hk]
              refine jj_iadd dX7_like_77 (nI_add (15 * b) _) ?_
              refine jv_iald dX7_like_78 rfl (by omega) (by decide) ?_
              rw [him]
              refine jj_aload_n dX7_like_79 rfl ?_
              refine jj_getf dX7_like_80 fl7_20 rfl rfl ?_
              refine jj_iload dX7_like_83 rfl ?_
              refine jv_iald dX7_like_85 rfl (hk) (by decide) ?_
              rw [hkd]
              refine jj_icmp_ne (tgt := 93) dX7_like_86 (by decide) (fun c86 => ?_) (fun c86 => ?_)
              · refine jj_iconst (v := 0) dX7_like_93 (by decide) ?_
                first
                | (have c : (jr_al (fun f => decide (mo_img s (15 * b + j7_g n f) = mo_kind s f)) k && decide (mo_img s (15 * b + j7_g n k) = mo_kind s k)) = true := by rw [jb_b1 c59, decide_eq_true c86]; rfl
                   rw [jb_bt c] at ih; refine jj_istore dX7_like_94 (by decide) rfl ?_; refine jj_iinc dX7_like_96 rfl (jb_i k) (by decide) rfl ?_; refine jj_goto (tgt := 50) dX7_like_99 (by decide) ?_; exact ih)
                | (have c : ¬ (jr_al (fun f => decide (mo_img s (15 * b + j7_g n f) = mo_kind s f)) k && decide (mo_img s (15 * b + j7_g n k) = mo_kind s k)) = true := by rw [decide_eq_false c86, Bool.and_false]; decide
                   rw [jb_bf c] at ih; refine jj_istore dX7_like_94 (by decide) rfl ?_; refine jj_iinc dX7_like_96 rfl (jb_i k) (by decide) rfl ?_; refine jj_goto (tgt := 50) dX7_like_99 (by decide) ?_; exact ih)
                | (have c : ¬ (jr_al (fun f => decide (mo_img s (15 * b + j7_g n f) = mo_kind s f)) k && decide (mo_img s (15 * b + j7_g n k) = mo_kind s k)) = true := fun z => jb_b0 c59 (Bool.and_eq_true_iff.mp z).1
                   rw [jb_bf c] at ih; refine jj_istore dX7_like_94 (by decide) rfl ?_; refine jj_iinc dX7_like_96 rfl (jb_i k) (by decide) rfl ?_; refine jj_goto (tgt := 50) dX7_like_99 (by decide) ?_; exact ih)
              · refine jj_iconst (v := 1) dX7_like_89 (by decide) ?_
                refine jj_goto (tgt := 94) dX7_like_90 (by decide) ?_
                first
                | (have c : (jr_al (fun f => decide (mo_img s (15 * b + j7_g n f) = mo_kind s f)) k && decide (mo_img s (15 * b + j7_g n k) = mo_kind s k)) = true := by rw [jb_b1 c59, decide_eq_true c86]; rfl
                   rw [jb_bt c] at ih; refine jj_istore dX7_like_94 (by decide) rfl ?_; refine jj_iinc dX7_like_96 rfl (jb_i k) (by decide) rfl ?_; refine jj_goto (tgt := 50) dX7_like_99 (by decide) ?_; exact ih)
                | (have c : ¬ (jr_al (fun f => decide (mo_img s (15 * b + j7_g n f) = mo_kind s f)) k && decide (mo_img s (15 * b + j7_g n k) = mo_kind s k)) = true := by rw [decide_eq_false c86, Bool.and_false]; decide
                   rw [jb_bf c] at ih; refine jj_istore dX7_like_94 (by decide) rfl ?_; refine jj_iinc dX7_like_96 rfl (jb_i k) (by decide) rfl ?_; refine jj_goto (tgt := 50) dX7_like_99 (by decide) ?_; exact ih)
                | (have c : ¬ (jr_al (fun f => decide (mo_img s (15 * b + j7_g n f) = mo_kind s f)) k && decide (mo_img s (15 * b + j7_g n k) = mo_kind s k)) = true := fun z => jb_b0 c59 (Bool.and_eq_true_iff.mp z).1
                   rw [jb_bf c] at ih; refine jj_istore dX7_like_94 (by decide) rfl ?_; refine jj_iinc dX7_like_96 rfl (jb_i k) (by decide) rfl ?_; refine jj_goto (tgt := 50) dX7_like_99 (by decide) ?_; exact ih)
          · refine jj_iload dX7_like_50 rfl ?_
            refine jj_bipush (v := 12) dX7_like_52 (by decide) ?_
            refine jj_icmp_ge (tgt := 102) dX7_like_54 (by decide) (fun _ => ?_) (fun zz => absurd (jb_ge' (n := 12) (by decide)) zz)
            refine jj_iload_n dX7_like_102 rfl ?_
            refine jj_iload dX7_like_103 rfl ?_
            refine jj_if_eq (tgt := 112) dX7_like_105 (by decide) (fun c105 => ?_) (fun c105 => ?_)
            · refine jj_iconst (v := 0) dX7_like_112 (by decide) ?_
              first
              | (rw [if_pos (show (j7_li (mo_kind s) (mo_img s) b) n = true from jb_b1 c105)] at ih; refine jj_iadd (v := nI (C + 1)) dX7_like_113 (nI_add C 1) ?_; refine jj_istore_n dX7_like_114 rfl (by decide) rfl ?_; refine jj_iinc dX7_like_115 rfl (jb_i n) (by decide) rfl ?_; refine jj_goto (tgt := 28) dX7_like_118 (by decide) ?_; exact jj_less (jl6 _ _ _ _ _ _) ih)
              | (rw [if_neg (show ¬ (j7_li (mo_kind s) (mo_img s) b) n = true from jb_b0 c105)] at ih; refine jj_iadd (v := nI (C + 0)) dX7_like_113 (nI_add C 0) ?_; refine jj_istore_n dX7_like_114 rfl (by decide) rfl ?_; refine jj_iinc dX7_like_115 rfl (jb_i n) (by decide) rfl ?_; refine jj_goto (tgt := 28) dX7_like_118 (by decide) ?_; exact jj_less (jl6 _ _ _ _ _ _) ih)
            · refine jj_iconst (v := 1) dX7_like_108 (by decide) ?_
              refine jj_goto (tgt := 113) dX7_like_109 (by decide) ?_
              first
              | (rw [if_pos (show (j7_li (mo_kind s) (mo_img s) b) n = true from jb_b1 c105)] at ih; refine jj_iadd (v := nI (C + 1)) dX7_like_113 (nI_add C 1) ?_; refine jj_istore_n dX7_like_114 rfl (by decide) rfl ?_; refine jj_iinc dX7_like_115 rfl (jb_i n) (by decide) rfl ?_; refine jj_goto (tgt := 28) dX7_like_118 (by decide) ?_; exact jj_less (jl6 _ _ _ _ _ _) ih)
              | (rw [if_neg (show ¬ (j7_li (mo_kind s) (mo_img s) b) n = true from jb_b0 c105)] at ih; refine jj_iadd (v := nI (C + 0)) dX7_like_113 (nI_add C 0) ?_; refine jj_istore_n dX7_like_114 rfl (by decide) rfl ?_; refine jj_iinc dX7_like_115 rfl (jb_i n) (by decide) rfl ?_; refine jj_goto (tgt := 28) dX7_like_118 (by decide) ?_; exact jj_less (jl6 _ _ _ _ _ _) ih)
        refine jj_iload_n dX7_like_28 rfl ?_
        refine jj_bipush (v := 60) dX7_like_29 (by decide) ?_
        refine jj_icmp_ge (tgt := 121) dX7_like_31 (by decide) (fun zz => absurd zz (jb_ge hn (by decide))) (fun _ => ?_)
        refine jj_aload_n dX7_like_34 rfl ?_
        refine jj_iload_n dX7_like_35 rfl ?_
        refine jj_iconst (v := nI 5) dX7_like_36 (by decide) ?_
        refine jj_idiv dX7_like_37 (by decide) (pk_div (a := n) (d := 5) (by omega) (by decide) (by decide)) ?_
        refine jj_iload_n dX7_like_38 rfl ?_
        refine jj_iconst (v := nI 5) dX7_like_39 (by decide) ?_
        refine jj_irem dX7_like_40 (by decide) (pk_rem (a := n) (d := 5) (by omega) (by decide) (by decide)) ?_
        refine jj_callV (M2 := m7_layTurning) dX7_like_41 ml7_181 tm7_layTurning (hla) rfl rfl rfl rfl rfl (by omega) (Nat.le_of_ble_eq_true rfl) ?_
        refine jj_iconst (v := 1) dX7_like_44 (by decide) ?_
        refine jj_istore dX7_like_45 (by decide) rfl ?_
        refine jj_iconst (v := 0) dX7_like_47 (by decide) ?_
        refine jj_istore dX7_like_48 (by decide) rfl ?_
        exact L2 0 (by decide)
      · skip
        refine jj_iload_n dX7_like_28 rfl ?_
        refine jj_bipush (v := 60) dX7_like_29 (by decide) ?_
        refine jj_icmp_ge (tgt := 121) dX7_like_31 (by decide) (fun _ => ?_) (fun zz => absurd (jb_ge' (n := 60) (by decide)) zz)
        refine jj_iload_n dX7_like_121 rfl ?_
        exact jj_leaf dX7_like_122 rfl rfl
    refine jj_iload_n dX7_like_0 rfl ?_
    refine jj_iconst (v := 0) dX7_like_1 (by decide) ?_
    refine jj_iconst (v := 1) dX7_like_2 (by decide) ?_
    refine jj_callS (M2 := m7_in) dX7_like_3 ml7_65 tm7_in (ev7_in (nI b) 0 1) rfl rfl (by omega) (Nat.le_of_ble_eq_true rfl) ?_
    refine jj_if_ne (tgt := 12) dX7_like_6 (by decide) (fun _ => ?_) (fun zz => absurd zz (by rw [jb_bt (v01_b hb2)]; decide))
    refine jj_aload_n dX7_like_12 rfl ?_
    refine jj_getf dX7_like_13 fl7_32 rfl rfl ?_
    refine jj_iload_n dX7_like_16 rfl ?_
    refine jv_zald dX7_like_17 rfl (hb2) (by decide) ?_
    refine jj_if_ne (tgt := 24) dX7_like_18 (by decide) (fun _ => ?_) (fun zz => absurd zz hz)
    refine jj_iconst (v := 0) dX7_like_24 (by decide) ?_
    refine jj_istore_n dX7_like_25 rfl (by decide) rfl ?_
    refine jj_iconst (v := 0) dX7_like_26 (by decide) ?_
    refine jj_istore_n dX7_like_27 rfl (by decide) rfl ?_
    exact L 0 (by decide)
set_option maxRecDepth 100000 in
set_option maxHeartbeats 600000 in
theorem ev7_like_b {G : jj_G} {s : jj_S} {x : Int32} (hx : ¬ v01 x) : jj_Ev G m7_like 2 [.ref 28, .int x] (jj_m s) 0 0 (some (.int (-2))) (jj_m s) := by
  refine jj_Ev_of (lo := [some (.ref 28), some (.int x), none, none, none, none]) (by decide +kernel) (Nat.le_of_ble_eq_true rfl) rfl (by trivial) ?_
  refine jj_iload_n dX7_like_0 rfl ?_
  refine jj_iconst (v := 0) dX7_like_1 (by decide) ?_
  refine jj_iconst (v := 1) dX7_like_2 (by decide) ?_
  refine jj_callS (M2 := m7_in) dX7_like_3 ml7_65 tm7_in (ev7_in x 0 1) rfl rfl (by omega) (Nat.le_of_ble_eq_true rfl) ?_
  refine jj_if_ne (tgt := 12) dX7_like_6 (by decide) (fun zz => absurd (jb_bf hx) zz) (fun _ => ?_)
  refine jj_bipush (v := (-2)) dX7_like_9 (by decide) ?_
  exact jj_leaf dX7_like_11 rfl rfl
