/-! THE MODEL: a turning laid -/
def jy_u (P : (Nat → Int32) × (Nat → Int32)) (f d : Nat) : Nat := jh_u d (jn (P.2 f))
def jy_s (P : (Nat → Int32) × (Nat → Int32)) (f d : Nat) : (Nat → Int32) × (Nat → Int32) :=
  if P.1 (jb_s f d) = -1 then (jU P.1 (jb_s f d) (nI (jb_s (jn (P.1 f)) (jy_u P f d))), jU P.2 (jb_s f d) (nI ((jb_bk (jn (P.1 f)) (jy_u P f d) + 5 - jb_bk f d) % 5))) else P
def jy_i (P : (Nat → Int32) × (Nat → Int32)) (f d : Nat) : Nat → (Nat → Int32) × (Nat → Int32)
  | 0 => P
  | m + 1 => if P.1 f = -1 then P else jy_i (jy_s P f d) f (d + 1) m
def jy_f (P : (Nat → Int32) × (Nat → Int32)) (f : Nat) : Nat → (Nat → Int32) × (Nat → Int32)
  | 0 => P
  | m + 1 => jy_f (jy_i P f 0 5) (f + 1) m
def jy_F (P : (Nat → Int32) × (Nat → Int32)) : (Nat → Int32) × (Nat → Int32) := jy_f P 0 12
def jy_it {α : Type} (F : α → α) (P : α) : Nat → α
  | 0 => P
  | m + 1 => jy_it F (F P) m
theorem jy_it1 {α : Type} (F : α → α) (P : α) (m : Nat) : jy_it F P (m + 1) = jy_it F (F P) m := rfl
def jy_r (P : (Nat → Int32) × (Nat → Int32)) (m : Nat) : (Nat → Int32) × (Nat → Int32) := jy_it jy_F P m
theorem jy_r0 (P : (Nat → Int32) × (Nat → Int32)) : jy_r P 0 = P := rfl
theorem jy_r1 (P : (Nat → Int32) × (Nat → Int32)) (m : Nat) : jy_r P (m + 1) = jy_r (jy_F P) m := jy_it1 jy_F P m
def jy_ok (P : (Nat → Int32) × (Nat → Int32)) : Prop := ∀ f, f < 12 → P.1 f = -1 ∨ ∃ k, k < 12 ∧ P.1 f = nI k ∧ ∃ d, d < 5 ∧ P.2 f = nI d
def jy_S (s : jj_S) (P : (Nat → Int32) × (Nat → Int32)) : jj_S := mo_onS (mo_toS s P.1) P.2
def jy_0 (s : jj_S) (a t : Nat) : (Nat → Int32) × (Nat → Int32) := (jU (jF (fun _ => -1) (mo_to s) 12) 0 (nI a), jU (mo_on s) 0 (nI t))
/-- what laying a turning leaves -/
def j7_la (s : jj_S) (a t : Nat) : jj_S := jy_S s (jy_r (jy_0 s a t) 3)
theorem jy_n1 {k : Nat} (h : k < 12) : ¬ nI k = -1 := (by decide : ∀ k, k < 12 → ¬ nI k = -1) k h
theorem jy_ok0 (s : jj_S) {a t : Nat} (ha : a < 12) (ht : t < 5) : jy_ok (jy_0 s a t) := by
  intro f hf
  by_cases e : f = 0
  · subst e; exact .inr ⟨a, ha, jU_at (jF (fun _ => -1) (mo_to s) 12) 0 (nI a), t, ht, jU_at (mo_on s) 0 (nI t)⟩
  · refine .inl ((jU_ne _ _ e).trans ?_)
    exact if_pos hf
theorem jy_oks {P : (Nat → Int32) × (Nat → Int32)} (h : jy_ok P) {f d : Nat} (hf : f < 12) (hn : ¬ P.1 f = -1) : jy_ok (jy_s P f d) := by
  unfold jy_s
  split
  · obtain ⟨A, hA, eA, D, hD, eD⟩ := (h f hf).resolve_left hn
    intro j hj
    by_cases e : j = jb_s f d
    · subst e
      refine .inr ⟨jb_s A (jy_u P f d), jb_s_lt _ hA _ (jh_u_lt _ _), (jU_at _ _ _).trans (by rw [eA, jn_n (by omega)]), _, Nat.mod_lt _ (by decide), jU_at _ _ _⟩
    · show jU P.1 _ _ j = -1 ∨ ∃ k, k < 12 ∧ jU P.1 _ _ j = nI k ∧ ∃ d, d < 5 ∧ jU P.2 _ _ j = nI d
      rw [jU_ne _ _ e, jU_ne _ _ e]
      exact h j hj
  · exact h
theorem jy_oki {f : Nat} (hf : f < 12) : ∀ m d (P : (Nat → Int32) × (Nat → Int32)), jy_ok P → jy_ok (jy_i P f d m) := by
  intro m
  induction m with
  | zero => intro d P h; exact h
  | succ m ih =>
    intro d P h
    unfold jy_i
    split
    · exact h
    · next hn => exact ih (d + 1) _ (jy_oks h hf hn)
theorem jy_okf : ∀ m f (P : (Nat → Int32) × (Nat → Int32)), f + m ≤ 12 → jy_ok P → jy_ok (jy_f P f m) := by
  intro m
  induction m with
  | zero => intro f P _ h; exact h
  | succ m ih => intro f P hf h; exact ih (f + 1) _ (by omega) (jy_oki (by omega) 5 0 P h)
theorem jy_okr : ∀ m (P : (Nat → Int32) × (Nat → Int32)), jy_ok P → jy_ok (jy_r P m) := by
  intro m
  induction m with
  | zero => intro P h; exact h
  | succ m ih =>
    intro P h
    have h2 : jy_ok (jy_F P) := by unfold jy_F; exact jy_okf 12 0 P (by decide) h
    generalize hP2 : jy_F P = P2 at h2
    rw [jy_r1, hP2]
    exact ih P2 h2
theorem jy_rem : ∀ a, a < 5 → ∀ b, b < 5 → nI a - nI b + 5 - (nI a - nI b + 5) / 5 * 5 = nI ((a + 5 - b) % 5) := by decide +kernel
set_option maxRecDepth 100000 in
set_option maxHeartbeats 1000000 in
theorem ev7_layTurning {G : jj_G} {s : jj_S} {a t : Nat} (hb : mb_ok s) (ha : a < 12) (ht : t < 5) : jj_Ev G m7_layTurning 1 [.ref 28, .int (nI a), .int (nI t)] (jj_m s) 0 0 (none) (jj_m (j7_la s a t)) := by
  refine jj_Ev_of (lo := [some (.ref 28), some (.int (nI a)), some (.int (nI t)), none, none, none, none]) (by decide +kernel) (Nat.le_of_ble_eq_true rfl) rfl (by trivial) ?_
  have L1 : ∀ i f, f < 12 → ∀ m d P, d + m = 5 → jy_ok P → jj_Go G m7_layTurning 1 175 [some (.ref 28), some (.int (nI a)), some (.int (nI t)), some (.int (nI i)), some (.int (nI f)), none, none] [] (jj_m (jy_S s (jy_i P f d m))) 0 0 (none) (jj_m (j7_la s a t)) → jj_Go G m7_layTurning 1 55 [some (.ref 28), some (.int (nI a)), some (.int (nI t)), some (.int (nI i)), some (.int (nI f)), some (.int (nI d)), none] [] (jj_m (jy_S s P)) 0 0 (none) (jj_m (j7_la s a t)) := by
    intro i f hf m
    induction m with
    | zero =>
      intro d P hd hP K
      obtain rfl : d = 5 := hd
      refine jj_iload dX7_layTurning_55 rfl ?_
      refine jj_iconst (v := 5) dX7_layTurning_57 (by decide) ?_
      refine jj_icmp_ge (tgt := 175) dX7_layTurning_58 (by decide) (fun _ => ?_) (fun zz => absurd (jb_ge' (n := 5) (by decide)) zz)
      refine jj_less (lo' := [some (.ref 28), some (.int (nI a)), some (.int (nI t)), some (.int (nI i)), some (.int (nI f)), none, none]) (fun j v hj => ?_) K
      match j, hj with
      | 0, hj => exact hj
      | 1, hj => exact hj
      | 2, hj => exact hj
      | 3, hj => exact hj
      | 4, hj => exact hj
      | 5, hj => exact absurd hj (by simp)
      | 6, hj => exact absurd hj (by simp)
      | j + 7, hj => exact absurd hj (by simp)
    | succ m ihm =>
      intro d P hdm hP K
      have hd : d < 5 := by omega
      have hbS : mb_ok (jy_S s P) := hb
      unfold jy_i at K
      by_cases z : P.1 f = -1
      · rw [if_pos z] at K
        refine jj_iload dX7_layTurning_55 rfl ?_
        refine jj_iconst (v := 5) dX7_layTurning_57 (by decide) ?_
        refine jj_icmp_ge (tgt := 175) dX7_layTurning_58 (by decide) (fun zz => absurd zz (jb_ge hd (by decide))) (fun _ => ?_)
        refine jj_aload_n dX7_layTurning_61 rfl ?_
        refine jj_getf dX7_layTurning_62 fl7_35 rfl rfl ?_
        refine jj_iload dX7_layTurning_65 rfl ?_
        refine jv_iald dX7_layTurning_67 rfl (hf) (by decide) ?_
        refine jj_iconst (v := (-1)) dX7_layTurning_68 (by decide) ?_
        refine jj_icmp_eq (tgt := 175) dX7_layTurning_69 (by decide) (fun _ => ?_) (fun zz => absurd z zz)
        refine jj_less (lo' := [some (.ref 28), some (.int (nI a)), some (.int (nI t)), some (.int (nI i)), some (.int (nI f)), none, none]) (fun j v hj => ?_) K
        match j, hj with
        | 0, hj => exact hj
        | 1, hj => exact hj
        | 2, hj => exact hj
        | 3, hj => exact hj
        | 4, hj => exact hj
        | 5, hj => exact absurd hj (by simp)
        | 6, hj => exact absurd hj (by simp)
        | j + 7, hj => exact absurd hj (by simp)
      · rw [if_neg z] at K
        have hg : jb_s f d < 12 := jb_s_lt f hf d hd
        have ih := ihm (d + 1) (jy_s P f d) (by omega) (jy_oks hP hf z) K
        unfold jy_s at ih
        by_cases z2 : P.1 (jb_s f d) = -1
        · rw [if_pos z2] at ih
          obtain ⟨A, hA, eA, D, hD, eD⟩ := (hP f hf).resolve_left z
          have hne : f ≠ jb_s f d := fun e => z (by rw [e]; exact z2)
          have eu : jy_u P f d = jh_u d D := by unfold jy_u; rw [eD, jn_n (by omega)]
          rw [eu, eA, jn_n (by omega)] at ih
          generalize hue : jh_u d D = u at ih
          have hu : u < 5 := by rw [← hue]; exact jh_u_lt _ _
          have hbX : mb_ok (mo_toS (jy_S s P) (jU P.1 (jb_s f d) (nI (jb_s A u)))) := hb
          refine jj_iload dX7_layTurning_55 rfl ?_
          refine jj_iconst (v := 5) dX7_layTurning_57 (by decide) ?_
          refine jj_icmp_ge (tgt := 175) dX7_layTurning_58 (by decide) (fun zz => absurd zz (jb_ge hd (by decide))) (fun _ => ?_)
          refine jj_aload_n dX7_layTurning_61 rfl ?_
          refine jj_getf dX7_layTurning_62 fl7_35 rfl rfl ?_
          refine jj_iload dX7_layTurning_65 rfl ?_
          refine jv_iald dX7_layTurning_67 rfl (hf) (by decide) ?_
          refine jj_iconst (v := (-1)) dX7_layTurning_68 (by decide) ?_
          refine jj_icmp_eq (tgt := 175) dX7_layTurning_69 (by decide) (fun zz => absurd zz z) (fun _ => ?_)
          refine jj_aload_n dX7_layTurning_72 rfl ?_
          refine jj_getf dX7_layTurning_73 fl7_7 rfl rfl ?_
          refine jj_iconst (v := nI 5) dX7_layTurning_76 (by decide) ?_
          refine jj_iload dX7_layTurning_77 rfl ?_
          refine jj_imul dX7_layTurning_79 (j4_mul 5 f) ?_
          refine jj_iload dX7_layTurning_80 rfl ?_
          refine jj_iadd dX7_layTurning_82 (nI_add (5 * f) d) ?_
          refine jv_iald dX7_layTurning_83 rfl (by omega) (by decide) ?_
          rw [hbS f hf d hd]
          refine jj_istore dX7_layTurning_84 (by decide) rfl ?_
          refine jj_aload_n dX7_layTurning_86 rfl ?_
          refine jj_getf dX7_layTurning_87 fl7_35 rfl rfl ?_
          refine jj_iload dX7_layTurning_90 rfl ?_
          refine jv_iald dX7_layTurning_92 rfl (hg) (by decide) ?_
          refine jj_iconst (v := (-1)) dX7_layTurning_93 (by decide) ?_
          refine jj_icmp_ne (tgt := 169) dX7_layTurning_94 (by decide) (fun zz => absurd z2 zz) (fun _ => ?_)
          refine jj_aload_n dX7_layTurning_97 rfl ?_
          refine jj_getf dX7_layTurning_98 fl7_35 rfl rfl ?_
          refine jj_iload dX7_layTurning_101 rfl ?_
          refine jj_aload_n dX7_layTurning_103 rfl ?_
          refine jj_getf dX7_layTurning_104 fl7_7 rfl rfl ?_
          refine jj_iconst (v := nI 5) dX7_layTurning_107 (by decide) ?_
          refine jj_aload_n dX7_layTurning_108 rfl ?_
          refine jj_getf dX7_layTurning_109 fl7_35 rfl rfl ?_
          refine jj_iload dX7_layTurning_112 rfl ?_
          refine jv_iald dX7_layTurning_114 rfl (hf) (by decide) ?_
          refine jj_eq (st' := [.int (nI A), .int (nI 5), .ref 29, .int (nI (jb_s f d)), .ref 37]) rfl rfl (by rw [← eA]; rfl) rfl ?_
          refine jj_imul dX7_layTurning_115 (j4_mul 5 A) ?_
          refine jj_iload dX7_layTurning_116 rfl ?_
          refine jj_aload_n dX7_layTurning_118 rfl ?_
          refine jj_getf dX7_layTurning_119 fl7_38 rfl rfl ?_
          refine jj_iload dX7_layTurning_122 rfl ?_
          refine jv_iald dX7_layTurning_124 rfl (hf) (by decide) ?_
          refine jj_eq (st' := [.int (nI D), .int (nI d), .int (nI (5 * A)), .ref 29, .int (nI (jb_s f d)), .ref 37]) rfl rfl (by rw [← eD]; rfl) rfl ?_
          refine jj_iadd dX7_layTurning_125 (nI_add d D) ?_
          refine jj_iconst (v := nI 5) dX7_layTurning_126 (by decide) ?_
          refine jj_irem dX7_layTurning_127 (by decide) (pk_rem (a := d + D) (d := 5) (by omega) (by decide) (by decide)) ?_
          refine jj_iadd (v := nI (5 * A + u)) dX7_layTurning_128 (by rw [← hue]; exact nI_add (5 * A) _) ?_
          refine jv_iald dX7_layTurning_129 rfl (by omega) (by decide) ?_
          rw [hbS A hA u hu]
          refine jv_iast dX7_layTurning_130 rfl (hg) (by decide) rfl ?_
          refine jj_aload_n dX7_layTurning_131 rfl ?_
          refine jj_getf dX7_layTurning_132 fl7_38 rfl rfl ?_
          refine jj_iload dX7_layTurning_135 rfl ?_
          refine jj_aload_n dX7_layTurning_137 rfl ?_
          refine jj_aload_n dX7_layTurning_138 rfl ?_
          refine jj_getf dX7_layTurning_139 fl7_35 rfl rfl ?_
          refine jj_iload dX7_layTurning_142 rfl ?_
          refine jv_iald dX7_layTurning_144 rfl (hg) (by decide) ?_
          refine jj_aload_n dX7_layTurning_145 rfl ?_
          refine jj_getf dX7_layTurning_146 fl7_35 rfl rfl ?_
          refine jj_iload dX7_layTurning_149 rfl ?_
          refine jv_iald dX7_layTurning_151 rfl (hf) (by decide) ?_
          refine jj_eq (st' := [.int (nI A), .int (nI (jb_s A u)), .ref 28, .int (nI (jb_s f d)), .ref 38]) rfl rfl (by show [Value.int (jU P.1 (jb_s f d) (nI (jb_s A u)) f), Value.int (jU P.1 (jb_s f d) (nI (jb_s A u)) (jb_s f d)), _, _, _] = _; rw [jU_at, jU_ne _ _ hne, eA]) rfl ?_
          refine jj_callV (M2 := m7_sideOf) dX7_layTurning_152 ml7_117 tm7_sideOf (ev7_sideOf (s := mo_toS (jy_S s P) (jU P.1 (jb_s f d) (nI (jb_s A u)))) (f := jb_s A u) (g := A) hbX (jb_s_lt A hA u hu) hA) rfl rfl rfl rfl rfl (by omega) (Nat.le_of_ble_eq_true rfl) ?_
          rw [jb_bk_sd hA hu]
          refine jj_aload_n dX7_layTurning_155 rfl ?_
          refine jj_iload dX7_layTurning_156 rfl ?_
          refine jj_iload dX7_layTurning_158 rfl ?_
          refine jj_callV (M2 := m7_sideOf) dX7_layTurning_160 ml7_117 tm7_sideOf (ev7_sideOf (s := mo_toS (jy_S s P) (jU P.1 (jb_s f d) (nI (jb_s A u)))) (f := jb_s f d) (g := f) hbX hg hf) rfl rfl rfl rfl rfl (by omega) (Nat.le_of_ble_eq_true rfl) ?_
          rw [jb_bk_sd hf hd]
          refine jj_isub dX7_layTurning_163 rfl ?_
          refine jj_iconst (v := 5) dX7_layTurning_164 (by decide) ?_
          refine jj_iadd dX7_layTurning_165 rfl ?_
          refine jj_iconst (v := 5) dX7_layTurning_166 (by decide) ?_
          refine jj_irem dX7_layTurning_167 (by decide) (jy_rem _ (jb_bk_lt A hA u hu) _ (jb_bk_lt f hf d hd)) ?_
          refine jv_iast dX7_layTurning_168 rfl (hg) (by decide) rfl ?_
          refine jj_iinc dX7_layTurning_169 rfl (jb_i d) (by decide) rfl ?_
          refine jj_goto (tgt := 55) dX7_layTurning_172 (by decide) ?_
          refine jj_less (lo' := [some (.ref 28), some (.int (nI a)), some (.int (nI t)), some (.int (nI i)), some (.int (nI f)), some (.int (nI (d + 1))), none]) (fun j v hj => ?_) ih
          match j, hj with
          | 0, hj => exact hj
          | 1, hj => exact hj
          | 2, hj => exact hj
          | 3, hj => exact hj
          | 4, hj => exact hj
          | 5, hj => exact hj
          | 6, hj => exact absurd hj (by simp)
          | j + 7, hj => exact absurd hj (by simp)
        · rw [if_neg z2] at ih
          refine jj_iload dX7_layTurning_55 rfl ?_
          refine jj_iconst (v := 5) dX7_layTurning_57 (by decide) ?_
          refine jj_icmp_ge (tgt := 175) dX7_layTurning_58 (by decide) (fun zz => absurd zz (jb_ge hd (by decide))) (fun _ => ?_)
          refine jj_aload_n dX7_layTurning_61 rfl ?_
          refine jj_getf dX7_layTurning_62 fl7_35 rfl rfl ?_
          refine jj_iload dX7_layTurning_65 rfl ?_
          refine jv_iald dX7_layTurning_67 rfl (hf) (by decide) ?_
          refine jj_iconst (v := (-1)) dX7_layTurning_68 (by decide) ?_
          refine jj_icmp_eq (tgt := 175) dX7_layTurning_69 (by decide) (fun zz => absurd zz z) (fun _ => ?_)
          refine jj_aload_n dX7_layTurning_72 rfl ?_
          refine jj_getf dX7_layTurning_73 fl7_7 rfl rfl ?_
          refine jj_iconst (v := nI 5) dX7_layTurning_76 (by decide) ?_
          refine jj_iload dX7_layTurning_77 rfl ?_
          refine jj_imul dX7_layTurning_79 (j4_mul 5 f) ?_
          refine jj_iload dX7_layTurning_80 rfl ?_
          refine jj_iadd dX7_layTurning_82 (nI_add (5 * f) d) ?_
          refine jv_iald dX7_layTurning_83 rfl (by omega) (by decide) ?_
          rw [hbS f hf d hd]
          refine jj_istore dX7_layTurning_84 (by decide) rfl ?_
          refine jj_aload_n dX7_layTurning_86 rfl ?_
          refine jj_getf dX7_layTurning_87 fl7_35 rfl rfl ?_
          refine jj_iload dX7_layTurning_90 rfl ?_
          refine jv_iald dX7_layTurning_92 rfl (hg) (by decide) ?_
          refine jj_iconst (v := (-1)) dX7_layTurning_93 (by decide) ?_
          refine jj_icmp_ne (tgt := 169) dX7_layTurning_94 (by decide) (fun _ => ?_) (fun zz => absurd zz z2)
          refine jj_iinc dX7_layTurning_169 rfl (jb_i d) (by decide) rfl ?_
          refine jj_goto (tgt := 55) dX7_layTurning_172 (by decide) ?_
          refine jj_less (lo' := [some (.ref 28), some (.int (nI a)), some (.int (nI t)), some (.int (nI i)), some (.int (nI f)), some (.int (nI (d + 1))), none]) (fun j v hj => ?_) ih
          match j, hj with
          | 0, hj => exact hj
          | 1, hj => exact hj
          | 2, hj => exact hj
          | 3, hj => exact hj
          | 4, hj => exact hj
          | 5, hj => exact hj
          | 6, hj => exact absurd hj (by simp)
          | j + 7, hj => exact absurd hj (by simp)
  have L2 : ∀ i m f P, f + m = 12 → jy_ok P → jj_Go G m7_layTurning 1 181 [some (.ref 28), some (.int (nI a)), some (.int (nI t)), some (.int (nI i)), none, none, none] [] (jj_m (jy_S s (jy_f P f m))) 0 0 (none) (jj_m (j7_la s a t)) → jj_Go G m7_layTurning 1 45 [some (.ref 28), some (.int (nI a)), some (.int (nI t)), some (.int (nI i)), some (.int (nI f)), none, none] [] (jj_m (jy_S s P)) 0 0 (none) (jj_m (j7_la s a t)) := by
    intro i m
    induction m with
    | zero =>
      intro f P hf hP K
      obtain rfl : f = 12 := hf
      refine jj_iload dX7_layTurning_45 rfl ?_
      refine jj_bipush (v := 12) dX7_layTurning_47 (by decide) ?_
      refine jj_icmp_ge (tgt := 181) dX7_layTurning_49 (by decide) (fun _ => ?_) (fun zz => absurd (jb_ge' (n := 12) (by decide)) zz)
      refine jj_less (lo' := [some (.ref 28), some (.int (nI a)), some (.int (nI t)), some (.int (nI i)), none, none, none]) (fun j v hj => ?_) K
      match j, hj with
      | 0, hj => exact hj
      | 1, hj => exact hj
      | 2, hj => exact hj
      | 3, hj => exact hj
      | 4, hj => exact absurd hj (by simp)
      | 5, hj => exact absurd hj (by simp)
      | 6, hj => exact absurd hj (by simp)
      | j + 7, hj => exact absurd hj (by simp)
    | succ m ihm =>
      intro f P hfm hP K
      have hf : f < 12 := by omega
      have ih := ihm (f + 1) (jy_i P f 0 5) (by omega) (jy_oki hf 5 0 P hP) K
      refine jj_iload dX7_layTurning_45 rfl ?_
      refine jj_bipush (v := 12) dX7_layTurning_47 (by decide) ?_
      refine jj_icmp_ge (tgt := 181) dX7_layTurning_49 (by decide) (fun zz => absurd zz (jb_ge hf (by decide))) (fun _ => ?_)
      refine jj_iconst (v := nI 0) dX7_layTurning_52 (by decide) ?_
      refine jj_istore dX7_layTurning_53 (by decide) rfl ?_
      refine L1 i f hf 5 0 P rfl hP ?_
      refine jj_iinc dX7_layTurning_175 rfl (jb_i f) (by decide) rfl ?_
      refine jj_goto (tgt := 45) dX7_layTurning_178 (by decide) ?_
      exact ih
  have L3 : ∀ m i P, i + m = 3 → jy_ok P → jj_m (jy_S s (jy_r P m)) = jj_m (j7_la s a t) → jj_Go G m7_layTurning 1 37 [some (.ref 28), some (.int (nI a)), some (.int (nI t)), some (.int (nI i)), none, none, none] [] (jj_m (jy_S s P)) 0 0 (none) (jj_m (j7_la s a t)) := by
    intro m
    induction m with
    | zero =>
      intro i P hi hP K
      obtain rfl : i = 3 := hi
      rw [jy_r0] at K
      refine jj_iload_n dX7_layTurning_37 rfl ?_
      refine jj_iconst (v := 3) dX7_layTurning_38 (by decide) ?_
      refine jj_icmp_ge (tgt := 187) dX7_layTurning_39 (by decide) (fun _ => ?_) (fun zz => absurd (jb_ge' (n := 3) (by decide)) zz)
      exact jj_leaf dX7_layTurning_187 rfl K
    | succ m ihm =>
      intro i P him hP K
      have hi : i < 3 := by omega
      rw [jy_r1] at K
      generalize hPe : jy_F P = P2 at K
      have ih := ihm (i + 1) P2 (by omega) (by rw [← hPe]; unfold jy_F; exact jy_okf 12 0 P (by decide) hP) K
      rw [← hPe] at ih
      unfold jy_F at ih
      refine jj_iload_n dX7_layTurning_37 rfl ?_
      refine jj_iconst (v := 3) dX7_layTurning_38 (by decide) ?_
      refine jj_icmp_ge (tgt := 187) dX7_layTurning_39 (by decide) (fun zz => absurd zz (jb_ge hi (by decide))) (fun _ => ?_)
      refine jj_iconst (v := nI 0) dX7_layTurning_42 (by decide) ?_
      refine jj_istore dX7_layTurning_43 (by decide) rfl ?_
      refine L2 i 12 0 P rfl hP ?_
      refine jj_iinc dX7_layTurning_181 rfl (jb_i i) (by decide) rfl ?_
      refine jj_goto (tgt := 37) dX7_layTurning_184 (by decide) ?_
      exact ih
  have L : ∀ k, k ≤ 12 → jj_Go G m7_layTurning 1 2 [some (.ref 28), some (.int (nI a)), some (.int (nI t)), some (.int (nI k)), none, none, none] [] (jj_m (mo_toS s (jF (fun _ => -1) (mo_to s) k))) 0 0 (none) (jj_m (j7_la s a t)) := by
    refine jj_up 12 (fun k hk ih => ?_) ?_
    · refine jj_iload_n dX7_layTurning_2 rfl ?_
      refine jj_bipush (v := 12) dX7_layTurning_3 (by decide) ?_
      refine jj_icmp_ge (tgt := 21) dX7_layTurning_5 (by decide) (fun zz => absurd zz (jb_ge hk (by decide))) (fun _ => ?_)
      refine jj_aload_n dX7_layTurning_8 rfl ?_
      refine jj_getf dX7_layTurning_9 fl7_35 rfl rfl ?_
      refine jj_iload_n dX7_layTurning_12 rfl ?_
      refine jj_iconst (v := (-1)) dX7_layTurning_13 (by decide) ?_
      refine jv_iast dX7_layTurning_14 rfl (hk) (by decide) rfl ?_
      refine jj_iinc dX7_layTurning_15 rfl (jb_i k) (by decide) rfl ?_
      refine jj_goto (tgt := 2) dX7_layTurning_18 (by decide) ?_
      exact jj_eq rfl rfl rfl (by rw [← jF_s' (f := fun _ => -1) rfl]; rfl) ih
    · refine jj_iload_n dX7_layTurning_2 rfl ?_
      refine jj_bipush (v := 12) dX7_layTurning_3 (by decide) ?_
      refine jj_icmp_ge (tgt := 21) dX7_layTurning_5 (by decide) (fun _ => ?_) (fun zz => absurd (jb_ge' (n := 12) (by decide)) zz)
      refine jj_aload_n dX7_layTurning_21 rfl ?_
      refine jj_getf dX7_layTurning_22 fl7_35 rfl rfl ?_
      refine jj_iconst (v := nI 0) dX7_layTurning_25 (by decide) ?_
      refine jj_iload_n dX7_layTurning_26 rfl ?_
      refine jv_iast dX7_layTurning_27 rfl (by decide) (by decide) rfl ?_
      refine jj_aload_n dX7_layTurning_28 rfl ?_
      refine jj_getf dX7_layTurning_29 fl7_38 rfl rfl ?_
      refine jj_iconst (v := nI 0) dX7_layTurning_32 (by decide) ?_
      refine jj_iload_n dX7_layTurning_33 rfl ?_
      refine jv_iast dX7_layTurning_34 rfl (by decide) (by decide) rfl ?_
      refine jj_iconst (v := nI 0) dX7_layTurning_35 (by decide) ?_
      refine jj_istore_n dX7_layTurning_36 rfl (by decide) rfl ?_
      exact L3 3 0 (jy_0 s a t) rfl (jy_ok0 s ha ht) (by rw [j7_la])
  refine jj_iconst (v := nI 0) dX7_layTurning_0 (by decide) ?_
  refine jj_istore_n dX7_layTurning_1 rfl (by decide) rfl ?_
  exact jj_eq rfl rfl rfl (by rw [jF_0]; rfl) (L 0 (by decide))
