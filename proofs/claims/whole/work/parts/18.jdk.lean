/-- how many of the first k bits are set -/
def jb_pcn (a : Nat) : Nat → Nat
  | 0 => 0
  | k + 1 => jb_pcn a k + (if a.testBit k = true then 1 else 0)
def jb_pc (a : Nat) : Nat := jb_pcn a 12
def jb_hs (v c : Int32) : Int32 := (v.toUInt32 >>> (c.toUInt32 &&& Int32.toUInt32 31)).toInt32
def jb_bcF (x : Int32) : Int32 :=
  let a := x - (jb_hs x 1 &&& 1431655765)
  let b := (a &&& 858993459) + (jb_hs a 2 &&& 858993459)
  let c := (b + jb_hs b 4) &&& 252645135
  let e := c + jb_hs c 8
  (e + jb_hs e 16) &&& 63
theorem jb_bcA : ∀ a, a < 2048 → jb_bcF (nI a) = nI (jb_pc a) := by decide +kernel
theorem jb_bcB : ∀ a, a < 2048 → jb_bcF (nI (2048 + a)) = nI (jb_pc (2048 + a)) := by decide +kernel
theorem jb_bc {a : Nat} (ha : a < 4096) : jb_bcF (nI a) = nI (jb_pc a) := by
  rcases Nat.lt_or_ge a 2048 with h | h
  · exact jb_bcA a h
  · have := jb_bcB (a - 2048) (by omega)
    rwa [show 2048 + (a - 2048) = a by omega] at this
set_option maxRecDepth 100000 in
set_option maxHeartbeats 4000000 in
theorem evJ6_bitCount {G : jj_G} {h : List jj_C} {a : Nat} (ha : a < 4096) : jj_Ev G mJ6_bitCount 0 [.int (nI a)] (h) 0 0 (some (.int (nI (jb_pc a)))) (h) := by
  refine jj_Ev_of (lo := [some (.int (nI a))]) (by decide +kernel) (Nat.le_of_ble_eq_true rfl) rfl (by trivial) ?_
  rw [← jb_bc ha]
  refine jj_iload_n dJ6_bitCount_0f7a4_0 rfl ?_
  refine jj_iload_n dJ6_bitCount_0f7a4_1 rfl ?_
  refine jj_iconst (v := 1) dJ6_bitCount_0f7a4_2 (by decide) ?_
  refine jj_iushr dJ6_bitCount_0f7a4_3 rfl ?_
  refine jj_ldcw dJ6_bitCount_0f7a4_4 kcJ6_265 ?_
  refine jj_iand dJ6_bitCount_0f7a4_7 rfl ?_
  refine jj_isub dJ6_bitCount_0f7a4_8 rfl ?_
  refine jj_istore_n dJ6_bitCount_0f7a4_9 rfl (by decide) rfl ?_
  refine jj_iload_n dJ6_bitCount_0f7a4_10 rfl ?_
  refine jj_ldcw dJ6_bitCount_0f7a4_11 kcJ6_266 ?_
  refine jj_iand dJ6_bitCount_0f7a4_14 rfl ?_
  refine jj_iload_n dJ6_bitCount_0f7a4_15 rfl ?_
  refine jj_iconst (v := 2) dJ6_bitCount_0f7a4_16 (by decide) ?_
  refine jj_iushr dJ6_bitCount_0f7a4_17 rfl ?_
  refine jj_ldcw dJ6_bitCount_0f7a4_18 kcJ6_266 ?_
  refine jj_iand dJ6_bitCount_0f7a4_21 rfl ?_
  refine jj_iadd dJ6_bitCount_0f7a4_22 rfl ?_
  refine jj_istore_n dJ6_bitCount_0f7a4_23 rfl (by decide) rfl ?_
  refine jj_iload_n dJ6_bitCount_0f7a4_24 rfl ?_
  refine jj_iload_n dJ6_bitCount_0f7a4_25 rfl ?_
  refine jj_iconst (v := 4) dJ6_bitCount_0f7a4_26 (by decide) ?_
  refine jj_iushr dJ6_bitCount_0f7a4_27 rfl ?_
  refine jj_iadd dJ6_bitCount_0f7a4_28 rfl ?_
  refine jj_ldcw dJ6_bitCount_0f7a4_29 kcJ6_267 ?_
  refine jj_iand dJ6_bitCount_0f7a4_32 rfl ?_
  refine jj_istore_n dJ6_bitCount_0f7a4_33 rfl (by decide) rfl ?_
  refine jj_iload_n dJ6_bitCount_0f7a4_34 rfl ?_
  refine jj_iload_n dJ6_bitCount_0f7a4_35 rfl ?_
  refine jj_bipush (v := 8) dJ6_bitCount_0f7a4_36 (by decide) ?_
  refine jj_iushr dJ6_bitCount_0f7a4_38 rfl ?_
  refine jj_iadd dJ6_bitCount_0f7a4_39 rfl ?_
  refine jj_istore_n dJ6_bitCount_0f7a4_40 rfl (by decide) rfl ?_
  refine jj_iload_n dJ6_bitCount_0f7a4_41 rfl ?_
  refine jj_iload_n dJ6_bitCount_0f7a4_42 rfl ?_
  refine jj_bipush (v := 16) dJ6_bitCount_0f7a4_43 (by decide) ?_
  refine jj_iushr dJ6_bitCount_0f7a4_45 rfl ?_
  refine jj_iadd dJ6_bitCount_0f7a4_46 rfl ?_
  refine jj_istore_n dJ6_bitCount_0f7a4_47 rfl (by decide) rfl ?_
  refine jj_iload_n dJ6_bitCount_0f7a4_48 rfl ?_
  refine jj_bipush (v := 63) dJ6_bitCount_0f7a4_49 (by decide) ?_
  refine jj_iand dJ6_bitCount_0f7a4_51 rfl ?_
  exact jj_leaf dJ6_bitCount_0f7a4_52 rfl rfl
def js_c (i j : Nat) : Int32 := (jj_tb.getD i []).getD j 0
theorem js_c1 : ∀ i, i < 8 → ∀ j, j < jj_tl.getD i 0 → ((js_c i j &&& 255).toUInt32 % 65536).toInt32 = js_c i j ∧ narrow .char (.int (js_c i j)) = .int (js_c i j) := by decide +kernel
theorem js_l0 : ∀ i, i < 8 → nI (jj_tl.getD i 0) >>> ((0 : Int32) &&& 31) = nI (jj_tl.getD i 0) := by decide +kernel
theorem js_ll : ∀ i, i < 8 → jj_tl.getD i 0 < 100 := by decide +kernel
set_option maxRecDepth 100000 in
set_option maxHeartbeats 4000000 in
theorem evJ0_coder {G : jj_G} {h : List jj_C} {i : Nat} (hi : i < 8) : jj_Ev G mJ0_coder 0 [.ref (1000002 + i)] (h) 0 0 (some (.int 0)) (h) := by
  refine jj_Ev_of (lo := [some (.ref (1000002 + i))]) (by decide +kernel) (Nat.le_of_ble_eq_true rfl) rfl (by rfl) ?_
  refine js_comp dJ0_coder_7d493_0 fsJ0_38 ?_
  refine jj_if_eq (tgt := 13) dJ0_coder_7d493_3 (by decide) (fun zz => absurd zz (by decide)) (fun _ => ?_)
  refine jj_aload_n dJ0_coder_7d493_6 rfl ?_
  refine js_cod dJ0_coder_7d493_7 hi fsJ0_15 ?_
  refine jj_goto (tgt := 14) dJ0_coder_7d493_10 (by decide) ?_
  exact jj_leaf dJ0_coder_7d493_14 rfl rfl
set_option maxRecDepth 100000 in
set_option maxHeartbeats 4000000 in
theorem evJ0_isLatin1 {G : jj_G} {h : List jj_C} {i : Nat} (hi : i < 8) : jj_Ev G mJ0_isLatin1 0 [.ref (1000002 + i)] (h) 0 0 (some (.int 1)) (h) := by
  refine jj_Ev_of (lo := [some (.ref (1000002 + i))]) (by decide +kernel) (Nat.le_of_ble_eq_true rfl) rfl (Or.inr rfl) ?_
  refine js_comp dJ0_isLatin1_aae02_0 fsJ0_38 ?_
  refine jj_if_eq (tgt := 17) dJ0_isLatin1_aae02_3 (by decide) (fun zz => absurd zz (by decide)) (fun _ => ?_)
  refine jj_aload_n dJ0_isLatin1_aae02_6 rfl ?_
  refine js_cod dJ0_isLatin1_aae02_7 hi fsJ0_15 ?_
  refine jj_if_ne (tgt := 17) dJ0_isLatin1_aae02_10 (by decide) (fun zz => absurd rfl zz) (fun _ => ?_)
  refine jj_iconst (v := 1) dJ0_isLatin1_aae02_13 (by decide) ?_
  refine jj_goto (tgt := 18) dJ0_isLatin1_aae02_14 (by decide) ?_
  exact jj_leaf dJ0_isLatin1_aae02_18 rfl rfl
set_option maxRecDepth 100000 in
set_option maxHeartbeats 4000000 in
theorem evJ0_length {G : jj_G} {h : List jj_C} {i : Nat} (hi : i < 8) : jj_Ev G mJ0_length 1 [.ref (1000002 + i)] (h) 0 0 (some (.int (nI (jj_tl.getD i 0)))) (h) := by
  refine jj_Ev_of (lo := [some (.ref (1000002 + i))]) (by decide +kernel) (Nat.le_of_ble_eq_true rfl) rfl (by trivial) ?_
  refine jj_aload_n dJ0_length_8abf5_0 rfl ?_
  refine js_val dJ0_length_8abf5_1 hi fsJ0_9 ?_
  refine js_len dJ0_length_8abf5_4 hi ?_
  refine jj_aload_n dJ0_length_8abf5_5 rfl ?_
  refine js_call (M2 := mJ0_coder) hi dJ0_length_8abf5_6 mlJ0_335 tmJ0_coder (evJ0_coder hi) rfl rfl rfl (by decide) (Nat.le_of_ble_eq_true rfl) ?_
  refine jj_ishr dJ0_length_8abf5_9 (js_l0 i hi) ?_
  exact jj_leaf dJ0_length_8abf5_10 rfl rfl
set_option maxRecDepth 100000 in
set_option maxHeartbeats 4000000 in
theorem evJ3_checkIndex_a {G : jj_G} {h : List jj_C} {j n : Nat} (hj : j < n) (hn : n < 2 ^ 31) : jj_Ev G mJ3_checkIndex 0 [.int (nI j), .int (nI n), .null] (h) 0 0 (some (.int (nI j))) (h) := by
  refine jj_Ev_of (lo := [some (.int (nI j)), some (.int (nI n)), some (.null)]) (by decide +kernel) (Nat.le_of_ble_eq_true rfl) rfl (by trivial) ?_
  refine jj_iload_n dJ3_checkIndex_8e157_0 rfl ?_
  refine jj_if_lt (tgt := 9) dJ3_checkIndex_8e157_1 (by decide) (fun zz => absurd zz (jb_lt0 (by omega))) (fun _ => ?_)
  refine jj_iload_n dJ3_checkIndex_8e157_4 rfl ?_
  refine jj_iload_n dJ3_checkIndex_8e157_5 rfl ?_
  refine jj_icmp_lt (tgt := 16) dJ3_checkIndex_8e157_6 (by decide) (fun _ => ?_) (fun zz => absurd (nI_lt hj (by omega)) zz)
  refine jj_iload_n dJ3_checkIndex_8e157_16 rfl ?_
  exact jj_leaf dJ3_checkIndex_8e157_17 rfl rfl
set_option maxRecDepth 100000 in
set_option maxHeartbeats 4000000 in
theorem evJ3_checkIndex_b {G : jj_G} {h : List jj_C} {j n : Nat} (hj : j < n) (hn : n < 2 ^ 31) : jj_Ev G mJ3_checkIndex 0 [.int (nI j), .int (nI n), .ref 1000018] (h) 0 0 (some (.int (nI j))) (h) := by
  refine jj_Ev_of (lo := [some (.int (nI j)), some (.int (nI n)), some (.ref 1000018)]) (by decide +kernel) (Nat.le_of_ble_eq_true rfl) rfl (by trivial) ?_
  refine jj_iload_n dJ3_checkIndex_8e157_0 rfl ?_
  refine jj_if_lt (tgt := 9) dJ3_checkIndex_8e157_1 (by decide) (fun zz => absurd zz (jb_lt0 (by omega))) (fun _ => ?_)
  refine jj_iload_n dJ3_checkIndex_8e157_4 rfl ?_
  refine jj_iload_n dJ3_checkIndex_8e157_5 rfl ?_
  refine jj_icmp_lt (tgt := 16) dJ3_checkIndex_8e157_6 (by decide) (fun _ => ?_) (fun zz => absurd (nI_lt hj (by omega)) zz)
  refine jj_iload_n dJ3_checkIndex_8e157_16 rfl ?_
  exact jj_leaf dJ3_checkIndex_8e157_17 rfl rfl
set_option maxRecDepth 100000 in
set_option maxHeartbeats 4000000 in
theorem evJ0_checkIndex {G : jj_G} {h : List jj_C} {j n : Nat} (hj : j < n) (hn : n < 2 ^ 31) : jj_Ev G mJ0_checkIndex 1 [.int (nI j), .int (nI n)] (h) 0 0 (none) (h) := by
  refine jj_Ev_of (lo := [some (.int (nI j)), some (.int (nI n))]) (by decide +kernel) (Nat.le_of_ble_eq_true rfl) rfl (by trivial) ?_
  refine jj_iload_n dJ0_checkIndex_df160_0 rfl ?_
  refine jj_iload_n dJ0_checkIndex_df160_1 rfl ?_
  refine js_fmt dJ0_checkIndex_df160_2 fsJ0_1053 ?_ ?_
  · skip
    refine jj_callS (M2 := mJ3_checkIndex) dJ0_checkIndex_df160_5 mlJ0_1059 tmJ3_checkIndex (evJ3_checkIndex_a hj hn) rfl rfl (by omega) (Nat.le_of_ble_eq_true rfl) ?_
    refine jj_pop dJ0_checkIndex_df160_8 rfl ?_
    exact jj_leaf dJ0_checkIndex_df160_9 rfl rfl
  · skip
    refine jj_callS (M2 := mJ3_checkIndex) dJ0_checkIndex_df160_5 mlJ0_1059 tmJ3_checkIndex (evJ3_checkIndex_b hj hn) rfl rfl (by omega) (Nat.le_of_ble_eq_true rfl) ?_
    refine jj_pop dJ0_checkIndex_df160_8 rfl ?_
    exact jj_leaf dJ0_checkIndex_df160_9 rfl rfl
set_option maxRecDepth 100000 in
set_option maxHeartbeats 4000000 in
theorem evJ1_charAt {G : jj_G} {h : List jj_C} {i j : Nat} (hi : i < 8) (hj : j < jj_tl.getD i 0) : jj_Ev G mJ1_charAt 2 [.ref (1000010 + i), .int (nI j)] (h) 0 0 (some (.int (js_c i j))) (h) := by
  refine jj_Ev_of (lo := [some (.ref (1000010 + i)), some (.int (nI j))]) (by decide +kernel) (Nat.le_of_ble_eq_true rfl) rfl (js_c1 i hi j hj).2 ?_
  refine jj_iload_n dJ1_charAt_3b067_0 rfl ?_
  refine jj_aload_n dJ1_charAt_3b067_1 rfl ?_
  refine js_len dJ1_charAt_3b067_2 hi ?_
  refine jj_callS (M2 := mJ0_checkIndex) dJ1_charAt_3b067_3 mlJ1_9 tmJ0_checkIndex (evJ0_checkIndex hj (by have := js_ll i hi; omega)) rfl rfl (by omega) (Nat.le_of_ble_eq_true rfl) ?_
  refine jj_aload_n dJ1_charAt_3b067_6 rfl ?_
  refine jj_iload_n dJ1_charAt_3b067_7 rfl ?_
  refine js_bld dJ1_charAt_3b067_8 hi hj ?_
  refine jj_sipush (v := 255) dJ1_charAt_3b067_9 (by decide) ?_
  refine jj_iand dJ1_charAt_3b067_12 rfl ?_
  refine jj_i2c dJ1_charAt_3b067_13 (js_c1 i hi j hj).1 ?_
  exact jj_leaf dJ1_charAt_3b067_14 rfl rfl
set_option maxRecDepth 100000 in
set_option maxHeartbeats 4000000 in
theorem evJ0_charAt {G : jj_G} {h : List jj_C} {i j : Nat} (hi : i < 8) (hj : j < jj_tl.getD i 0) : jj_Ev G mJ0_charAt 4 [.ref (1000002 + i), .int (nI j)] (h) 0 0 (some (.int (js_c i j))) (h) := by
  refine jj_Ev_of (lo := [some (.ref (1000002 + i)), some (.int (nI j))]) (by decide +kernel) (Nat.le_of_ble_eq_true rfl) rfl (js_c1 i hi j hj).2 ?_
  refine jj_aload_n dJ0_charAt_5068e_0 rfl ?_
  refine js_call (M2 := mJ0_isLatin1) hi dJ0_charAt_5068e_1 mlJ0_492 tmJ0_isLatin1 (evJ0_isLatin1 hi) rfl rfl rfl (by decide) (Nat.le_of_ble_eq_true rfl) ?_
  refine jj_if_eq (tgt := 16) dJ0_charAt_5068e_4 (by decide) (fun zz => absurd zz (by decide)) (fun _ => ?_)
  refine jj_aload_n dJ0_charAt_5068e_7 rfl ?_
  refine js_val dJ0_charAt_5068e_8 hi fsJ0_9 ?_
  refine jj_iload_n dJ0_charAt_5068e_11 rfl ?_
  refine jj_callS (M2 := mJ1_charAt) dJ0_charAt_5068e_12 mlJ0_495 tmJ1_charAt (evJ1_charAt hi hj) rfl rfl (by omega) (Nat.le_of_ble_eq_true rfl) ?_
  exact jj_leaf dJ0_charAt_5068e_15 rfl rfl
