/-! bits and numbers (begun from kit/laws), loops, leaves -/
def bt (x : Int32) (i : Nat) : Bool := x.toBitVec.getLsbD i
theorem b_ext {x y : Int32} (h : ∀ i, i < 32 → bt x i = bt y i) : x = y := Int32.toBitVec_inj.mp (BitVec.eq_of_getLsbD_eq (fun i hi => h i hi))
theorem b_or (x y : Int32) (i : Nat) : bt (x ||| y) i = (bt x i || bt y i) := by unfold bt; rw [Int32.toBitVec_or, BitVec.getLsbD_or]
theorem b_and (x y : Int32) (i : Nat) : bt (x &&& y) i = (bt x i && bt y i) := by unfold bt; rw [Int32.toBitVec_and, BitVec.getLsbD_and]
theorem b_xor (x y : Int32) (i : Nat) : bt (x ^^^ y) i = (bt x i ^^ bt y i) := by unfold bt; rw [Int32.toBitVec_xor, BitVec.getLsbD_xor]
theorem b_big {x : Int32} {i : Nat} (h : 32 ≤ i) : bt x i = false := BitVec.getLsbD_of_ge _ _ h
theorem b_m1 : ∀ i, i < 32 → bt (-1) i = true := by decide +kernel
theorem b_0 (i : Nat) : bt 0 i = false := BitVec.getLsbD_zero
theorem s_l : ∀ n, n < 32 → ((nI n &&& 31).toBitVec.smod 32).toNat = n := by decide +kernel
theorem s_u : ∀ n, n < 32 → (((nI n).toUInt32 &&& Int32.toUInt32 31).toBitVec % 32).toNat = n := by decide +kernel
theorem b_shl (n : Nat) (hn : n < 32) (x : Int32) {i : Nat} (hi : i < 32) : bt (x <<< (nI n &&& 31)) i = (decide (n ≤ i) && bt x (i - n)) := by
  unfold bt
  rw [Int32.toBitVec_shiftLeft]
  show (x.toBitVec <<< ((nI n &&& 31).toBitVec.smod 32).toNat).getLsbD i = _
  rw [s_l n hn, BitVec.getLsbD_shiftLeft]
  rcases Nat.lt_or_ge i n with h | h
  · simp [h, Nat.not_le.mpr h]
  · simp [hi, h, Nat.not_lt.mpr h]
theorem b_ushr (n : Nat) (hn : n < 32) (x : Int32) (i : Nat) : bt ((x.toUInt32 >>> ((nI n).toUInt32 &&& Int32.toUInt32 31)).toInt32) i = bt x (n + i) := by
  show (x.toUInt32 >>> ((nI n).toUInt32 &&& Int32.toUInt32 31)).toBitVec.getLsbD i = x.toUInt32.toBitVec.getLsbD (n + i)
  rw [UInt32.toBitVec_shiftRight]
  show (x.toUInt32.toBitVec >>> (((nI n).toUInt32 &&& Int32.toUInt32 31).toBitVec % 32).toNat).getLsbD i = _
  rw [s_u n hn, BitVec.getLsbD_ushiftRight]
theorem b_sshr (n : Nat) (hn : n < 32) (x : Int32) {i : Nat} (hi : i < 32) : bt (x >>> (nI n &&& 31)) i = if n + i < 32 then bt x (n + i) else bt x 31 := by
  unfold bt
  rw [Int32.toBitVec_shiftRight]
  show (x.toBitVec.sshiftRight ((nI n &&& 31).toBitVec.smod 32).toNat).getLsbD i = _
  rw [s_l n hn, BitVec.getLsbD_sshiftRight, BitVec.msb_eq_getLsbD_last]
  simp [hi]
theorem fa_lit (n : Nat) : (OfNat.ofNat n : Int32) = nI n := rfl
theorem fa_litL (n : Nat) : (OfNat.ofNat n : Int64) = lN n := rfl
/-! ===== bits of a number: 'or', masks, one bit ===== -/
theorem fa_and (a b : Nat) : nI a &&& nI b = nI (a &&& b) := by
  apply Int32.toBitVec_inj.1
  show BitVec.ofNat 32 a &&& BitVec.ofNat 32 b = BitVec.ofNat 32 (a &&& b)
  apply BitVec.eq_of_getLsbD_eq
  intro i hi
  simp [hi]
theorem fa_or (a b : Nat) : nI a ||| nI b = nI (a ||| b) := by
  apply Int32.toBitVec_inj.1
  show BitVec.ofNat 32 a ||| BitVec.ofNat 32 b = BitVec.ofNat 32 (a ||| b)
  apply BitVec.eq_of_getLsbD_eq
  intro i hi
  simp [hi]
/-- a remainder by a power of two, as a mask -/
theorem fa_mask (n k : Nat) : nI n &&& nI (2 ^ k - 1) = nI (n % 2 ^ k) := by rw [fa_and, Nat.and_two_pow_sub_one_eq_mod]
/-- 'or' of a high part and a low one that don't meet is their sum -/
theorem fa_or_sum {a k : Nat} (b : Nat) (h : a < 2 ^ k) : nI (2 ^ k * b) ||| nI a = nI (2 ^ k * b + a) := by rw [fa_or, Nat.two_pow_add_eq_or_of_lt h]
/-- one bit, by 'and' with a power of two -/

def jb_b (p : Prop) [Decidable p] : Int32 := if p then 1 else 0
theorem jb_b01 (p : Prop) [Decidable p] : jb_b p = 0 ∨ jb_b p = 1 := by unfold jb_b; split <;> simp
theorem jb_bt {p : Prop} [Decidable p] (h : p) : jb_b p = 1 := if_pos h
theorem jb_bf {p : Prop} [Decidable p] (h : ¬ p) : jb_b p = 0 := if_neg h
theorem jb_b0 {p : Prop} [Decidable p] (h : jb_b p = 0) : ¬ p := fun q => by rw [jb_bt q] at h; exact absurd h (by decide)
theorem jb_b1 {p : Prop} [Decidable p] (h : ¬ jb_b p = 0) : p := Classical.byContradiction fun q => h (jb_bf q)
theorem jb_nb (a i : Nat) (hi : i < 32) : bt (nI a) i = a.testBit i := by
  show (BitVec.ofNat 32 a).getLsbD i = _
  rw [BitVec.getLsbD_ofNat]
  simp [hi]
theorem jb_1 : ∀ i, i < 32 → bt 1 i = decide (i = 0) := by decide +kernel
/-- one bit of a set -/
theorem jb_sh {a k : Nat} (ha : a < 2 ^ 31) (hk : k < 31) : (nI a >>> (nI k &&& 31)) &&& 1 = jb_b (a.testBit k = true) := by
  apply b_ext
  intro i hi
  rw [b_and, b_sshr k (by omega) _ hi, jb_1 i hi]
  by_cases h0 : i = 0
  · subst h0
    rw [if_pos (by omega), jb_nb _ _ (by omega), Nat.add_zero]
    unfold jb_b
    by_cases hb : a.testBit k = true
    · rw [if_pos hb, hb, jb_1 0 (by decide)]
      rfl
    · rw [if_neg hb, b_0]
      simp at hb
      rw [hb]
      rfl
  · rw [decide_eq_false h0, Bool.and_false]
    unfold jb_b
    split
    · rw [jb_1 i hi, decide_eq_false h0]
    · rw [b_0]
theorem jb_2k : ∀ k, k < 31 → (1 : Int32) <<< (nI k &&& 31) = nI (2 ^ k) := by decide +kernel
theorem jb_i (k : Nat) : nI k + Int32.ofInt 1 = nI (k + 1) := (nI_succ k).symm
theorem jb_ge {k n : Nat} (h : k < n) (hn : n < 2 ^ 31) : ¬ (OfNat.ofNat n : Int32) ≤ nI k := nI_ge h hn
theorem jb_ge' {n : Nat} (hn : n < 2 ^ 31) : (OfNat.ofNat n : Int32) ≤ nI n := nI_le (Nat.le_refl n) hn
theorem jb_lt0 {k : Nat} (hk : k < 2 ^ 31) : ¬ nI k < 0 := nI_pos hk
theorem jb_inj {a b : Nat} (ha : a < 2 ^ 31) (hb : b < 2 ^ 31) : nI a = nI b ↔ a = b := by
  constructor
  · intro h
    have := congrArg Int32.toInt h
    rw [nI_toInt ha, nI_toInt hb] at this
    omega
  · intro h; rw [h]
/-- a number within -/
theorem jb_num {x : Int32} {n : Nat} (h : 0 ≤ x) (h2 : x < OfNat.ofNat n) (hn : n < 2 ^ 31) : ∃ k, k < n ∧ x = nI k := by
  refine ⟨x.toNatClampNeg, ?_, ?_⟩
  · have h3 := Int32.lt_iff_toInt_lt.mp h2
    have h4 : (OfNat.ofNat n : Int32).toInt = (n : Int) := nI_toInt hn
    have h5 := Int32.le_iff_toInt_le.mp h
    rw [h4] at h3
    have h6 : (0 : Int32).toInt = 0 := rfl
    rw [h6] at h5
    show x.toInt.toNat < n
    omega
  · have h5 := Int32.le_iff_toInt_le.mp h
    have h6 : (0 : Int32).toInt = 0 := rfl
    rw [h6] at h5
    apply Int32.toInt_inj.mp
    have h3 := Int32.lt_iff_toInt_lt.mp h2
    have h4 : (OfNat.ofNat n : Int32).toInt = (n : Int) := nI_toInt hn
    rw [h4] at h3
    rw [nI_toInt (by show x.toInt.toNat < _; omega)]
    show x.toInt = (x.toInt.toNat : Int)
    omega
/-- an index within, by its number -/
theorem jb_in {k n : Nat} (h : k < n) (hn : n ≤ 2 ^ 31) : vp_in (nI k) n := by
  have hk : k < 2 ^ 31 := Nat.lt_of_lt_of_le h hn
  intro q
  rcases q with q | q
  · exact nI_pos hk q
  · rw [nI_clamp hk] at q
    omega
section JL
variable {G : jj_G} {M : jj_M} {d pc : Nat} {lo : List (Option Value)} {st : List Value} {h : List jj_C} {kc ks : Nat} {r : Option Value} {h' : List jj_C}
theorem jj_leaf (hd : decode (jj_b M) pc = .ok (jj_rI (jj_r M), 1)) (hst : st = r.toList) (hh : h = h') : jj_Go G M d pc lo st h 0 0 r h' := by
  subst hh
  exact jj_ret hd hst
end JL
/-- a loop: from place n back to place k -/
theorem jj_up {S : Nat → Prop} (n : Nat) (step : ∀ k, k < n → S (k + 1) → S k) (fin : S n) : ∀ k, k ≤ n → S k := by
  intro k hk
  obtain ⟨j, rfl⟩ : ∃ j, n = k + j := ⟨n - k, by omega⟩
  clear hk
  have key : ∀ j i, i + j = k + j + 0 → True := fun _ _ _ => trivial
  clear key
  have main : ∀ m, m ≤ j → S (k + j - m) := by
    intro m
    induction m with
    | zero => intro _; exact fin
    | succ m ih =>
      intro hm
      have h1 := ih (by omega)
      refine step _ (by omega) ?_
      rw [show k + j - (m + 1) + 1 = k + j - m by omega]
      exact h1
  have := main j (Nat.le_refl j)
  rwa [show k + j - j = k by omega] at this
