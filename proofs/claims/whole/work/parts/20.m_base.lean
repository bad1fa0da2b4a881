abbrev fI : Type := Nat → Int32
abbrev fJ : Type := Nat → Int64
/-! bits -/
theorem rt_bit : ∀ m : Fin 64, ∀ b : Fin 6, decide (((nI m >>> (nI b &&& 31)) &&& (1 : Int32)) = 1) = (m : Nat).testBit b := by decide +kernel
theorem rt_bit' {m b : Nat} (hm : m < 64) (hb : b < 6) : ((nI m >>> (nI b &&& 31)) &&& (1 : Int32)) = 1 ↔ m.testBit b = true := by
  have h := rt_bit ⟨m, hm⟩ ⟨b, hb⟩
  simp only at h
  rw [← h]
  exact decide_eq_true_iff.symm
theorem rt_one : ∀ a : Fin 6, (1 : Int32) <<< (nI a &&& 31) = nI (2 ^ (a : Nat)) := by decide +kernel
theorem rt_one' {a : Nat} (h : a < 6) : (1 : Int32) <<< (nI a &&& 31) = nI (2 ^ a) := rt_one ⟨a, h⟩
theorem rt_tb (n : Nat) : (nI n).toBitVec = BitVec.ofNat 32 n := rfl
theorem rt_inj {a b : Int32} (h : a.toBitVec = b.toBitVec) : a = b := Int32.toBitVec_inj.mp h
theorem rt_and (a b : Nat) : nI a &&& nI b = nI (a &&& b) := by
  apply rt_inj
  rw [Int32.toBitVec_and, rt_tb, rt_tb, rt_tb, BitVec.ofNat_and]
theorem rt_or (a b : Nat) : nI a ||| nI b = nI (a ||| b) := by
  apply rt_inj
  rw [Int32.toBitVec_or, rt_tb, rt_tb, rt_tb, BitVec.ofNat_or]
theorem rt_xor (a b : Nat) : nI a ^^^ nI b = nI (a ^^^ b) := by
  apply rt_inj
  rw [Int32.toBitVec_xor, rt_tb, rt_tb, rt_tb, BitVec.ofNat_xor]
theorem rt_tbL (n : Nat) : (lN n).toBitVec = BitVec.ofNat 64 n := rfl
theorem rt_injL {a b : Int64} (h : a.toBitVec = b.toBitVec) : a = b := Int64.toBitVec_inj.mp h
theorem rt_orL (a b : Nat) : lN a ||| lN b = lN (a ||| b) := by
  apply rt_injL
  rw [Int64.toBitVec_or, rt_tbL, rt_tbL, rt_tbL, BitVec.ofNat_or]
theorem rt_andL (a b : Nat) : lN a &&& lN b = lN (a &&& b) := by
  apply rt_injL
  rw [Int64.toBitVec_and, rt_tbL, rt_tbL, rt_tbL, BitVec.ofNat_and]
theorem rt_shc : ∀ n : Fin 64, ((nI n).toInt64 &&& 63).toBitVec.smod 64 = BitVec.ofNat 64 n := by decide +kernel
theorem rt_toI {d : Nat} (h : d < 2 ^ 63) : (BitVec.ofNat 64 d).toInt = (d : Int) := by
  rw [BitVec.toInt_eq_toNat_of_lt] <;> simp <;> omega
theorem rt_shrL {v s : Nat} (hv : v < 2 ^ 63) (hs : s < 64) : lN v >>> ((nI s).toInt64 &&& 63) = lN (v / 2 ^ s) := by
  apply rt_injL
  have h := rt_shc ⟨s, hs⟩
  simp only at h
  rw [Int64.toBitVec_shiftRight, h, rt_tbL, rt_tbL]
  apply BitVec.eq_of_toInt_eq
  have e1 : (BitVec.ofNat 64 s).toNat = s := by simp; omega
  have hd : v / 2 ^ s ≤ v := Nat.div_le_self _ _
  rw [BitVec.sshiftRight_eq', BitVec.toInt_sshiftRight, e1, rt_toI hv, rt_toI (Nat.lt_of_le_of_lt hd hv), Int.shiftRight_eq_div_pow]
  norm_cast
theorem rt_shlL {v s : Nat} (hs : s < 64) : lN v <<< ((nI s).toInt64 &&& 63) = lN (v * 2 ^ s) := by
  apply rt_injL
  have h := rt_shc ⟨s, hs⟩
  simp only at h
  rw [Int64.toBitVec_shiftLeft, h, rt_tbL, rt_tbL]
  apply BitVec.eq_of_toNat_eq
  have e1 : (BitVec.ofNat 64 s).toNat = s := by simp; omega
  rw [BitVec.shiftLeft_eq', BitVec.toNat_shiftLeft, e1, BitVec.toNat_ofNat, BitVec.toNat_ofNat, Nat.shiftLeft_eq, Nat.mod_mul_mod]
theorem rt_shci : ∀ n : Fin 32, ((nI n &&& 31).toBitVec.smod 32).toNat = n := by decide +kernel
theorem rt_shr {v s : Nat} (hv : v < 2 ^ 31) (hs : s < 32) : nI v >>> (nI s &&& 31) = nI (v / 2 ^ s) := pk_shrN hv _ s (rt_shci ⟨s, hs⟩)
theorem rt_par (v : Nat) : nI v &&& (1 : Int32) = nI (v % 2) := by
  have h := rt_and v 1
  rw [show (1 : Int32) = nI 1 from rfl, h, Nat.and_one_is_mod]
theorem rt_parL (v : Nat) : lN v &&& (1 : Int64) = lN (v % 2) := by
  have h := rt_andL v 1
  rw [show (1 : Int64) = lN 1 from rfl, h, Nat.and_one_is_mod]
theorem rt_tbm (v i : Nat) : v.testBit i = decide (v / 2 ^ i % 2 = 1) := Nat.testBit_eq_decide_div_mod_eq
theorem rt_lcmp (x y : Int64) : lg_cmp x y = 0 ↔ x = y := by
  unfold lg_cmp
  by_cases h1 : x > y
  · simp only [h1, if_true]
    constructor
    · intro h; exact absurd h (by decide)
    · intro h; subst h; exact absurd h1 (by simp)
  · by_cases h2 : x = y
    · simp [h2]
    · simp only [h1, h2, if_false, iff_false]; decide
/-- the bit of a long, as the class asks for it -/
theorem rt_lbit {v t : Nat} (hv : v < 2 ^ 63) (ht : t < 64) : lg_cmp ((lN v >>> ((nI t).toInt64 &&& 63)) &&& (1 : Int64)) (1 : Int64) = 0 ↔ v.testBit t = true := by
  rw [rt_lcmp, rt_shrL hv ht, rt_parL, show (1 : Int64) = lN 1 from rfl, lN_eq (by omega) (by decide), rt_tbm]
  simp
theorem rt_nIz {n : Nat} (h : n < 2 ^ 31) : nI n = 0 ↔ n = 0 := nI_eq (b := 0) h (by decide)
theorem rt_nIeq {a b : Nat} (ha : a < 2 ^ 31) (hb : b < 2 ^ 31) (h : a ≠ b) : ¬ nI a = nI b := fun e => h ((nI_eq ha hb).mp e)
/-! a set out of a predicate -/
def mks (f : Nat → Bool) : Nat → Nat
  | 0 => 0
  | n + 1 => mks f n ||| (if f n then 2 ^ n else 0)
theorem mks_bit (f : Nat → Bool) : ∀ n i, (mks f n).testBit i = (decide (i < n) && f i)
  | 0, i => by simp [mks]
  | n + 1, i => by
    rw [mks, Nat.testBit_or, mks_bit f n i]
    by_cases h : i = n
    · subst h
      by_cases hf : f i = true <;> simp [hf, Nat.testBit_two_pow_self]
    · have h2 : (if f n then 2 ^ n else 0 : Nat).testBit i = false := by
        by_cases hf : f n = true
        · simp only [hf, if_true]
          exact Nat.testBit_two_pow_of_ne (Ne.symm h)
        · simp [hf]
      rw [h2, Bool.or_false]
      by_cases h3 : i < n
      · simp [h3, show i < n + 1 by omega]
      · simp [h3, show ¬ i < n + 1 by omega]
theorem mks_lt (f : Nat → Bool) : ∀ n, mks f n < 2 ^ n
  | 0 => by simp [mks]
  | n + 1 => by
    have h := mks_lt f n
    have h2 : (2 : Nat) ^ n < 2 ^ (n + 1) := Nat.pow_lt_pow_right (by omega) (by omega)
    rw [mks]
    apply Nat.or_lt_two_pow
    · omega
    · by_cases hf : f n = true <;> simp [hf] <;> omega
/-! loops -/
theorem rt_up {S : Type} (P : Int32 → S → Prop) (N : Nat) (inv : Nat → S → Prop) (hx : ∀ s, inv N s → P (nI N) s) (hs : ∀ i s, i < N → inv i s → (∀ s', inv (i + 1) s' → P (nI (i + 1)) s') → P (nI i) s) : ∀ (d i : Nat) (s : S), i + d = N → inv i s → P (nI i) s := by
  intro d
  induction d with
  | zero => intro i s h1 h2; subst h1; exact hx s h2
  | succ d ih => intro i s h1 h2; exact hs i s (by omega) h2 (fun s' h3 => ih (i + 1) s' (by omega) h3)
theorem rt_inc (i : Nat) : nI i + (1 : Int32) = nI (i + 1) := nI_1 i
theorem rt_cl {i : Nat} (h : i < 2 ^ 31) : (nI i).toNatClampNeg = i := nI_clamp h
