/-! walks, blocks, lengths: mathematics alone -/
def WK (k : Nat) (w : Nat → Nat) : Nat → Nat → Nat → Prop
  | 0 => fun a b => a = b
  | t + 1 => fun a b => ∃ c, c < k ∧ (w a).testBit c = true ∧ WK k w t c b
theorem lb_iff {k : Nat} {w : Nat → Nat} (hw : ∀ a, a < k → w a < 2 ^ k) {b : Nat} (hb : b < k) : ∀ (t : Nat) {a : Nat}, a < k → ((lb k w b t).testBit a = true ↔ WK k w t a b)
  | 0, a, ha => by
    show (2 ^ b).testBit a = true ↔ a = b
    rw [Nat.testBit_two_pow]
    simp [eq_comm]
  | t + 1, a, ha => by
    rw [lb, mks_bit]
    simp only [ha, decide_true, Bool.true_and, decide_eq_true_eq]
    constructor
    · intro h
      obtain ⟨c, hc⟩ := ne0_bit h
      rw [Nat.testBit_and, Bool.and_eq_true] at hc
      have hck := tb_lt (hw a ha) hc.1
      exact ⟨c, hck, hc.1, (lb_iff hw hb t hck).mp hc.2⟩
    · intro h
      obtain ⟨c, hck, h1, h2⟩ := h
      apply bit_ne0 (i := c)
      rw [Nat.testBit_and, h1, (lb_iff hw hb t hck).mpr h2]
      rfl
theorem WK_app {k : Nat} {w : Nat → Nat} : ∀ (s t : Nat) {a b c : Nat}, WK k w s a b → WK k w t b c → WK k w (s + t) a c
  | 0, t, a, b, c, h1, h2 => by
    have h1 : a = b := h1
    subst h1
    rw [Nat.zero_add]; exact h2
  | s + 1, t, a, b, c, h1, h2 => by
    obtain ⟨d, hd, h3, h4⟩ := h1
    rw [show s + 1 + t = (s + t) + 1 by omega]
    exact ⟨d, hd, h3, WK_app s t h4 h2⟩
theorem WK_one {k : Nat} {w : Nat → Nat} {a b : Nat} (hb : b < k) (h : (w a).testBit b = true) : WK k w 1 a b := ⟨b, hb, h, rfl⟩
theorem WK_end {k : Nat} {w : Nat → Nat} : ∀ (t : Nat) {a b : Nat}, a < k → WK k w (t + 1) a b → ∃ c, c < k ∧ WK k w t a c ∧ (w c).testBit b = true
  | 0, a, b, ha, h => by
    obtain ⟨c, hc, h1, h2⟩ := h
    have h2 : c = b := h2
    subst h2
    exact ⟨a, ha, rfl, h1⟩
  | t + 1, a, b, ha, h => by
    obtain ⟨c, hc, h1, h2⟩ := h
    obtain ⟨d, hd, h3, h4⟩ := WK_end t hc h2
    exact ⟨d, hd, ⟨c, hc, h1, h3⟩, h4⟩
theorem orr_bit (f : Nat → Nat) (S i : Nat) : ∀ n, ((orr f S n).testBit i = true ↔ S.testBit i = true ∨ ∃ b, b < n ∧ (f b).testBit i = true)
  | 0 => by
    show S.testBit i = true ↔ _
    constructor
    · intro h; exact Or.inl h
    · intro h
      rcases h with h | ⟨b, hb, -⟩
      · exact h
      · omega
  | n + 1 => by
    rw [orr, Nat.testBit_or, Bool.or_eq_true, orr_bit f S i n]
    constructor
    · intro h
      rcases h with (h | ⟨b, hb, h⟩) | h
      · exact Or.inl h
      · exact Or.inr ⟨b, by omega, h⟩
      · exact Or.inr ⟨n, by omega, h⟩
    · intro h
      rcases h with h | ⟨b, hb, h⟩
      · exact Or.inl (Or.inl h)
      · by_cases q : b = n
        · subst q; exact Or.inr h
        · exact Or.inl (Or.inr ⟨b, by omega, h⟩)
theorem rch_step {k : Nat} {w : Nat → Nat} (a j i : Nat) : (rch k w a (j + 1)).testBit i = true ↔ (rch k w a j).testBit i = true ∨ ∃ c, c < k ∧ (rch k w a j).testBit c = true ∧ (w c).testBit i = true := by
  rw [rch, orr_bit]
  constructor
  · intro h
    rcases h with h | ⟨c, hc, h⟩
    · exact Or.inl h
    · by_cases q : (rch k w a j).testBit c = true
      · rw [if_pos q] at h
        exact Or.inr ⟨c, hc, q, h⟩
      · rw [if_neg q, Nat.zero_testBit] at h
        cases h
  · intro h
    rcases h with h | ⟨c, hc, h1, h2⟩
    · exact Or.inl h
    · exact Or.inr ⟨c, hc, by rw [if_pos h1]; exact h2⟩
theorem rch_iff {k : Nat} {w : Nat → Nat} {a : Nat} (ha : a < k) : ∀ (j : Nat) {b : Nat}, b < k → ((rch k w a j).testBit b = true ↔ ∃ t, t ≤ j ∧ WK k w t a b)
  | 0, b, hb => by
    show (2 ^ a).testBit b = true ↔ _
    rw [Nat.testBit_two_pow]
    constructor
    · intro h
      have h : a = b := by simpa using h
      exact ⟨0, Nat.le_refl _, h⟩
    · intro h
      obtain ⟨t, ht, h⟩ := h
      have e : t = 0 := by omega
      subst e
      have h : a = b := h
      simpa using h
  | j + 1, b, hb => by
    rw [rch_step]
    constructor
    · intro h
      rcases h with h | ⟨c, hc, h1, h2⟩
      · obtain ⟨t, ht, h⟩ := (rch_iff ha j hb).mp h
        exact ⟨t, by omega, h⟩
      · obtain ⟨t, ht, h⟩ := (rch_iff ha j hc).mp h1
        exact ⟨t + 1, by omega, WK_app t 1 h (WK_one hb h2)⟩
    · intro h
      obtain ⟨t, ht, h⟩ := h
      by_cases q : t ≤ j
      · exact Or.inl ((rch_iff ha j hb).mpr ⟨t, q, h⟩)
      · have e : t = j + 1 := by omega
        subst e
        obtain ⟨c, hc, h1, h2⟩ := WK_end j ha h
        exact Or.inr ⟨c, hc, (rch_iff ha j hc).mpr ⟨j, Nat.le_refl _, h1⟩, h2⟩
def pcn (m : Nat) : Nat := (m.testBit 0).toNat + (m.testBit 1).toNat + (m.testBit 2).toNat + (m.testBit 3).toNat + (m.testBit 4).toNat + (m.testBit 5).toNat
theorem pcn_d1 : ∀ m n : Fin 64, (m : Nat) &&& n = m → m ≠ n → pcn m < pcn n := by decide +kernel
theorem pcn_d2 : ∀ k : Fin 7, ∀ m : Fin 64, (m : Nat) < 2 ^ (k : Nat) → (k : Nat) ≤ pcn m → (m : Nat) = 2 ^ (k : Nat) - 1 := by decide +kernel
theorem pcn_d3 : ∀ a : Fin 6, pcn (2 ^ (a : Nat)) = 1 := by decide +kernel
theorem rch_sub {k : Nat} {w : Nat → Nat} (a j : Nat) : rch k w a j &&& rch k w a (j + 1) = rch k w a j := by
  apply Nat.eq_of_testBit_eq
  intro i
  rw [Nat.testBit_and]
  cases e : (rch k w a j).testBit i with
  | false => rfl
  | true => rw [(rch_step a j i).mpr (Or.inl e)]; rfl
theorem rch_stay {k : Nat} {w : Nat → Nat} {a i : Nat} (h : rch k w a (i + 1) = rch k w a i) : ∀ m, rch k w a (i + m) = rch k w a i
  | 0 => rfl
  | m + 1 => by
    have ih := rch_stay h m
    rw [show i + (m + 1) = (i + m) + 1 by omega, rch, ih]
    exact h
theorem rch_grow {k : Nat} {w : Nat → Nat} (hk6 : k ≤ 6) (hw : ∀ a, a < k → w a < 2 ^ k) {a : Nat} (ha : a < k) : ∀ j, (∃ i, i ≤ j ∧ rch k w a (i + 1) = rch k w a i) ∨ j + 1 ≤ pcn (rch k w a j)
  | 0 => Or.inr (by show 0 + 1 ≤ pcn (2 ^ a); rw [pcn_d3 ⟨a, by omega⟩]; exact Nat.le_refl _)
  | j + 1 => by
    rcases rch_grow hk6 hw ha j with ⟨i, hi, h⟩ | h
    · exact Or.inl ⟨i, by omega, h⟩
    · by_cases q : rch k w a (j + 1) = rch k w a j
      · exact Or.inl ⟨j, by omega, q⟩
      · have h1 := pcn_d1 ⟨rch k w a j, p64 hk6 (rch_lt hw ha j)⟩ ⟨rch k w a (j + 1), p64 hk6 (rch_lt hw ha (j + 1))⟩ (rch_sub a j) (fun z => q (congrArg Fin.val z).symm)
        right
        simp only at h1
        omega
theorem rch_full {k : Nat} {w : Nat → Nat} (hk1 : 1 ≤ k) (hk6 : k ≤ 6) (hw : ∀ a, a < k → w a < 2 ^ k) {a : Nat} (ha : a < k) : ∀ m, k - 1 ≤ m → rch k w a m = rch k w a (k - 1) := by
  have key : ∃ i, i ≤ k - 1 ∧ rch k w a (i + 1) = rch k w a i := by
    rcases rch_grow hk6 hw ha (k - 1) with h | h
    · exact h
    · refine ⟨k - 1, Nat.le_refl _, ?_⟩
      have h1 := pcn_d2 ⟨k, by omega⟩ ⟨rch k w a (k - 1), p64 hk6 (rch_lt hw ha _)⟩ (rch_lt hw ha _) (by simp only; omega)
      have h2 : rch k w a (k - 1) = 2 ^ k - 1 := h1
      have h3 := rch_sub (k := k) (w := w) a (k - 1)
      apply Nat.eq_of_testBit_eq
      intro i
      cases e : (rch k w a (k - 1)).testBit i with
      | true => exact (rch_step a (k - 1) i).mpr (Or.inl e)
      | false =>
        rw [h2, Nat.testBit_two_pow_sub_one] at e
        have e : ¬ i < k := by simpa using e
        exact Nat.testBit_lt_two_pow (Nat.lt_of_lt_of_le (rch_lt hw ha _) (Nat.pow_le_pow_right (by omega) (by omega)))
  obtain ⟨i, hi, h⟩ := key
  intro m hm
  have h1 := rch_stay h (m - i)
  have h2 := rch_stay h (k - 1 - i)
  rw [show i + (m - i) = m by omega] at h1
  rw [show i + (k - 1 - i) = k - 1 by omega] at h2
  rw [h1, h2]
theorem rch_all {k : Nat} {w : Nat → Nat} (hk1 : 1 ≤ k) (hk6 : k ≤ 6) (hw : ∀ a, a < k → w a < 2 ^ k) {a b : Nat} (ha : a < k) (hb : b < k) : (rch k w a (k - 1)).testBit b = true ↔ ∃ t, WK k w t a b := by
  constructor
  · intro h
    obtain ⟨t, -, h⟩ := (rch_iff ha (k - 1) hb).mp h
    exact ⟨t, h⟩
  · intro h
    obtain ⟨t, h⟩ := h
    by_cases q : t ≤ k - 1
    · exact (rch_iff ha (k - 1) hb).mpr ⟨t, q, h⟩
    · have h1 := (rch_iff ha t hb).mpr ⟨t, Nat.le_refl _, h⟩
      rw [rch_full hk1 hk6 hw ha t (by omega)] at h1
      exact h1
theorem WK_six {k : Nat} {w : Nat → Nat} (hk1 : 1 ≤ k) (hk6 : k ≤ 6) (hw : ∀ a, a < k → w a < 2 ^ k) {a b : Nat} (ha : a < k) (hb : b < k) : (∃ t, t < 6 ∧ WK k w t a b) ↔ (rch k w a (k - 1)).testBit b = true := by
  constructor
  · intro h
    obtain ⟨t, -, h⟩ := h
    exact (rch_all hk1 hk6 hw ha hb).mpr ⟨t, h⟩
  · intro h
    obtain ⟨t, ht, h⟩ := (rch_iff ha (k - 1) hb).mp h
    exact ⟨t, by omega, h⟩
theorem ob_iff {k : Nat} {w : Nat → Nat} (hk1 : 1 ≤ k) (hk6 : k ≤ 6) (hw : ∀ a, a < k → w a < 2 ^ k) {a b : Nat} (ha : a < k) (hb : b < k) : ob k w a b = true ↔ (∃ t, WK k w t a b) ∧ ∃ t, WK k w t b a := by
  rw [ob, Bool.and_eq_true, rch_all hk1 hk6 hw ha hb, rch_all hk1 hk6 hw hb ha]
theorem ob_rf {k : Nat} {w : Nat → Nat} (hk1 : 1 ≤ k) (hk6 : k ≤ 6) (hw : ∀ a, a < k → w a < 2 ^ k) {a : Nat} (ha : a < k) : ob k w a a = true := (ob_iff hk1 hk6 hw ha ha).mpr ⟨⟨0, rfl⟩, 0, rfl⟩
theorem ob_sy {k : Nat} {w : Nat → Nat} (a b : Nat) : ob k w a b = ob k w b a := by rw [ob, ob, Bool.and_comm]
theorem ob_tr {k : Nat} {w : Nat → Nat} (hk1 : 1 ≤ k) (hk6 : k ≤ 6) (hw : ∀ a, a < k → w a < 2 ^ k) {a b c : Nat} (ha : a < k) (hb : b < k) (hc : c < k) (h1 : ob k w a b = true) (h2 : ob k w b c = true) : ob k w a c = true := by
  obtain ⟨⟨s, hs⟩, s', hs'⟩ := (ob_iff hk1 hk6 hw ha hb).mp h1
  obtain ⟨⟨t, ht⟩, t', ht'⟩ := (ob_iff hk1 hk6 hw hb hc).mp h2
  exact (ob_iff hk1 hk6 hw ha hc).mpr ⟨⟨s + t, WK_app s t hs ht⟩, t' + s', WK_app t' s' ht' hs'⟩
theorem lobf_ok {k : Nat} {w : Nat → Nat} {a : Nat} (hr : ob k w a a = true) : ∀ d, d ≤ a → ob k w a (lobf k w a d) = true ∧ ∀ b, a - d ≤ b → b < lobf k w a d → ob k w a b = false
  | 0, _ => ⟨hr, fun b h1 h2 => by have h2 : b < a := h2; omega⟩
  | d + 1, h => by
    have ih := lobf_ok hr d (by omega)
    rw [lobf]
    by_cases q : ob k w a (a - (d + 1)) = true
    · rw [if_pos q]
      exact ⟨q, fun b h1 h2 => by omega⟩
    · rw [if_neg q]
      refine ⟨ih.1, fun b h1 h2 => ?_⟩
      by_cases q2 : b = a - (d + 1)
      · subst q2; simpa using q
      · exact ih.2 b (by omega) h2
theorem lob_le (k : Nat) (w : Nat → Nat) (a : Nat) : lob k w a ≤ a := lobf_le k w a a
theorem lob_eq {k : Nat} {w : Nat → Nat} (hk1 : 1 ≤ k) (hk6 : k ≤ 6) (hw : ∀ a, a < k → w a < 2 ^ k) {a b : Nat} (ha : a < k) (hb : b < k) : lob k w a = lob k w b ↔ ob k w a b = true := by
  have h1 := lobf_ok (ob_rf hk1 hk6 hw ha) a (Nat.le_refl _)
  have h2 := lobf_ok (ob_rf hk1 hk6 hw hb) b (Nat.le_refl _)
  have l1 := lob_le k w a
  have l2 := lob_le k w b
  have h1a : ob k w a (lob k w a) = true := h1.1
  have h2a : ob k w b (lob k w b) = true := h2.1
  constructor
  · intro e
    rw [← e, ob_sy] at h2a
    exact ob_tr hk1 hk6 hw ha (by omega) hb h1a h2a
  · intro h
    have h3 : ob k w a (lob k w b) = true := ob_tr hk1 hk6 hw ha hb (by omega) h h2a
    have h4 : ob k w b (lob k w a) = true := ob_tr hk1 hk6 hw hb ha (by omega) (by rw [ob_sy]; exact h) h1a
    have h5 : ¬ lob k w b < lob k w a := fun z => by
      have := h1.2 (lob k w b) (by omega) z
      rw [h3] at this; cases this
    have h6 : ¬ lob k w a < lob k w b := fun z => by
      have := h2.2 (lob k w a) (by omega) z
      rw [h4] at this; cases this
    omega
/-! lengths of walks back -/
def gcf (f : Nat → Bool) : Nat → Nat
  | 0 => 0
  | t + 1 => if t ≠ 0 ∧ f t = true then Nat.gcd t (gcf f t) else gcf f t
theorem gcf_dvd (f : Nat → Bool) : ∀ (n t : Nat), t < n → t ≠ 0 → f t = true → gcf f n ∣ t
  | 0, t, h, _, _ => by omega
  | n + 1, t, h, h0, hf => by
    rw [gcf]
    by_cases q : t = n
    · subst q
      rw [if_pos ⟨h0, hf⟩]
      exact Nat.gcd_dvd_left _ _
    · have ih := gcf_dvd f n t (by omega) h0 hf
      by_cases q2 : n ≠ 0 ∧ f n = true
      · rw [if_pos q2]
        exact Nat.dvd_trans (Nat.gcd_dvd_right _ _) ih
      · rw [if_neg q2]; exact ih
theorem gcf_of (f : Nat → Bool) (p : Nat) : ∀ (n : Nat), (∀ t, t < n → t ≠ 0 → f t = true → p ∣ t) → p ∣ gcf f n
  | 0, _ => Nat.dvd_zero _
  | n + 1, h => by
    have ih := gcf_of f p n (fun t ht => h t (by omega))
    rw [gcf]
    by_cases q : n ≠ 0 ∧ f n = true
    · rw [if_pos q]
      exact Nat.dvd_gcd (h n (by omega) q.1 q.2) ih
    · rw [if_neg q]; exact ih
theorem gcf_zero (f : Nat → Bool) (n : Nat) : gcf f n = 0 ↔ ∀ t, t < n → t ≠ 0 → f t = false := by
  constructor
  · intro h t ht h0
    cases e : f t with
    | false => rfl
    | true =>
      have := gcf_dvd f n t ht h0 e
      rw [h] at this
      exact absurd (Nat.eq_zero_of_zero_dvd this) h0
  · intro h
    have : 0 ∣ gcf f n := gcf_of f 0 n (fun t ht h0 hf => by rw [h t ht h0] at hf; cases hf)
    exact Nat.eq_zero_of_zero_dvd this
theorem WK_short {k : Nat} {w : Nat → Nat} (hk1 : 1 ≤ k) (hk6 : k ≤ 6) (hw : ∀ a, a < k → w a < 2 ^ k) {a t : Nat} (ha : a < k) (h : WK k w (t + 1) a a) : ∃ s, s < k ∧ WK k w (s + 1) a a := by
  obtain ⟨c, hc, h1, h2⟩ := h
  have h3 := (rch_all hk1 hk6 hw hc ha).mpr ⟨t, h2⟩
  obtain ⟨s, hs, h4⟩ := (rch_iff hc (k - 1) ha).mp h3
  exact ⟨s, by omega, c, hc, h1, h4⟩
/-- whether a label is come back to in t steps -/
def rl (k : Nat) (w : Nat → Nat) (a t : Nat) : Bool := (lb k w a t).testBit a
def pace (k : Nat) (w : Nat → Nat) (a : Nat) : Nat := gcf (rl k w a) 61
theorem pace_le {k : Nat} {w : Nat → Nat} (hk1 : 1 ≤ k) (hk6 : k ≤ 6) (hw : ∀ a, a < k → w a < 2 ^ k) {a : Nat} (ha : a < k) (h : pace k w a ≠ 0) : pace k w a ≤ k := by
  have h1 : ¬ ∀ t, t < 61 → t ≠ 0 → rl k w a t = false := fun z => h ((gcf_zero _ _).mpr z)
  have h2 : ∃ t, t < 61 ∧ t ≠ 0 ∧ rl k w a t = true := by
    rcases Classical.em (∃ t, t < 61 ∧ t ≠ 0 ∧ rl k w a t = true) with q | q
    · exact q
    · exfalso
      apply h1
      intro t ht h0
      cases e : rl k w a t with
      | false => rfl
      | true => exact absurd ⟨t, ht, h0, e⟩ q
  obtain ⟨t, ht, h0, h3⟩ := h2
  obtain ⟨t', rfl⟩ : ∃ t', t = t' + 1 := ⟨t - 1, by omega⟩
  obtain ⟨s, hs, h4⟩ := WK_short hk1 hk6 hw ha ((lb_iff hw ha (t' + 1) ha).mp h3)
  have h5 := gcf_dvd (rl k w a) 61 (s + 1) (by omega) (by omega) ((lb_iff hw ha (s + 1) ha).mpr h4)
  have h6 := Nat.le_of_dvd (by omega) h5
  show gcf (rl k w a) 61 ≤ k
  omega
theorem rl_one {k : Nat} {w : Nat → Nat} (hw : ∀ a, a < k → w a < 2 ^ k) {a : Nat} (ha : a < k) : rl k w a 1 = (w a).testBit a := by
  rw [Bool.eq_iff_iff]
  show (lb k w a 1).testBit a = true ↔ _
  rw [lb_iff hw ha 1 ha]
  constructor
  · intro h
    obtain ⟨c, hc, h1, h2⟩ := h
    have h2 : c = a := h2
    subst h2
    exact h1
  · intro h
    exact ⟨a, ha, h, rfl⟩
/-- the end of the gaps: the least e so that all of e .. n - 1 hold -/
def eog (f : Nat → Bool) : Nat → Nat
  | 0 => 0
  | t + 1 => if f t then eog f t else t + 1
def exk (f : Nat → Bool) : Nat → Bool
  | 0 => false
  | n + 1 => exk f n || f n
theorem exk_iff (f : Nat → Bool) : ∀ n, exk f n = true ↔ ∃ a, a < n ∧ f a = true
  | 0 => by simp [exk]
  | n + 1 => by
    rw [exk, Bool.or_eq_true, exk_iff f n]
    constructor
    · intro h
      rcases h with ⟨a, ha, h⟩ | h
      · exact ⟨a, by omega, h⟩
      · exact ⟨n, by omega, h⟩
    · intro h
      obtain ⟨a, ha, h⟩ := h
      by_cases q : a = n
      · subst q; exact Or.inr h
      · exact Or.inl ⟨a, by omega, h⟩
