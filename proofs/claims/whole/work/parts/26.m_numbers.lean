def B30 (n : Nat) (num : Nat → Nat) : Prop := ∀ p, p < n → num p < 1073741824
def lik (n : Nat) (num : Nat → Nat) : Nat := ctb (fun p => decide (num p = num ((p + 1) % n))) n
theorem x0_likeNeighbours {n : Nat} {num : Nat → Nat} {pk : Int32} {fN : fI} (hN : PL n num pk fN) (hB : B30 n num) {post : Int32 → Prop} (hp : post (nI (lik n num))) : wp_X0_likeNeighbours pk fN post := by
  obtain ⟨h3, h60, rfl, hl⟩ := hN
  unfold wp_X0_likeNeighbours wp_X0_likeNeighbours_b4
  intro P hP
  refine rt_up (fun i (x : Int32) => P x i) n (fun i x => x = nI (ctb (fun p => decide (num p = num ((p + 1) % n))) i)) ?_ ?_ n 0 _ (by omega) rfl
  · intro x h
    refine hP _ _ (br_t (nI_le (Nat.le_refl _) (by omega)) ?_)
    rw [h]; exact hp
  · intro i x hi h ih
    have hm := mlt (p := i + 1) h3
    refine hP _ _ (br_f (nI_ge hi (by omega)) ⟨vp_in_nI (by omega) (by decide), x0_next hi h60 ⟨vp_in_nI (by omega) (by decide), ?_⟩⟩)
    rw [rt_cl (by omega), rt_cl (by omega), hl i hi, hl _ hm]
    have b1 := hB i hi
    have b2 := hB _ hm
    by_cases q : num i = num ((i + 1) % n)
    · refine ⟨fun z => absurd (by rw [q]) z, fun _ v31 e31 v e => ?_⟩
      rw [e, rt_inc]
      apply ih
      rw [e31, h, rt_inc, ctb]
      simp [q]
    · refine ⟨fun _ v e => ?_, fun z => absurd ((nI_eq (by omega) (by omega)).mp z) q⟩
      rw [e, rt_inc]
      apply ih
      rw [h, ctb]
      simp [q]
def mxs (num : Nat → Nat) : Nat → Nat
  | 0 => 0
  | n + 1 => max (mxs num n) (num n)
theorem mxs_lt {num : Nat → Nat} {c : Nat} (hc : 0 < c) : ∀ n, (∀ p, p < n → num p < c) → mxs num n < c
  | 0, _ => hc
  | n + 1, h => by
    have h1 := mxs_lt hc n (fun p hp => h p (by omega))
    have h2 := h n (by omega)
    rw [mxs]
    omega
theorem mxs_ge {num : Nat → Nat} : ∀ n p, p < n → num p ≤ mxs num n
  | 0, p, h => by omega
  | n + 1, p, h => by
    rw [mxs]
    by_cases q : p = n
    · subst q; omega
    · have := mxs_ge (num := num) n p (by omega)
      omega
theorem x0_greatestNumber {n : Nat} {num : Nat → Nat} {pk : Int32} {fN : fI} (hN : PL n num pk fN) (hB : B30 n num) {post : Int32 → Prop} (hp : post (nI (mxs num n))) : wp_X0_greatestNumber pk fN post := by
  obtain ⟨h3, h60, rfl, hl⟩ := hN
  unfold wp_X0_greatestNumber wp_X0_greatestNumber_b4
  intro P hP
  refine rt_up (fun i (x : Int32) => P x i) n (fun i x => x = nI (mxs num i)) ?_ ?_ n 0 _ (by omega) rfl
  · intro x h
    refine hP _ _ (br_t (nI_le (Nat.le_refl _) (by omega)) ?_)
    rw [h]; exact hp
  · intro i x hi h ih
    refine hP _ _ (br_f (nI_ge hi (by omega)) ⟨vp_in_nI (by omega) (by decide), fun v22 e22 v e => ?_⟩)
    rw [e, rt_inc]
    apply ih
    rw [rt_cl (by omega), hl i hi, h] at e22
    have b1 := hB i hi
    have b2 := mxs_lt (num := num) (c := 1073741824) (by decide) i (fun p hp => hB p (by omega))
    rw [e22, mxs]
    by_cases q : mxs num i < num i
    · rw [if_pos (nI_lt q (by omega)), Nat.max_eq_right (by omega)]
    · rw [if_neg (nI_nlt (by omega) (by omega)), Nat.max_eq_left (by omega)]
/-! the lowest place at which two numbers differ -/
def lwb (u : Nat) : Nat → Nat
  | 0 => 30
  | d + 1 => if u.testBit (30 - (d + 1)) then 30 - (d + 1) else lwb u d
theorem lwb_step {u i : Nat} (hi : i < 30) : lwb u (30 - i) = if u.testBit i then i else lwb u (30 - (i + 1)) := by
  obtain ⟨d, hd⟩ : ∃ d, 30 - i = d + 1 := ⟨30 - i - 1, by omega⟩
  rw [hd, lwb, show 30 - (d + 1) = i by omega, show 30 - (i + 1) = d by omega]
theorem lwb_is {u p : Nat} (hp : p < 30) (hb : u.testBit p = true) (hn : ∀ j, j < p → u.testBit j = false) : lwb u 30 = p := by
  have key : ∀ i, i ≤ p → lwb u 30 = lwb u (30 - i) := by
    intro i
    induction i with
    | zero => intro _; rfl
    | succ i ih =>
      intro h
      rw [ih (by omega), lwb_step (by omega), hn i (by omega)]
      rfl
  rw [key p (Nat.le_refl _), lwb_step hp, hb]
  rfl
theorem low_ex {u : Nat} (h0 : u ≠ 0) {m : Nat} (h : u < 2 ^ m) : ∃ p, p < m ∧ u.testBit p = true ∧ ∀ j, j < p → u.testBit j = false := by
  obtain ⟨i, hi⟩ := ne0_bit h0
  obtain ⟨p, h1, h2⟩ := pk_least (fun j => u.testBit j = true) ⟨i, hi⟩
  exact ⟨p, tb_lt h h1, h1, fun j hj => by simpa using h2 j hj⟩
def ldf (v x : Nat) : Nat := lwb (v ^^^ x) 30
def shS (v x : Nat) : Nat := 2 * ldf v x + v / 2 ^ (ldf v x) % 2
theorem xor_ne {v x : Nat} (h : v ≠ x) : v ^^^ x ≠ 0 := by
  intro z
  apply h
  apply Nat.eq_of_testBit_eq
  intro i
  have := congrArg (fun y => Nat.testBit y i) z
  simp only [Nat.testBit_xor, Nat.zero_testBit] at this
  cases a : v.testBit i <;> cases b : x.testBit i <;> simp [a, b] at this ⊢
theorem ldf_ok {v x m : Nat} (h : v ≠ x) (hm : m ≤ 30) (hv : v < 2 ^ m) (hx : x < 2 ^ m) : ldf v x < m ∧ v.testBit (ldf v x) ≠ x.testBit (ldf v x) ∧ ∀ j, j < ldf v x → v.testBit j = x.testBit j := by
  obtain ⟨p, h1, h2, h3⟩ := low_ex (xor_ne h) (Nat.xor_lt_two_pow hv hx)
  have e : ldf v x = p := lwb_is (by omega) h2 h3
  rw [e]
  refine ⟨h1, ?_, fun j hj => ?_⟩
  · rw [Nat.testBit_xor] at h2
    intro z
    rw [z] at h2
    simp at h2
  · have := h3 j hj
    rw [Nat.testBit_xor] at this
    cases a : v.testBit j <;> cases b : x.testBit j <;> simp [a, b] at this ⊢
theorem shS_lt {v x m : Nat} (h : v ≠ x) (hm : m ≤ 30) (hv : v < 2 ^ m) (hx : x < 2 ^ m) : shS v x < 2 * m := by
  have h1 := (ldf_ok h hm hv hx).1
  unfold shS
  have h2 : v / 2 ^ (ldf v x) % 2 < 2 := Nat.mod_lt _ (by omega)
  omega
theorem shS_ne {v x y : Nat} (h1 : v ≠ x) (h2 : x ≠ y) (hv : v < 2 ^ 30) (hx : x < 2 ^ 30) (hy : y < 2 ^ 30) : shS v x ≠ shS x y := by
  intro e
  unfold shS at e
  have m1 : v / 2 ^ (ldf v x) % 2 < 2 := Nat.mod_lt _ (by omega)
  have m2 : x / 2 ^ (ldf x y) % 2 < 2 := Nat.mod_lt _ (by omega)
  have e1 : ldf v x = ldf x y := by omega
  have e2 : v / 2 ^ (ldf v x) % 2 = x / 2 ^ (ldf v x) % 2 := by rw [e1] at e ⊢; omega
  have h3 := (ldf_ok h1 (Nat.le_refl 30) hv hx).2.1
  rw [rt_tbm, rt_tbm, e2] at h3
  exact h3 rfl
theorem rt_low {u p : Nat} (hu : u < 2 ^ 30) (hp : p < 30) (hb : u.testBit p = true) (hn : ∀ j, j < p → u.testBit j = false) : nI u &&& (-(nI u)) = nI (2 ^ p) := by
  apply rt_inj
  rw [Int32.toBitVec_and, Int32.toBitVec_neg, rt_tb, rt_tb]
  apply BitVec.eq_of_getLsbD_eq
  intro i hi
  rw [BitVec.getLsbD_and, BitVec.getLsbD_neg]
  simp only [BitVec.getLsbD_ofNat, Nat.testBit_two_pow, hi, decide_true, Bool.true_and]
  rcases Nat.lt_trichotomy i p with q | q | q
  · rw [hn i q]
    have : p ≠ i := by omega
    simp [this]
  · subst q
    rw [hb]
    have hz : decide (∃ j, j < i ∧ (decide (j < 32) && u.testBit j) = true) = false := by
      rw [decide_eq_false_iff_not]
      rintro ⟨j, hj, z⟩
      rw [hn j hj] at z
      simp at z
    rw [hz]
    simp
  · have hz : decide (∃ j, j < i ∧ (decide (j < 32) && u.testBit j) = true) = true := by
      rw [decide_eq_true_iff]
      exact ⟨p, q, by rw [hb]; simp; omega⟩
    have h2 : p ≠ i := by omega
    rw [hz]
    cases u.testBit i <;> simp [h2]
theorem x0_shortened {v x : Nat} (h : v ≠ x) (hv : v < 2 ^ 30) (hx : x < 2 ^ 30) {post : Int32 → Prop} (hp : post (nI (shS v x))) : wp_X0_shortened (nI v) (nI x) post := by
  intro v3 e3
  rw [rt_xor] at e3
  subst e3
  obtain ⟨p, h1, h2, h3⟩ := low_ex (xor_ne h) (Nat.xor_lt_two_pow hv hx)
  have e : ldf v x = p := lwb_is (by omega) h2 h3
  rw [rt_low (Nat.xor_lt_two_pow hv hx) h1 h2 h3]
  apply x_bitCount
  rw [bcE_p ⟨p, by omega⟩, rt_shr (by omega) (by omega), rt_par, show (2 : Int32) = nI 2 from rfl, pk_mul, nI_add]
  unfold shS at hp
  rw [e] at hp
  exact hp
def rnd (n : Nat) (num : Nat → Nat) : Nat → Nat := fun p => shS (num p) (num ((p + 1) % n))
def noal (n : Nat) (num : Nat → Nat) : Prop := ∀ p, p < n → num p ≠ num ((p + 1) % n)
theorem x0_doRound {n : Nat} {num : Nat → Nat} {pk : Int32} {fN : fI} (hN : PL n num pk fN) (hB : B30 n num) (ha : noal n num) {post : fI → Prop} (hp : ∀ f, PL n (rnd n num) pk f → post f) : wp_X0_doRound pk fN post := by
  obtain ⟨h3, h60, rfl, hl⟩ := hN
  refine ⟨vp_in_nI (n := 0) (by decide) (by decide), fun v6 e6 => ?_⟩
  have e6 : v6 = nI (num 0) := by rw [e6]; exact hl 0 (by omega)
  subst e6
  unfold wp_X0_doRound_b9
  intro P hP
  refine rt_up (fun i f => P i f) n (fun i f => (∀ q, q < i → f q = nI (rnd n num q)) ∧ ∀ q, i ≤ q → q < n → f q = nI (num q)) ?_ ?_ n 0 fN (by omega) ⟨fun q h => by omega, fun q _ h => hl q h⟩
  · intro f h
    exact hP _ _ (br_t (nI_le (Nat.le_refl _) (by omega)) (hp f ⟨h3, h60, rfl, h.1⟩))
  · intro i f hi h ih
    obtain ⟨h1, h2⟩ := h
    refine hP _ _ (br_f (nI_ge hi (by omega)) ?_)
    rw [rt_inc]
    have hm := mlt (p := i + 1) h3
    have go : wp_X0_doRound_b39 (nI (num 0)) (nI i) (nI (num ((i + 1) % n))) (nI n) f post P := by
      refine ⟨vp_in_nI (by omega) (by decide), ?_⟩
      rw [rt_cl (by omega), h2 i (Nat.le_refl _) hi]
      refine x0_shortened (ha i hi) (hB i hi) (hB _ hm) ⟨vp_in_nI (by omega) (by decide), fun f55 e55 v e => ?_⟩
      rw [e, rt_inc]
      refine ih _ ⟨fun q hq => ?_, fun q hq hqn => ?_⟩
      · rw [e55]
        by_cases z : q = i
        · subst z; rw [pk_us]; rfl
        · rw [pk_un z]; exact h1 q (by omega)
      · rw [e55, pk_un (by omega)]; exact h2 q (by omega) hqn
    by_cases q : i + 1 < n
    · refine br_f (nI_ge q (by omega)) ⟨vp_in_nI (by omega) (by decide), ?_⟩
      rw [Nat.mod_eq_of_lt q] at go
      rw [rt_cl (by omega), h2 (i + 1) (by omega) q]
      exact go
    · have e : i + 1 = n := by omega
      refine br_t (nI_le (by omega) (by omega)) ?_
      rw [e, Nat.mod_self] at go
      exact go
theorem lik_zero {n : Nat} {num : Nat → Nat} : lik n num = 0 ↔ noal n num := by
  have key : ∀ m, ctb (fun p => decide (num p = num ((p + 1) % n))) m = 0 ↔ ∀ p, p < m → num p ≠ num ((p + 1) % n) := by
    intro m
    induction m with
    | zero => simp [ctb]
    | succ m ih =>
      rw [ctb]
      constructor
      · intro h p hp
        have h1 : ctb (fun p => decide (num p = num ((p + 1) % n))) m = 0 := by omega
        by_cases q : p = m
        · subst q
          intro z
          rw [if_pos (by simpa using z)] at h
          omega
        · exact ih.mp h1 p (by omega)
      · intro h
        rw [ih.mpr (fun p hp => h p (by omega)), if_neg (by simpa using h m (by omega))]
  exact key n
theorem rnd_noal {n : Nat} {num : Nat → Nat} (h3 : 3 ≤ n) (hB : B30 n num) (ha : noal n num) : noal n (rnd n num) := by
  intro p hp
  have hm := mlt (p := p + 1) h3
  have hm2 := mlt (p := (p + 1) % n + 1) h3
  exact shS_ne (ha p hp) (ha _ hm) (hB p hp) (hB _ hm) (hB _ hm2)
theorem rnd_lt {n : Nat} {num : Nat → Nat} (h3 : 3 ≤ n) {m : Nat} (hm : m ≤ 30) (hB : ∀ p, p < n → num p < 2 ^ m) (ha : noal n num) : ∀ p, p < n → rnd n num p < 2 * m := fun p hp =>
  shS_lt (ha p hp) hm (hB p hp) (hB _ (mlt h3))
def lbs (x y : Nat) : Nat := if 0 ≠ x ∧ 0 ≠ y then 0 else if 1 ≠ x ∧ 1 ≠ y then 1 else 2
theorem lbs_le (x y : Nat) : lbs x y ≤ 2 := by
  unfold lbs
  repeat' split
  all_goals omega
theorem x0_leastBeside {x y : Nat} (hx : x < 2 ^ 31) (hy : y < 2 ^ 31) {post : Int32 → Prop} (hp : post (nI (lbs x y))) : wp_X0_leastBeside (nI x) (nI y) post := by
  unfold wp_X0_leastBeside wp_X0_leastBeside_b2
  intro P hP
  have h0x := nI_eq (a := 0) (b := x) (by decide) hx
  have h0y := nI_eq (a := 0) (b := y) (by decide) hy
  have h1x := nI_eq (a := 1) (b := x) (by decide) hx
  have h1y := nI_eq (a := 1) (b := y) (by decide) hy
  have p2 : lbs x y = 2 → P (nI 2) := fun e => hP _ (br_t (by decide) (by rw [e] at hp; exact hp))
  have p1 : (lbs x y = 1 ∨ lbs x y = 2) → (lbs x y = 1 ↔ 1 ≠ x ∧ 1 ≠ y) → P (nI 1) := by
    intro ho hi
    refine hP _ (br_f (by decide) ?_)
    by_cases q : 1 = x
    · refine br_t (h1x.mpr q) (fun v e => ?_)
      rw [e, rt_inc]
      exact p2 (ho.resolve_left (fun z => (hi.mp z).1 q))
    · refine br_f (fun z => q (h1x.mp z)) ?_
      by_cases q2 : 1 = y
      · refine br_t (h1y.mpr q2) (fun v e => ?_)
        rw [e, rt_inc]
        exact p2 (ho.resolve_left (fun z => (hi.mp z).2 q2))
      · refine br_f (fun z => q2 (h1y.mp z)) ?_
        rw [hi.mpr ⟨q, q2⟩] at hp
        exact hp
  refine hP (nI 0) (br_f (by decide) ?_)
  have hx0 : ¬ (0 ≠ x ∧ 0 ≠ y) → (lbs x y = 1 ∨ lbs x y = 2) ∧ (lbs x y = 1 ↔ 1 ≠ x ∧ 1 ≠ y) := by
    intro z
    unfold lbs
    rw [if_neg z]
    by_cases z2 : 1 ≠ x ∧ 1 ≠ y
    · rw [if_pos z2]; simp [z2]
    · rw [if_neg z2]; simp [z2]
  by_cases q : 0 = x
  · have z := hx0 (fun z => z.1 q)
    refine br_t (h0x.mpr q) (fun v e => ?_)
    rw [e, rt_inc]
    exact p1 z.1 z.2
  · refine br_f (fun z => q (h0x.mp z)) ?_
    by_cases q2 : 0 = y
    · have z := hx0 (fun z => z.2 q2)
      refine br_t (h0y.mpr q2) (fun v e => ?_)
      rw [e, rt_inc]
      exact p1 z.1 z.2
    · refine br_f (fun z => q2 (h0y.mp z)) ?_
      have e : lbs x y = 0 := by unfold lbs; rw [if_pos ⟨q, q2⟩]
      rw [e] at hp
      exact hp
/-- a colour given up, post by post -/
def gus (n c : Nat) (num : Nat → Nat) : Nat → (Nat → Nat)
  | 0 => num
  | p + 1 => fun q => if q = p ∧ gus n c num p p = c then lbs (gus n c num p ((p + (n - 1)) % n)) (gus n c num p ((p + 1) % n)) else gus n c num p q
theorem gus_lt {n c : Nat} {num : Nat → Nat} (hB : B30 n num) : ∀ p, B30 n (gus n c num p)
  | 0 => hB
  | p + 1 => by
    intro q hq
    have ih := gus_lt (c := c) hB p q hq
    show (if q = p ∧ gus n c num p p = c then _ else gus n c num p q) < 1073741824
    by_cases z : q = p ∧ gus n c num p p = c
    · rw [if_pos z]
      have := lbs_le (gus n c num p ((p + (n - 1)) % n)) (gus n c num p ((p + 1) % n))
      omega
    · rw [if_neg z]; exact ih
theorem x0_giveUpColour {n : Nat} {num : Nat → Nat} {pk : Int32} {fN : fI} (hN : PL n num pk fN) (hB : B30 n num) {c : Nat} (hc : c < 2 ^ 31) {post : fI → Prop} (hp : ∀ f, PL n (gus n c num n) pk f → post f) : wp_X0_giveUpColour (nI c) pk fN post := by
  obtain ⟨h3, h60, rfl, hl⟩ := hN
  unfold wp_X0_giveUpColour wp_X0_giveUpColour_b2
  intro P hP
  refine rt_up (fun i f => P i f) n (fun i f => ∀ q, q < n → f q = nI (gus n c num i q)) ?_ ?_ n 0 fN (by omega) hl
  · intro f h
    exact hP _ _ (br_t (nI_le (Nat.le_refl _) (by omega)) (hp f ⟨h3, h60, rfl, h⟩))
  · intro i f hi h ih
    have b := gus_lt (c := c) hB i
    have b1 := b i hi
    refine hP _ _ (br_f (nI_ge hi (by omega)) ⟨vp_in_nI (by omega) (by decide), ?_⟩)
    rw [rt_cl (by omega), h i hi]
    by_cases q : gus n c num i i = c
    · refine ⟨fun z => absurd (by rw [q]) z, fun _ => x0_previous hi h60 ?_⟩
      have m1 := mlt (p := i + (n - 1)) h3
      have m2 := mlt (p := i + 1) h3
      refine ⟨vp_in_nI (by omega) (by decide), x0_next hi h60 ⟨vp_in_nI (by omega) (by decide), ?_⟩⟩
      rw [rt_cl (by omega), rt_cl (by omega), h _ m1, h _ m2]
      have b2 := b _ m1
      have b3 := b _ m2
      refine x0_leastBeside (by omega) (by omega) ⟨vp_in_nI (by omega) (by decide), fun f48 e48 v e => ?_⟩
      rw [e, rt_inc]
      refine ih _ (fun p hp2 => ?_)
      rw [e48]
      show _ = nI (if p = i ∧ gus n c num i i = c then _ else gus n c num i p)
      by_cases z : p = i
      · subst z; rw [pk_us, if_pos ⟨rfl, q⟩]
      · rw [pk_un z, if_neg (fun y => z y.1)]; exact h p hp2
    · refine ⟨fun _ v e => ?_, fun z => absurd ((nI_eq (by omega) hc).mp z) q⟩
      rw [e, rt_inc]
      refine ih _ (fun p hp2 => ?_)
      show _ = nI (if p = i ∧ gus n c num i i = c then _ else gus n c num i p)
      rw [if_neg (fun y => q y.2)]; exact h p hp2
theorem x0_takeNumbers {n : Nat} {num : Nat → Nat} {pk : Int32} {fL fN : fI} (hN : PL n num pk fN) {post : fI → Prop} (hp : ∀ f, PL n num pk f → post f) : wp_X0_takeNumbers pk fL fN post := by
  obtain ⟨h3, h60, rfl, hl⟩ := hN
  refine ⟨by decide, by decide, nI_pos (by omega), ?_, ?_, ?_⟩
  · rw [rt_cl (by omega)]; show 0 + n ≤ 60; omega
  · rw [rt_cl (by omega)]; show 0 + n ≤ 60; omega
  · intro f14 e14
    refine hp f14 ⟨h3, h60, rfl, fun p hpn => ?_⟩
    rw [e14, rt_cl (by omega)]
    show va_cpy fN fL 0 0 n p = _
    rw [pk_cpy_in (Nat.zero_le _) (by omega), Nat.zero_add, Nat.sub_zero]
    exact hl p hpn
def unl (g : Nat → Nat) (n : Nat) : Nat := ctb (fun p => !exk (fun q => decide (g q = g p)) p) n
theorem x0_standsBefore {g : Nat → Nat} {f : fI} {n p : Nat} (hn : n ≤ 60) (hf : ∀ q, q < n → f q = nI (g q) ∧ g q < 2 ^ 31) (hpn : p < n) {post : Int32 → Prop} (hp : post (if exk (fun q => decide (g q = g p)) p then 1 else 0)) : wp_X0_standsBefore (nI p) 60 f post := by
  unfold wp_X0_standsBefore wp_X0_standsBefore_b2
  intro P hP
  refine rt_up (fun i (_ : Unit) => P i) p (fun i _ => exk (fun q => decide (g q = g p)) i = false) ?_ ?_ p 0 () (by omega) rfl
  · intro _ h
    rw [h] at hp
    exact hP _ (br_t (nI_le (Nat.le_refl _) (by omega)) hp)
  · intro i _ hi h ih
    refine hP _ (br_f (nI_ge hi (by omega)) ⟨vp_in_nI (by omega) (by decide), vp_in_nI (by omega) (by decide), ?_⟩)
    have h1 := hf i (by omega)
    have h2 := hf p hpn
    rw [rt_cl (by omega), rt_cl (by omega), h1.1, h2.1]
    by_cases q : g i = g p
    · refine ⟨fun z => absurd (by rw [q]) z, fun _ => ?_⟩
      have e : exk (fun q => decide (g q = g p)) p = true := (exk_iff _ _).mpr ⟨i, hi, by simp [q]⟩
      rw [e] at hp
      exact hp
    · refine ⟨fun _ v e => ?_, fun z => absurd ((nI_eq h1.2 h2.2).mp z) q⟩
      rw [e, rt_inc]
      refine ih () ?_
      rw [exk, h]
      simp [q]
theorem x0_unlike {g : Nat → Nat} {f : fI} {n : Nat} (hn : n ≤ 60) (hf : ∀ q, q < n → f q = nI (g q) ∧ g q < 2 ^ 31) {post : Int32 → Prop} (hp : post (nI (unl g n))) : wp_X0_unlike 60 (nI n) f post := by
  unfold wp_X0_unlike wp_X0_unlike_b4
  intro P hP
  refine rt_up (fun i (x : Int32) => P x i) n (fun i x => x = nI (unl g i)) ?_ ?_ n 0 _ (by omega) rfl
  · intro x h
    refine hP _ _ (br_t (nI_le (Nat.le_refl _) (by omega)) ?_)
    rw [h]; exact hp
  · intro i x hi h ih
    refine hP _ _ (br_f (nI_ge hi (by omega)) (br_f (nI_ge (b := 60) (by omega) (by decide)) (x0_standsBefore hn hf hi ?_)))
    by_cases q : exk (fun q => decide (g q = g i)) i = true
    · rw [q]
      refine ⟨fun _ v e => ?_, fun z => absurd z (by decide)⟩
      rw [e, rt_inc]
      apply ih
      rw [h, unl, unl, ctb, q]; rfl
    · have q : exk (fun q => decide (g q = g i)) i = false := by simpa using q
      rw [q]
      refine ⟨fun z => absurd rfl z, fun _ v26 e26 v e => ?_⟩
      rw [e, rt_inc]
      apply ih
      rw [e26, h, rt_inc, unl, unl, ctb, q]; rfl
theorem x0_clearLabels {pk : Int32} {fL : fI} {post : fI → Prop} (hp : ∀ f, (∀ p, p < 60 → f p = nI 0) → post f) : wp_X0_clearLabels pk fL post := x_fillI (by decide) (fun f h => hp f h)
theorem x0_restart {n : Nat} (h3 : 3 ≤ n) (h60 : n ≤ 60) {pk : Int32} {fL fN : fI} {post : Int32 → fI → fI → Prop} (hp : ∀ f f2, PL n (fun _ => 0) (nI n) f → PL n (fun p => p) (nI n) f2 → post (nI n) f f2) : wp_X0_restart (nI n) pk fL fN post := by
  intro v7 e7
  have e7 : v7 = nI n := e7.trans (if_neg (show ¬ (60 : Int32) < nI n from nI_nlt (a := 60) h60 (by decide)))
  subst e7
  refine x0_clearLabels (fun f hf => ?_)
  unfold wp_X0_restart_b16
  intro P hP
  refine rt_up (fun i f => P i f) n (fun i f => ∀ q, q < i → f q = nI q) ?_ ?_ n 0 fN (by omega) (fun q h => by omega)
  · intro f2 h
    exact hP _ _ (br_t (nI_le (Nat.le_refl _) (by omega)) (hp f f2 ⟨h3, h60, rfl, fun p hp => hf p (by omega)⟩ ⟨h3, h60, rfl, h⟩))
  · intro i f2 hi h ih
    refine hP _ _ (br_f (nI_ge hi (by omega)) ⟨vp_in_nI (by omega) (by decide), fun f30 e30 v e => ?_⟩)
    rw [e, rt_inc]
    refine ih _ (fun q hq => ?_)
    rw [e30, rt_cl (by omega)]
    by_cases z : q = i
    · subst z; rw [pk_us]
    · rw [pk_un z]; exact h q (by omega)
/-! the colours -/
def rdj (n : Nat) (num : Nat → Nat) : Nat → (Nat → Nat)
  | 0 => num
  | j + 1 => rnd n (rdj n num j)
theorem rdj_ok {n : Nat} {num : Nat → Nat} (h3 : 3 ≤ n) (hB : B30 n num) (ha : noal n num) : ∀ j, B30 n (rdj n num j) ∧ noal n (rdj n num j)
  | 0 => ⟨hB, ha⟩
  | j + 1 => by
    obtain ⟨h1, h2⟩ := rdj_ok h3 hB ha j
    refine ⟨fun p hp => ?_, rnd_noal h3 h1 h2⟩
    have := rnd_lt h3 (m := 30) (Nat.le_refl _) h1 h2 p hp
    show rnd n (rdj n num j) p < 1073741824
    omega
theorem rdj_four {n : Nat} {num : Nat → Nat} (h3 : 3 ≤ n) (hB : B30 n num) (ha : noal n num) : ∀ p, p < n → rdj n num 4 p < 6 := by
  have k0 := rdj_ok h3 hB ha 0
  have k1 := rdj_ok h3 hB ha 1
  have k2 := rdj_ok h3 hB ha 2
  have k3 := rdj_ok h3 hB ha 3
  have e1 : ∀ p, p < n → rdj n num 1 p < 60 := rnd_lt h3 (m := 30) (by decide) k0.1 k0.2
  have e2 : ∀ p, p < n → rdj n num 2 p < 12 := rnd_lt h3 (m := 6) (by decide) (fun p hp => Nat.lt_of_lt_of_le (e1 p hp) (by decide)) k1.2
  have e3 : ∀ p, p < n → rdj n num 3 p < 8 := rnd_lt h3 (m := 4) (by decide) (fun p hp => Nat.lt_of_lt_of_le (e2 p hp) (by decide)) k2.2
  exact rnd_lt h3 (m := 3) (by decide) (fun p hp => Nat.lt_of_lt_of_le (e3 p hp) (by decide)) k3.2
def jok (n : Nat) (num : Nat → Nat) : Nat → Bool := fun j => decide (mxs (rdj n num j) n ≤ 5)
def jst (n : Nat) (num : Nat → Nat) : Nat := mfs (jok n num) 4 4
def cfin (n : Nat) (num : Nat → Nat) : Nat → Nat := gus n 3 (gus n 4 (gus n 5 num n) n) n
theorem mfs_le (ok : Nat → Bool) (m : Nat) : ∀ d, d ≤ m → mfs ok m d ≤ m
  | 0, _ => Nat.le_refl _
  | d + 1, h => by
    have ih := mfs_le ok m d (by omega)
    rw [mfs]
    split <;> omega
theorem mfs_is {ok : Nat → Bool} {m : Nat} : ∀ r, r ≤ mfs ok m m → mfs ok m m = mfs ok m (m - r)
  | 0, _ => rfl
  | r + 1, h => by
    have ih := mfs_is (ok := ok) (m := m) r (by omega)
    have hl := mfs_le ok m m (Nat.le_refl _)
    rw [ih, mfs_step (by omega)]
    by_cases q : ok r = true
    · rw [ih, mfs_step (by omega), if_pos q] at h
      omega
    · rw [if_neg q]
theorem mfs_no {ok : Nat → Bool} {m r : Nat} (h : r < mfs ok m m) : ok r = false := by
  have hl := mfs_le ok m m (Nat.le_refl _)
  have e := mfs_is (ok := ok) (m := m) r (by omega)
  rw [mfs_step (by omega)] at e
  cases q : ok r with
  | false => rfl
  | true => rw [q] at e; simp at e; omega
theorem mfs_yes {ok : Nat → Bool} {m : Nat} (h : mfs ok m m < m) : ok (mfs ok m m) = true := by
  have e := mfs_is (ok := ok) (m := m) (mfs ok m m) (Nat.le_refl _)
  rw [mfs_step h] at e
  cases q : ok (mfs ok m m) with
  | true => rfl
  | false =>
    rw [q] at e
    simp only [Bool.false_eq_true, if_false] at e
    have key : ∀ d, d ≤ m → m - d ≤ mfs ok m d := by
      intro d
      induction d with
      | zero => intro _; exact Nat.le_refl _
      | succ d ih =>
        intro hd
        have := ih (by omega)
        rw [mfs]
        split <;> omega
    have := key (m - (mfs ok m m + 1)) (by omega)
    omega
theorem jst_ok {n : Nat} {num : Nat → Nat} (h3 : 3 ≤ n) (hB : B30 n num) (ha : noal n num) : mxs (rdj n num (jst n num)) n ≤ 5 := by
  have hl := mfs_le (jok n num) 4 4 (Nat.le_refl _)
  by_cases q : jst n num < 4
  · have h : jok n num (jst n num) = true := mfs_yes (ok := jok n num) (m := 4) q
    simpa [jok] using h
  · have e : jst n num = 4 := by
      have : jst n num ≤ 4 := hl
      omega
    rw [e]
    have := mxs_lt (num := rdj n num 4) (c := 6) (by decide) n (rdj_four h3 hB ha)
    omega
theorem x2_colours {n : Nat} {num : Nat → Nat} {pk : Int32} {fN : fI} (hN : PL n num pk fN) (hB : B30 n num) {post : Int32 → fI → Prop} (hs : ¬ noal n num → post (-3) fN) (hp : noal n num → ∀ f, PL n (cfin n (rdj n num (jst n num))) pk f → post (nI (jst n num)) f) : wp_X2_colours pk fN post := by
  have hN0 := hN
  obtain ⟨h3, h60, rfl, hl⟩ := hN
  refine x0_likeNeighbours hN0 hB ?_
  have hlk := ctb_le (fun p => decide (num p = num ((p + 1) % n))) n
  by_cases ha : noal n num
  · have hp := hp ha
    have e0 := lik_zero.mpr ha
    rw [e0]
    refine br_t (by decide) ?_
    unfold wp_X2_colours_b15
    intro P hP
    have hj4 : jst n num ≤ 4 := mfs_le _ 4 4 (Nat.le_refl _)
    have key : ∀ d j f, j + d = jst n num → PL n (rdj n num j) (nI n) f → P (nI j) f := by
      intro d
      induction d with
      | zero =>
        intro j f hj hf
        have e : j = jst n num := by omega
        have k := rdj_ok h3 hB ha j
        apply hP
        refine br_f (nI_ge (b := 100) (by omega) (by decide)) (x0_greatestNumber hf k.1 ?_)
        have hm : mxs (rdj n num j) n ≤ 5 := by rw [e]; exact jst_ok h3 hB ha
        refine br_t (nI_le (b := 5) hm (by decide)) ?_
        unfold wp_X2_colours_b47
        intro P47 hP47
        refine hP47 (nI 5) _ (br_f (by decide) (x0_giveUpColour hf k.1 (by decide) (fun f5 hf5 v e5 => ?_)))
        rw [e5]
        have k5 := gus_lt (c := 5) k.1 n
        refine hP47 (nI 4) _ (br_f (by decide) (x0_giveUpColour hf5 k5 (by decide) (fun f4 hf4 v e4 => ?_)))
        rw [e4]
        have k4 := gus_lt (c := 4) k5 n
        refine hP47 (nI 3) _ (br_f (by decide) (x0_giveUpColour hf4 k4 (by decide) (fun f3 hf3 v e3 => ?_)))
        rw [e3]
        refine hP47 (nI 2) _ (br_t (by decide) ?_)
        rw [e] at hf3 ⊢
        exact hp f3 hf3
      | succ d ih =>
        intro j f hj hf
        have k := rdj_ok h3 hB ha j
        apply hP
        refine br_f (nI_ge (b := 100) (by omega) (by decide)) (x0_greatestNumber hf k.1 ?_)
        have hm : ¬ mxs (rdj n num j) n ≤ 5 := by
          have := mfs_no (ok := jok n num) (m := 4) (r := j) (by show j < jst n num; omega)
          simpa [jok] using this
        have hb := mxs_lt (num := rdj n num j) (c := 1073741824) (by decide) n k.1
        refine br_f (nI_ge (a := 5) (by omega) (by omega)) (x0_doRound hf k.1 k.2 (fun f2 hf2 v e => ?_))
        rw [e, rt_inc]
        exact ih (j + 1) f2 (by omega) hf2
    exact key (jst n num) 0 fN (by omega) hN0
  · have e0 : lik n num ≠ 0 := fun z => ha (lik_zero.mp z)
    have hle : lik n num ≤ n := hlk
    exact br_f (nI_nle (by omega) (by omega)) (hs ha)
