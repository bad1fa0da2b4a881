theorem rt_oneL {t : Nat} (ht : t < 64) : (1 : Int64) <<< ((nI t).toInt64 &&& 63) = lN (2 ^ t) := by
  have h := rt_shlL (v := 1) ht
  rw [Nat.one_mul] at h
  exact h
theorem x1_returnLengths {k : Nat} {w : Nat → Nat} {tk : Int32} {fB fRE : fI} (hT : TK k w tk fB) {a : Nat} (ha : a < k) {post : Int64 → fI → Prop} (hp : ∀ v, v < 2 ^ 61 → (∀ t, t < 61 → v.testBit t = rl k w a t) → ∀ f2, post (lN v) f2) : wp_X1_returnLengths (nI a) tk fB fRE post := by
  have hT0 := hT
  obtain ⟨hk1, hk6, rfl, hw⟩ := hT
  refine x1_lookBack hT0 (n := 60) ha (by decide) ?_
  intro f2 hf2
  unfold wp_X1_returnLengths_b12
  intro P hP
  refine rt_up (fun i (x : Int64) => P x i) 61 (fun t x => x = lN (mks (rl k w a) t)) ?_ ?_ 61 0 _ (by omega) rfl
  · intro x hx
    refine hP _ _ (br_t (by decide) ?_)
    rw [hx]
    exact hp _ (mks_lt _ _) (fun t ht => by rw [mks_bit]; simp [ht]) f2
  · intro t x ht hx ih
    refine hP _ _ (br_f (nI_nlt (a := 60) (by omega) (by decide)) ⟨vp_in_nI ht (by decide), ?_⟩)
    rw [rt_cl (by omega), hf2 t (by omega)]
    apply x1_holds (p64 hk6 (lb_lt ha t)) (by omega)
    by_cases q : (lb k w a t).testBit a = true
    · rw [if_pos q]
      refine br_f (by decide) (fun v39 e39 v e => ?_)
      rw [e, rt_inc]
      apply ih
      have q2 : rl k w a t = true := q
      rw [e39, hx, rt_oneL (by omega), rt_orL, mks, if_pos q2]
    · rw [if_neg q]
      refine br_t rfl (fun v e => ?_)
      rw [e, rt_inc]
      apply ih
      have q2 : ¬ rl k w a t = true := q
      rw [hx, mks, if_neg q2, Nat.or_zero]
theorem x1_ringLengths {k : Nat} {w : Nat → Nat} {tk : Int32} {fB fRE : fI} (hT : TK k w tk fB) {post : Int64 → fI → Prop} (hp : ∀ v, v < 2 ^ 61 → (∀ t, t < 61 → v.testBit t = exk (fun a => rl k w a t) k) → ∀ f2, post (lN v) f2) : wp_X1_ringLengths tk fB fRE post := by
  have hT0 := hT
  obtain ⟨hk1, hk6, rfl, hw⟩ := hT
  unfold wp_X1_ringLengths wp_X1_ringLengths_b4
  intro P hP
  refine rt_up (fun i (s : Int64 × fI) => P s.1 i s.2) k (fun n s => ∃ v, s.1 = lN v ∧ v < 2 ^ 61 ∧ ∀ t, t < 61 → v.testBit t = exk (fun a => rl k w a t) n) ?_ ?_ k 0 ((0 : Int64), fRE) (by omega) ⟨0, rfl, by decide, fun t _ => by rw [Nat.zero_testBit]; rfl⟩
  · intro s hs
    obtain ⟨v, h1, h2, h3⟩ := hs
    refine hP _ _ _ (br_t (nI_le (Nat.le_refl _) (by omega)) ?_)
    rw [h1]
    exact hp v h2 h3 _
  · intro n s hn hs ih
    obtain ⟨v, h1, h2, h3⟩ := hs
    refine hP _ _ _ (br_f (nI_ge hn (by omega)) (x1_returnLengths hT0 hn ?_))
    intro v2 h4 h5 f2 v19 e19 v20 e20
    rw [e20, rt_inc]
    refine ih (v19, f2) ⟨v ||| v2, ?_, Nat.or_lt_two_pow h2 h4, fun t ht => ?_⟩
    · show v19 = _
      rw [e19, h1, rt_orL]
    · rw [Nat.testBit_or, h3 t ht, h5 t ht, exk]
theorem x1_dividesAll {p v : Nat} (hp1 : 1 ≤ p) (hp2 : p < 2 ^ 30) (hv : v < 2 ^ 63) {post : Int32 → Prop} (hy : (∀ t, t < 61 → v.testBit t = true → p ∣ t) → post 1) (hn : (∃ t, t < 61 ∧ v.testBit t = true ∧ ¬ p ∣ t) → post 0) : wp_X1_dividesAll (nI p) (lN v) post := by
  unfold wp_X1_dividesAll wp_X1_dividesAll_b2
  intro P hP
  refine rt_up (fun i (_ : Unit) => P i) 61 (fun i _ => ∀ t, t < i → v.testBit t = true → p ∣ t) ?_ ?_ 61 0 () (by omega) (fun t ht => by omega)
  · intro _ h
    exact hP _ (br_t (by decide) (hy h))
  · intro t _ ht h ih
    refine hP _ (br_f (nI_nlt (a := 60) (by omega) (by decide)) ?_)
    by_cases q : v.testBit t = true
    · refine ⟨fun z => absurd ((rt_lbit hv (by omega)).mpr q) z, fun _ => ?_⟩
      refine br_f (nI_nlt (b := 1) hp1 (by omega)) ⟨nI_ne0 (by omega) (by omega), ?_⟩
      rw [pk_rem (by omega) (by omega) (by omega)]
      have hm : t % p < 2 ^ 31 := Nat.lt_of_le_of_lt (Nat.mod_le _ _) (by omega)
      by_cases q2 : t % p = 0
      · refine br_t (by rw [q2]; rfl) (fun v e => ?_)
        rw [e, rt_inc]
        refine ih () (fun u hu hb => ?_)
        by_cases q3 : u = t
        · subst q3; exact Nat.dvd_of_mod_eq_zero q2
        · exact h u (by omega) hb
      · refine br_f (fun z => q2 ((rt_nIz hm).mp z)) (hn ⟨t, ht, q, fun z => q2 (Nat.mod_eq_zero_of_dvd z)⟩)
    · refine ⟨fun _ v e => ?_, fun z => absurd ((rt_lbit hv (by omega)).mp z) q⟩
      rw [e, rt_inc]
      refine ih () (fun u hu hb => ?_)
      by_cases q3 : u = t
      · subst q3; exact absurd hb q
      · exact h u (by omega) hb
theorem rt_m2 : (-2 : Int64) = lN 18446744073709551614 := by decide
theorem rt_m2b : ∀ t : Fin 61, (18446744073709551614 : Nat).testBit t = decide ((t : Nat) ≠ 0) := by decide +kernel
theorem rt_clr0 {v : Nat} (hv : v < 2 ^ 61) : ∃ v', lN v &&& (-2 : Int64) = lN v' ∧ v' < 2 ^ 61 ∧ ∀ t, t < 61 → v'.testBit t = (decide (t ≠ 0) && v.testBit t) := by
  refine ⟨v &&& 18446744073709551614, ?_, Nat.lt_of_le_of_lt Nat.and_le_left hv, fun t ht => ?_⟩
  · rw [rt_m2, rt_andL]
  · rw [Nat.testBit_and, rt_m2b ⟨t, ht⟩, Bool.and_comm]
theorem rt_lz {v : Nat} (hv : v < 2 ^ 61) : lg_cmp (lN v) (0 : Int64) = 0 ↔ v = 0 := by
  rw [rt_lcmp]
  show lN v = lN 0 ↔ _
  rw [pk_lEQ (by omega) (by decide)]
theorem z61 {v : Nat} (hv : v < 2 ^ 61) : v = 0 ↔ ∀ t, t < 61 → v.testBit t = false := by
  constructor
  · intro h t _; rw [h, Nat.zero_testBit]
  · intro h
    apply Nat.eq_of_testBit_eq
    intro i
    rw [Nat.zero_testBit]
    by_cases q : i < 61
    · exact h i q
    · exact Nat.testBit_lt_two_pow (Nat.lt_of_lt_of_le hv (Nat.pow_le_pow_right (by omega) (by omega)))
theorem x1_paceOf {k : Nat} {w : Nat → Nat} {tk : Int32} {fB fRE : fI} (hT : TK k w tk fB) {a : Nat} (ha : a < k) {post : Int32 → fI → Prop} (hp : ∀ f2, post (nI (pace k w a)) f2) : wp_X1_paceOf (nI a) tk fB fRE post := by
  have hT0 := hT
  obtain ⟨hk1, hk6, rfl, hw⟩ := hT
  have hw1 : ∀ a, a < k → w a < 2 ^ k := fun a h => (hw a h).1
  refine x1_returnLengths hT0 ha ?_
  intro v hv hb f2 v9 e9
  obtain ⟨v', h1, h2, h3⟩ := rt_clr0 hv
  rw [h1] at e9
  subst e9
  have h4 : ∀ t, t < 61 → v'.testBit t = (decide (t ≠ 0) && rl k w a t) := fun t ht => by rw [h3 t ht, hb t ht]
  by_cases q : v' = 0
  · refine ⟨fun z => absurd ((rt_lz h2).mpr q) z, fun _ => ?_⟩
    have e : pace k w a = 0 := (gcf_zero _ _).mpr (fun t ht h0 => by
      have := (z61 h2).mp q t ht
      rw [h4 t ht] at this
      simpa [h0] using this)
    have := hp f2
    rw [e] at this
    exact this
  · refine ⟨fun _ => ?_, fun z => absurd ((rt_lz h2).mp z) q⟩
    have hne : pace k w a ≠ 0 := fun z => q ((z61 h2).mpr (fun t ht => by
      rw [h4 t ht]
      by_cases h0 : t = 0
      · simp [h0]
      · rw [(gcf_zero _ _).mp z t ht h0, Bool.and_false]))
    have hle := pace_le hk1 hk6 hw1 ha hne
    unfold wp_X1_paceOf_b24
    intro P hP
    have key : ∀ p, pace k w a ≤ p → p ≤ k → P (nI p) := by
      intro p
      induction p with
      | zero => intro z _; omega
      | succ p ih =>
        intro h5 h6
        apply hP
        by_cases q1 : p = 0
        · subst q1
          have e : pace k w a = 1 := by omega
          have := hp f2
          rw [e] at this
          exact br_t (by decide) this
        · refine br_f (fun z => q1 (by
            have := (nI_leI (a := p + 1) (b := 1) (by omega) (by decide)).mp z
            omega)) (x1_dividesAll (by omega) (by omega) (by omega) ?_ ?_)
          · intro hall
            refine ⟨fun _ => ?_, fun z => absurd z (by decide)⟩
            have hd : p + 1 ∣ pace k w a := gcf_of _ _ _ (fun t ht h0 hf => hall t ht (by rw [h4 t ht, hf]; simp [h0]))
            have hd2 := Nat.le_of_dvd (by omega) hd
            have e : pace k w a = p + 1 := by omega
            have := hp f2
            rw [e] at this
            exact this
          · intro hex
            refine ⟨fun z => absurd rfl z, fun _ v e => ?_⟩
            rw [e, pk_m1]
            obtain ⟨t, ht, hb2, hnd⟩ := hex
            rw [h4 t ht] at hb2
            have hb3 : t ≠ 0 ∧ rl k w a t = true := by simpa using hb2
            apply ih
            · rcases Nat.lt_or_ge p (pace k w a) with z | z
              · exfalso
                have e2 : pace k w a = p + 1 := by omega
                apply hnd
                rw [← e2]
                exact gcf_dvd _ _ t ht hb3.1 hb3.2
              · exact z
            · omega
    exact key k hle (Nat.le_refl _)
theorem x1_hasPaceOne {k : Nat} {w : Nat → Nat} {tk : Int32} {fB fRE : fI} (hT : TK k w tk fB) {post : Int32 → fI → Prop} (hp : ∀ f2, post (if exk (fun a => decide (pace k w a = 1)) k then 1 else 0) f2) : wp_X1_hasPaceOne tk fB fRE post := by
  have hT0 := hT
  obtain ⟨hk1, hk6, rfl, hw⟩ := hT
  have hw1 : ∀ a, a < k → w a < 2 ^ k := fun a h => (hw a h).1
  unfold wp_X1_hasPaceOne wp_X1_hasPaceOne_b2
  intro P hP
  refine rt_up (fun i f => P i f) k (fun n _ => exk (fun a => decide (pace k w a = 1)) n = false) ?_ ?_ k 0 fRE (by omega) rfl
  · intro f h
    refine hP _ _ (br_t (nI_le (Nat.le_refl _) (by omega)) ?_)
    have := hp f
    rw [h] at this
    exact this
  · intro a f ha h ih
    refine hP _ _ (br_f (nI_ge ha (by omega)) (x1_paceOf hT0 ha ?_))
    intro f2
    have hl : pace k w a < 2 ^ 31 := by
      by_cases z : pace k w a = 0
      · rw [z]; decide
      · have := pace_le hk1 hk6 hw1 ha z
        omega
    by_cases q : pace k w a = 1
    · refine ⟨fun z => absurd (by rw [q]; rfl) z, fun _ => ?_⟩
      have e : exk (fun a => decide (pace k w a = 1)) k = true := (exk_iff _ _).mpr ⟨a, ha, by simp [q]⟩
      have := hp f2
      rw [e] at this
      exact this
    · refine ⟨fun _ v e => ?_, fun z => absurd ((nI_eq (b := 1) hl (by decide)).mp z) q⟩
      rw [e, rt_inc]
      refine ih f2 ?_
      rw [exk, h]
      simp [q]
def kindS (k : Nat) (w : Nat → Nat) : Int32 := if exk (fun a => decide (pace k w a ≠ 0)) k then (if exk (fun a => (w a).testBit a) k then 1 else if exk (fun a => decide (pace k w a = 1)) k then 2 else 3) else 0
theorem x1_kindOfTask {k : Nat} {w : Nat → Nat} {tk : Int32} {fB fRE : fI} (hT : TK k w tk fB) {post : Int32 → fI → Prop} (hp : ∀ f2, post (kindS k w) f2) : wp_X1_kindOfTask tk fB fRE post := by
  have hT0 := hT
  obtain ⟨hk1, hk6, rfl, hw⟩ := hT
  have hw1 : ∀ a, a < k → w a < 2 ^ k := fun a h => (hw a h).1
  refine x1_ringLengths hT0 ?_
  intro v hv hb f2 v8 e8
  obtain ⟨v', h1, h2, h3⟩ := rt_clr0 hv
  rw [h1] at e8
  subst e8
  have h4 : ∀ t, t < 61 → v'.testBit t = (decide (t ≠ 0) && exk (fun a => rl k w a t) k) := fun t ht => by rw [h3 t ht, hb t ht]
  unfold kindS at hp
  by_cases q : v' = 0
  · refine ⟨fun z => absurd ((rt_lz h2).mpr q) z, fun _ => ?_⟩
    have e : exk (fun a => decide (pace k w a ≠ 0)) k = false := by
      cases e : exk (fun a => decide (pace k w a ≠ 0)) k with
      | false => rfl
      | true =>
        exfalso
        obtain ⟨a, ha, hh⟩ := (exk_iff _ _).mp e
        have hne : pace k w a ≠ 0 := by simpa using hh
        apply hne
        refine (gcf_zero _ _).mpr (fun t ht h0 => ?_)
        have z := (z61 h2).mp q t ht
        rw [h4 t ht] at z
        have z2 : exk (fun a => rl k w a t) k = false := by simpa [h0] using z
        cases e2 : rl k w a t with
        | false => rfl
        | true =>
          have z3 := (exk_iff (fun a => rl k w a t) k).mpr ⟨a, ha, e2⟩
          rw [z3] at z2; cases z2
    have := hp f2
    rw [e] at this
    exact this
  · refine ⟨fun _ => ?_, fun z => absurd ((rt_lz h2).mp z) q⟩
    have e : exk (fun a => decide (pace k w a ≠ 0)) k = true := by
      cases e : exk (fun a => decide (pace k w a ≠ 0)) k with
      | true => rfl
      | false =>
        exfalso
        apply q
        refine (z61 h2).mpr (fun t ht => ?_)
        rw [h4 t ht]
        by_cases h0 : t = 0
        · simp [h0]
        · have : exk (fun a => rl k w a t) k = false := by
            cases e2 : exk (fun a => rl k w a t) k with
            | false => rfl
            | true =>
              exfalso
              obtain ⟨a, ha, hh⟩ := (exk_iff _ _).mp e2
              have z : pace k w a ≠ 0 := fun z => by
                rw [(gcf_zero _ _).mp z t ht h0] at hh; cases hh
              rw [(exk_iff _ _).mpr ⟨a, ha, by simpa using z⟩] at e
              cases e
          rw [this, Bool.and_false]
    have ho : exk (fun a => rl k w a 1) k = exk (fun a => (w a).testBit a) k := by
      rw [Bool.eq_iff_iff, exk_iff, exk_iff]
      constructor
      · intro z
        obtain ⟨a, ha, z⟩ := z
        exact ⟨a, ha, by rw [← rl_one hw1 ha]; exact z⟩
      · intro z
        obtain ⟨a, ha, z⟩ := z
        exact ⟨a, ha, by rw [rl_one hw1 ha]; exact z⟩
    have hb1 : v'.testBit 1 = exk (fun a => (w a).testBit a) k := by
      rw [h4 1 (by decide), ho]; rfl
    have h22 : lN v' &&& (2 : Int64) = lN (v' &&& 2) := rt_andL v' 2
    have h23 : v' &&& 2 = 0 ↔ v'.testBit 1 = false := by
      constructor
      · intro z
        have z2 : (v' &&& 2).testBit 1 = false := by rw [z, Nat.zero_testBit]
        rw [Nat.testBit_and, show (2 : Nat).testBit 1 = true by decide, Bool.and_true] at z2
        exact z2
      · intro z
        apply Nat.eq_of_testBit_eq
        intro i
        rw [Nat.testBit_and, Nat.zero_testBit, show (2 : Nat) = 2 ^ 1 from rfl, Nat.testBit_two_pow]
        by_cases hi : 1 = i
        · subst hi; rw [z]; rfl
        · simp [hi]
    rw [h22]
    have h24 : v' &&& 2 < 2 ^ 61 := Nat.lt_of_le_of_lt Nat.and_le_left h2
    have hp := hp
    rw [e] at hp
    simp only [if_true] at hp
    by_cases q2 : exk (fun a => (w a).testBit a) k = true
    · rw [q2] at hp
      refine ⟨fun z => ?_, fun _ => hp f2⟩
      have := h23.mp ((rt_lz h24).mp z)
      rw [hb1, q2] at this
      cases this
    · have q3 : exk (fun a => (w a).testBit a) k = false := by simpa using q2
      rw [q3] at hp
      refine ⟨fun _ => ?_, fun z => absurd ((rt_lz h24).mpr (h23.mpr (by rw [hb1, q3]))) z⟩
      refine x1_hasPaceOne hT0 ?_
      intro f3
      by_cases q4 : exk (fun a => decide (pace k w a = 1)) k = true
      · rw [q4] at hp ⊢
        exact br_f (by decide) (hp f3)
      · have q5 : exk (fun a => decide (pace k w a = 1)) k = false := by simpa using q4
        rw [q5] at hp ⊢
        exact br_t rfl (hp f3)
theorem b01e {x y : Bool} : (if x then (1 : Int32) else 0) = (if y then (1 : Int32) else 0) ↔ x = y := by cases x <;> cases y <;> simp
theorem x1_isMirrored {k : Nat} {w : Nat → Nat} {tk : Int32} {fB : fI} (hT : TK k w tk fB) {post : Int32 → Prop} (hy : (∀ a b, b < a → a < k → (w a).testBit b ≠ (w b).testBit a → ob k w a b = false) → post 1) (hn : (∃ a b, b < a ∧ a < k ∧ (w a).testBit b ≠ (w b).testBit a ∧ ob k w a b = true) → post 0) : wp_X1_isMirrored tk fB post := by
  have hT0 := hT
  obtain ⟨hk1, hk6, rfl, hw⟩ := hT
  have hw1 : ∀ a, a < k → w a < 2 ^ k := fun a h => (hw a h).1
  unfold wp_X1_isMirrored wp_X1_isMirrored_b2
  intro P hP
  refine rt_up (fun i (_ : Unit) => P i) k (fun n _ => ∀ a b, b < a → a < n → (w a).testBit b ≠ (w b).testBit a → ob k w a b = false) ?_ ?_ k 0 () (by omega) (fun a b h1 h2 => by omega)
  · intro _ h
    exact hP _ (br_t (nI_le (Nat.le_refl _) (by omega)) (hy h))
  · intro a _ ha h ih
    refine hP _ (br_f (nI_ge ha (by omega)) ?_)
    unfold wp_X1_isMirrored_b12
    intro P12 hP12
    refine rt_up (fun i (_ : Unit) => P12 i) a (fun n _ => ∀ b, b < n → (w a).testBit b ≠ (w b).testBit a → ob k w a b = false) ?_ ?_ a 0 () (by omega) (fun b h1 => by omega)
    · intro _ h2
      refine hP12 _ (br_t (nI_le (Nat.le_refl _) (by omega)) (fun v e => ?_))
      rw [e, rt_inc]
      refine ih () (fun a' b' h3 h4 h5 => ?_)
      by_cases q : a' = a
      · subst q; exact h2 b' h3 h5
      · exact h a' b' h3 (by omega) h5
    · intro b _ hb h2 ih2
      refine hP12 _ (br_f (nI_ge hb (by omega)) (x1_mayFollow hT0 ha (by omega) (x1_mayFollow hT0 (by omega) ha ?_)))
      have go : ((w a).testBit b ≠ (w b).testBit a → ob k w a b = false) → ∀ v, v = nI b + (1 : Int32) → P12 v := by
        intro h3 v e
        rw [e, rt_inc]
        refine ih2 () (fun b' h4 h5 => ?_)
        by_cases q : b' = b
        · subst q; exact h3 h5
        · exact h2 b' (by omega) h5
      by_cases q : (w a).testBit b = (w b).testBit a
      · refine br_t (b01e.mpr q) ?_
        unfold wp_X1_isMirrored_b37
        exact br_t rfl (go (fun z => absurd q z))
      · refine br_f (fun z => q (b01e.mp z)) ?_
        unfold wp_X1_isMirrored_b37
        refine br_f (by decide) (x1_leastOfBlock hT0 ha (x1_leastOfBlock hT0 (by omega) ?_))
        have l1 := lob_le k w a
        have l2 := lob_le k w b
        have hi := nI_eq (a := lob k w a) (b := lob k w b) (by omega) (by omega)
        have hl := lob_eq hk1 hk6 hw1 ha (b := b) (by omega)
        by_cases q2 : ob k w a b = true
        · exact ⟨fun z => absurd (hi.mpr (hl.mpr q2)) z, fun _ => hn ⟨a, b, hb, ha, q, q2⟩⟩
        · exact ⟨fun _ => go (fun _ => by simpa using q2), fun z => absurd (hl.mp (hi.mp z)) q2⟩
theorem eog_cong {f g : Nat → Bool} : ∀ n, (∀ t, t < n → f t = g t) → eog f n = eog g n
  | 0, _ => rfl
  | n + 1, h => by rw [eog, eog, h n (by omega), eog_cong n (fun t ht => h t (by omega))]
theorem eog_le (f : Nat → Bool) : ∀ n, eog f n ≤ n
  | 0 => Nat.le_refl _
  | n + 1 => by
    have h := eog_le f n
    rw [eog]
    split <;> omega
theorem x2_endOfGaps {v : Nat} (hv : v < 2 ^ 63) {post : Int32 → Prop} (hp : post (nI (eog (fun t => v.testBit t) 61))) : wp_X2_endOfGaps (lN v) post := by
  unfold wp_X2_endOfGaps wp_X2_endOfGaps_b3
  intro P hP
  have key : ∀ e, e ≤ 61 → eog (fun t => v.testBit t) 61 = eog (fun t => v.testBit t) e → P (nI e) := by
    intro e
    induction e with
    | zero =>
      intro _ h
      apply hP
      rw [h] at hp
      exact br_t (by decide) hp
    | succ e ih =>
      intro h1 h2
      apply hP
      have es : nI (e + 1) - (1 : Int32) = nI e := nI_pred e
      refine br_f (nI_nle (by omega) (by omega)) ?_
      rw [es]
      by_cases q : v.testBit e = true
      · refine ⟨fun z => absurd ((rt_lbit hv (by omega)).mpr q) z, fun _ x ex => ?_⟩
        rw [ex, pk_m1]
        refine ih (by omega) ?_
        rw [h2, eog]
        simp [q]
      · refine ⟨fun _ => ?_, fun z => absurd ((rt_lbit hv (by omega)).mp z) q⟩
        rw [h2, eog] at hp
        simpa [q] using hp
  exact key 61 (Nat.le_refl _) rfl
