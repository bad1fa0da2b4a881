/-! pictures of the task -/
def TK (k : Nat) (w : Nat → Nat) (tk : Int32) (fB : fI) : Prop := 1 ≤ k ∧ k ≤ 6 ∧ tk = nI k ∧ ∀ a, a < k → w a < 2 ^ k ∧ fB a = nI (w a)
def lb (k : Nat) (w : Nat → Nat) (to : Nat) : Nat → Nat
  | 0 => 2 ^ to
  | t + 1 => mks (fun a => decide ((w a &&& lb k w to t) ≠ 0)) k
def lst (m : Nat) : Nat := if m.testBit 0 then 0 else if m.testBit 1 then 1 else if m.testBit 2 then 2 else if m.testBit 3 then 3 else if m.testBit 4 then 4 else 5
def pth (k : Nat) (w : Nat → Nat) (to n fr : Nat) : Nat → Nat
  | 0 => fr
  | i + 1 => lst (w (pth k w to n fr i) &&& lb k w to (n - (i + 1)))
theorem p64 {k m : Nat} (hk : k ≤ 6) (h : m < 2 ^ k) : m < 64 := Nat.lt_of_lt_of_le h (Nat.pow_le_pow_right (by omega) hk : 2 ^ k ≤ 2 ^ 6)
theorem p64i {m : Nat} (h : m < 64) : m < 2 ^ 31 := by omega
theorem lb_lt {k : Nat} {w : Nat → Nat} {to : Nat} (h : to < k) : ∀ t, lb k w to t < 2 ^ k
  | 0 => Nat.pow_lt_pow_right (by omega) h
  | t + 1 => mks_lt _ _
theorem tb_lt {m k i : Nat} (h : m < 2 ^ k) (hb : m.testBit i = true) : i < k := by
  rcases Nat.lt_or_ge i k with q | q
  · exact q
  · rw [Nat.testBit_lt_two_pow (Nat.lt_of_lt_of_le h (Nat.pow_le_pow_right (by omega) q))] at hb
    cases hb
theorem and_lt {a b k : Nat} (h : a < 2 ^ k) : a &&& b < 2 ^ k := Nat.lt_of_le_of_lt Nat.and_le_left h
theorem ne0_bit {m : Nat} (h : m ≠ 0) : ∃ i, m.testBit i = true := by
  rcases Classical.em (∃ i, m.testBit i = true) with q | q
  · exact q
  · exfalso
    apply h
    apply Nat.eq_of_testBit_eq
    intro i
    rw [Nat.zero_testBit]
    cases e : m.testBit i with
    | false => rfl
    | true => exact absurd ⟨i, e⟩ q
theorem bit_ne0 {m i : Nat} (h : m.testBit i = true) : m ≠ 0 := fun e => by rw [e, Nat.zero_testBit] at h; cases h
theorem lst_le (m : Nat) : lst m ≤ 5 := by
  unfold lst
  repeat' split
  all_goals omega
theorem lst_d1 : ∀ m : Fin 64, (m : Nat) ≠ 0 → (m : Nat).testBit (lst m) = true := by decide +kernel
theorem lst_d2 : ∀ m : Fin 64, ∀ i : Fin 6, (∀ j : Fin 6, j < i → (m : Nat).testBit j = false) → (m : Nat).testBit i = true → lst m = i := by decide +kernel
theorem lst_d3 : ∀ m : Fin 64, (∀ j : Fin 5, (m : Nat).testBit j = false) → lst m = 5 := by decide +kernel
theorem lst_bit {m : Nat} (h : m < 64) (h0 : m ≠ 0) : m.testBit (lst m) = true := lst_d1 ⟨m, h⟩ h0
theorem lst_is {m i : Nat} (h : m < 64) (hi : i < 6) (hj : ∀ j, j < i → m.testBit j = false) (hb : m.testBit i = true) : lst m = i :=
  lst_d2 ⟨m, h⟩ ⟨i, hi⟩ (fun j hj2 => hj j hj2) hb
/-! the class's small methods -/
theorem x1_has_yes {a k : Nat} {post : Int32 → Prop} (ha : a < k) (hk : k < 2 ^ 31) (hp : post 1) : wp_X1_has (nI a) (nI k) post :=
  br_f (nI_pos (by omega)) (br_f (nI_ge ha hk) hp)
theorem x1_has_no {x tk : Int32} {post : Int32 → Prop} (h : x < 0 ∨ tk ≤ x) (hp : post 0) : wp_X1_has x tk post :=
  ⟨fun _ => hp, fun h1 => ⟨fun _ => hp, fun h2 => (h.elim (fun z => absurd z h1) (fun z => absurd z h2))⟩⟩
theorem x0_has_yes {a k : Nat} {post : Int32 → Prop} (ha : a < k) (hk : k < 2 ^ 31) (hp : post 1) : wp_X0_has (nI a) (nI k) post :=
  br_f (nI_pos (by omega)) (br_f (nI_ge ha hk) hp)
theorem x0_has_no {x tk : Int32} {post : Int32 → Prop} (h : x < 0 ∨ tk ≤ x) (hp : post 0) : wp_X0_has x tk post :=
  ⟨fun _ => hp, fun h1 => ⟨fun _ => hp, fun h2 => (h.elim (fun z => absurd z h1) (fun z => absurd z h2))⟩⟩
theorem x1_holds {m b : Nat} {post : Int32 → Prop} (hm : m < 64) (hb : b < 6) (hp : post (if m.testBit b then 1 else 0)) : wp_X1_holds (nI m) (nI b) post := by
  unfold wp_X1_holds
  by_cases h : m.testBit b = true
  · rw [if_pos h] at hp
    exact ⟨fun q => absurd ((rt_bit' hm hb).mpr h) q, fun _ => hp⟩
  · rw [if_neg h] at hp
    exact ⟨fun _ => hp, fun q => absurd ((rt_bit' hm hb).mp q) h⟩
theorem b01 {b : Bool} : (if b then (1 : Int32) else 0) = 0 ↔ b = false := by cases b <;> simp
theorem b01n {b : Bool} : ¬ (if b then (1 : Int32) else 0) = 0 ↔ b = true := by cases b <;> simp
theorem x1_mayFollow {k : Nat} {w : Nat → Nat} {tk : Int32} {fB : fI} (hT : TK k w tk fB) {a b : Nat} (ha : a < k) (hb : b < k) {post : Int32 → Prop} (hp : post (if (w a).testBit b then 1 else 0)) : wp_X1_mayFollow (nI a) (nI b) tk fB post := by
  obtain ⟨h1, h6, rfl, hw⟩ := hT
  refine x1_has_yes ha (by omega) (br_f (by decide) (x1_has_yes hb (by omega) (br_f (by decide) ⟨vp_in_nI (by omega) (by decide), ?_⟩)))
  rw [rt_cl (by omega), (hw a ha).2]
  apply x1_holds (p64 h6 (hw a ha).1) (by omega)
  by_cases h : (w a).testBit b = true
  · rw [if_pos h] at hp ⊢
    exact br_f (by decide) hp
  · rw [if_neg h] at hp ⊢
    exact br_t rfl hp
theorem x1_least {m : Nat} {post : Int32 → Prop} (hm : m < 64) (hp : post (nI (lst m))) : wp_X1_least (nI m) post := by
  unfold wp_X1_least wp_X1_least_b2
  intro P hP
  refine rt_up (fun i (_ : Unit) => P i) 5 (fun i _ => ∀ j, j < i → m.testBit j = false) ?_ ?_ 5 0 () (by omega) (fun j hj => by omega)
  · intro _ h
    apply hP
    have e : lst m = 5 := lst_d3 ⟨m, hm⟩ (fun j => h j j.2)
    rw [e] at hp
    exact br_t (by decide) hp
  · intro i _ hi h ih
    apply hP
    refine br_f (nI_ge hi (by decide)) (x1_holds hm (by omega) ?_)
    by_cases q : m.testBit i = true
    · rw [if_pos q]
      rw [lst_is hm (by omega) h q] at hp
      exact ⟨fun _ => hp, fun z => absurd z (by decide)⟩
    · rw [if_neg q]
      refine ⟨fun z => absurd rfl z, fun _ v hv => ?_⟩
      rw [hv, rt_inc]
      refine ih () (fun j hj => ?_)
      by_cases qq : j = i
      · rw [qq]; simpa using q
      · exact h j (by omega)
theorem x1_lookBack {k : Nat} {w : Nat → Nat} {tk : Int32} {fB fRE : fI} (hT : TK k w tk fB) {to n : Nat} (hto : to < k) (hn : n ≤ 60) {post : fI → Prop} (hp : ∀ f', (∀ t, t ≤ n → f' t = nI (lb k w to t)) → post f') : wp_X1_lookBack (nI to) (nI n) tk fB fRE post := by
  obtain ⟨hk1, hk6, rfl, hw⟩ := hT
  refine ⟨vp_in_nI (n := 0) (by decide) (by decide), ?_⟩
  intro f8 e8
  unfold wp_X1_lookBack_b11
  intro P hP
  refine rt_up (fun i f => P i f) (n + 1) (fun t f => 1 ≤ t ∧ ∀ u, u < t → f u = nI (lb k w to u)) ?_ ?_ n 1 f8 (by omega) ⟨Nat.le_refl _, ?_⟩
  · intro f h
    apply hP
    exact br_t (nI_lt (by omega) (by omega)) (hp f (fun t ht => h.2 t (by omega)))
  · intro t f ht h ih
    obtain ⟨h1, h2⟩ := h
    apply hP
    refine br_f (nI_nlt (by omega) (by omega)) (br_f (nI_nlt (a := 60) (by omega) (by decide)) ?_)
    unfold wp_X1_lookBack_b28
    intro P28 hP28
    refine rt_up (fun i (m : Int32) => P28 m i) k (fun a m => m = nI (mks (fun a => decide ((w a &&& lb k w to (t - 1)) ≠ 0)) a)) ?_ ?_ k 0 _ (by omega) rfl
    · intro m hm
      apply hP28
      refine br_t (nI_le (Nat.le_refl _) (by omega)) ⟨vp_in_nI (by omega) (by decide), ?_⟩
      intro f78 e78 v79 e79
      rw [e79, rt_inc]
      apply ih
      refine ⟨by omega, fun u hu => ?_⟩
      rw [e78, rt_cl (by omega)]
      by_cases q : u = t
      · subst q
        rw [pk_us, hm]
        obtain ⟨t', rfl⟩ : ∃ t', u = t' + 1 := ⟨u - 1, by omega⟩
        rfl
      · rw [pk_un q]
        exact h2 u (by omega)
    · intro a m ha hm ih2
      apply hP28
      refine br_f (nI_ge ha (by omega)) ⟨vp_in_nI (by omega) (by decide), ?_⟩
      have et : nI t - (1 : Int32) = nI (t - 1) := pk_sub (b := 1) h1
      rw [et, rt_cl (by omega), rt_cl (by omega), (hw a ha).2, h2 (t - 1) (by omega), rt_and]
      refine ⟨vp_in_nI (by omega) (by decide), ?_⟩
      have hc : w a &&& lb k w to (t - 1) < 64 := p64 hk6 (and_lt (hw a ha).1)
      by_cases q : w a &&& lb k w to (t - 1) = 0
      · refine br_t (by rw [q]; rfl) (fun v e => ?_)
        rw [e, rt_inc]
        apply ih2
        rw [hm, mks]
        simp [q]
      · refine br_f (fun z => q ((rt_nIz (by omega)).mp z)) (fun v63 e63 v e => ?_)
        rw [e, rt_inc]
        apply ih2
        rw [e63, hm, mks, rt_one' (by omega), rt_or]
        simp [q]
  · intro u hu
    have e : u = 0 := by omega
    subst e
    rw [e8, rt_one' (by omega)]
    rfl
theorem lb_back {k : Nat} {w : Nat → Nat} {to t a : Nat} (h : (lb k w to (t + 1)).testBit a = true) : a < k ∧ w a &&& lb k w to t ≠ 0 := by
  rw [lb, mks_bit] at h
  simpa using h
theorem pth_ok {k : Nat} {w : Nat → Nat} (hk6 : k ≤ 6) (hw : ∀ a, a < k → w a < 2 ^ k) {to n fr : Nat} (h0 : (lb k w to n).testBit fr = true) (hto : to < k) : ∀ i, i ≤ n → (lb k w to (n - i)).testBit (pth k w to n fr i) = true
  | 0, _ => h0
  | i + 1, h => by
    have ih := pth_ok hk6 hw h0 hto i (by omega)
    rw [show n - i = (n - (i + 1)) + 1 by omega] at ih
    obtain ⟨h1, h2⟩ := lb_back ih
    have h3 := lst_bit (p64 hk6 (and_lt (hw _ h1))) h2
    rw [Nat.testBit_and] at h3
    have h4 := (Bool.and_eq_true _ _).mp h3
    exact h4.2
theorem pth_lt {k : Nat} {w : Nat → Nat} (hk6 : k ≤ 6) (hw : ∀ a, a < k → w a < 2 ^ k) {to n fr : Nat} (h0 : (lb k w to n).testBit fr = true) (hto : to < k) {i : Nat} (hi : i ≤ n) : pth k w to n fr i < k :=
  tb_lt (lb_lt hto _) (pth_ok hk6 hw h0 hto i hi)
theorem x1_findWalk {k : Nat} {w : Nat → Nat} {tk : Int32} {fB fWK fRE : fI} (hT : TK k w tk fB) {fr to n : Nat} (hfr : fr < k) (hto : to < k) (hn : n ≤ 60) {post : Int32 → fI → fI → Prop}
    (hy : (lb k w to n).testBit fr = true → ∀ f f2, (∀ i, i ≤ n → f i = nI (pth k w to n fr i)) → post 1 f f2) (hno : (lb k w to n).testBit fr = false → ∀ f2, post 0 fWK f2) : wp_X1_findWalk (nI fr) (nI to) (nI n) tk fB fWK fRE post := by
  have hT0 := hT
  obtain ⟨hk1, hk6, rfl, hw⟩ := hT
  refine x1_has_yes hfr (by omega) (br_f (by decide) (x1_has_yes hto (by omega) (br_f (by decide) (br_f (nI_pos (by omega)) (br_t (nI_le (b := 60) (by omega) (by decide)) ?_)))))
  apply x1_lookBack hT0 hto hn
  intro f2 hf2
  refine ⟨vp_in_nI (by omega) (by decide), ?_⟩
  rw [rt_cl (by omega), hf2 n (Nat.le_refl _)]
  apply x1_holds (p64 hk6 (lb_lt hto n)) (by omega)
  by_cases h : (lb k w to n).testBit fr = true
  · rw [if_pos h]
    refine ⟨fun _ => ⟨vp_in_nI (n := 0) (by decide) (by decide), ?_⟩, fun z => absurd z (by decide)⟩
    intro f55 e55
    unfold wp_X1_findWalk_b62
    intro P hP
    refine rt_up (fun i (s : Int32 × fI) => P s.1 i s.2) (n + 1) (fun i s => 1 ≤ i ∧ s.1 = nI (pth k w to n fr (i - 1)) ∧ ∀ j, j < i → s.2 j = nI (pth k w to n fr j)) ?_ ?_ n 1 (nI fr, f55) (by omega) ⟨Nat.le_refl _, rfl, ?_⟩
    · intro s hs
      apply hP
      exact br_t (nI_lt (by omega) (by omega)) (hy h s.2 f2 (fun i hi => hs.2.2 i (by omega)))
    · intro i s hi hs ih
      obtain ⟨h1, h2, h3⟩ := hs
      apply hP
      have hlt := pth_lt hk6 (fun a ha => (hw a ha).1) h hto (i := i - 1) (by omega)
      have e1 : nI n - nI i = nI (n - i) := pk_sub (by omega)
      refine br_f (nI_nlt (by omega) (by omega)) ⟨?_, ?_, ?_⟩
      · rw [h2]; exact vp_in_nI (by omega) (by decide)
      · rw [e1]; exact vp_in_nI (by omega) (by decide)
      rw [e1, h2, rt_cl (by omega), rt_cl (by omega), (hw _ hlt).2, hf2 (n - i) (by omega), rt_and]
      apply x1_least (p64 hk6 (and_lt (hw _ hlt).1))
      refine ⟨vp_in_nI (by omega) (by decide), ?_⟩
      intro f98 e98 v e
      rw [e, rt_inc]
      have ep : lst (w (pth k w to n fr (i - 1)) &&& lb k w to (n - i)) = pth k w to n fr i := by
        obtain ⟨i', rfl⟩ : ∃ i', i = i' + 1 := ⟨i - 1, by omega⟩
        rfl
      rw [ep] at e98 ⊢
      refine ih (nI (pth k w to n fr i), f98) ⟨by omega, rfl, fun j hj => ?_⟩
      show f98 j = _
      rw [e98, rt_cl (by omega)]
      by_cases q : j = i
      · subst q; rw [pk_us]
      · rw [pk_un q]; exact h3 j (by omega)
    · intro j hj
      have e : j = 0 := by omega
      subst e
      show f55 0 = _
      rw [e55]
      rfl
  · rw [if_neg h]
    exact ⟨fun z => absurd rfl z, fun _ => hno (by simpa using h) f2⟩
/-- the first label from which a ring of n begins; k: none -/
def rst (k : Nat) (w : Nat → Nat) (n : Nat) : Nat → Nat
  | 0 => k
  | d + 1 => if (lb k w (k - (d + 1)) n).testBit (k - (d + 1)) then k - (d + 1) else rst k w n d
theorem x1_findRing {k : Nat} {w : Nat → Nat} {tk : Int32} {fB fWK fRE : fI} (hT : TK k w tk fB) {n : Nat} (hn : n ≤ 60) {post : Int32 → fI → fI → Prop}
    (hy : ∀ a, a < k → rst k w n k = a → (lb k w a n).testBit a = true → ∀ f f2, (∀ i, i ≤ n → f i = nI (pth k w a n a i)) → post 1 f f2) (hno : rst k w n k = k → ∀ f2, post 0 fWK f2) : wp_X1_findRing (nI n) tk fB fWK fRE post := by
  have hT0 := hT
  obtain ⟨hk1, hk6, rfl, hw⟩ := hT
  unfold wp_X1_findRing wp_X1_findRing_b2
  intro P hP
  refine rt_up (fun i (s : fI × fI) => P i s.1 s.2) k (fun i s => s.1 = fWK ∧ rst k w n k = rst k w n (k - i)) ?_ ?_ k 0 (fWK, fRE) (by omega) ⟨rfl, rfl⟩
  · intro s hs
    apply hP
    refine br_t (nI_le (Nat.le_refl _) (by omega)) ?_
    show post 0 s.1 s.2
    rw [hs.1]
    exact hno (by rw [hs.2, Nat.sub_self]; rfl) _
  · intro a s ha hs ih
    obtain ⟨s1, s2⟩ := s
    obtain ⟨h1, h2⟩ := hs
    simp only at h1
    subst h1
    apply hP
    have e : rst k w n (k - a) = if (lb k w a n).testBit a then a else rst k w n (k - (a + 1)) := by
      obtain ⟨d, hd⟩ : ∃ d, k - a = d + 1 := ⟨k - a - 1, by omega⟩
      rw [hd, rst, show k - (d + 1) = a by omega, show k - (a + 1) = d by omega]
    refine br_f (nI_ge ha (by omega)) (x1_findWalk hT0 ha ha hn ?_ ?_)
    · intro q f f2 hf
      refine ⟨fun z => absurd z (by decide), fun _ => hy a ha ?_ q f f2 hf⟩
      rw [h2, e, if_pos q]
    · intro q f2
      refine ⟨fun _ v hv => ?_, fun z => absurd rfl z⟩
      rw [hv, rt_inc]
      refine ih (s1, f2) ⟨rfl, ?_⟩
      rw [h2, e, q]
      rfl
