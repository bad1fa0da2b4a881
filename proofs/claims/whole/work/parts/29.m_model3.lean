theorem x3_behindLast {k : Nat} {w : Nat → Nat} (hk6 : k ≤ 6) {mp : Int32} {fML : fJ} (hD : LD k w fML) {x : Int32} {sel : Nat → Bool} (h1 : ∀ b, b < k → sel b = true → x = -9 ∨ x = nI b) (h2 : ∀ b, b < k → sel b = false → ¬ x = -9 ∧ ¬ x = nI b) {post : Int32 → Prop} (hp : post (nI (eog (fun t => exk (fun b => sel b && rl k w b t) k) 61))) : wp_X3_behindLast x (nI k) mp fML post := by
  unfold wp_X3_behindLast wp_X3_behindLast_b4
  intro P hP
  refine rt_up (fun i (g : Int32) => P g i) 61 (fun t g => g + (1 : Int32) = nI (eog (fun t => exk (fun b => sel b && rl k w b t) k) t)) ?_ ?_ 61 0 _ (by omega) (show (-1 : Int32) + 1 = nI 0 by decide)
  · intro g h
    refine hP _ _ (br_t (by decide) ?_)
    rw [h]; exact hp
  · intro t g ht h ih
    refine hP _ _ (br_f (nI_nlt (a := 60) (by omega) (by decide)) ?_)
    unfold wp_X3_behindLast_b16
    intro P16 hP16
    refine rt_up (fun i (s : Int32) => P16 s i) k (fun i s => s = (if exk (fun b => sel b && rl k w b t) i then 1 else 0)) ?_ ?_ k 0 _ (by omega) rfl
    · intro s hs
      refine hP16 _ _ (br_t (nI_le (Nat.le_refl _) (by omega)) ?_)
      rw [hs]
      by_cases q : exk (fun b => sel b && rl k w b t) k = true
      · rw [if_pos q]
        refine br_f (by decide) (fun v e => ?_)
        rw [e, rt_inc]
        refine ih g ?_
        rw [h, eog, if_pos q]
      · rw [if_neg q]
        refine br_t rfl (fun v e => ?_)
        rw [e, rt_inc]
        refine ih (nI t) ?_
        rw [rt_inc, eog, if_neg q]
    · intro b s hb hs ih2
      refine hP16 _ _ (br_f (nI_ge hb (by omega)) ?_)
      rw [hs]
      by_cases q : exk (fun b => sel b && rl k w b t) b = true
      · rw [if_pos q]
        refine ⟨fun _ v e => ?_, fun z => absurd z (by decide)⟩
        rw [e, rt_inc]
        refine ih2 1 ?_
        rw [exk, q]; rfl
      · have q : exk (fun b => sel b && rl k w b t) b = false := by simpa using q
        rw [q]
        refine ⟨fun z => absurd rfl z, fun _ => ?_⟩
        have ask : sel b = true → wp_X3_behindLast_b42 x g (nI t) (nI b) (nI k) mp fML post P P16 := by
          intro hs1
          unfold wp_X3_behindLast_b42
          refine x3_isWalk hk6 hD hb hb (by omega) ?_
          by_cases q2 : (lb k w b t).testBit b = true
          · rw [if_pos q2]
            refine br_f (by decide) (fun v e => ?_)
            rw [e, rt_inc]
            refine ih2 1 ?_
            have q3 : rl k w b t = true := q2
            rw [exk, q, hs1, q3]; rfl
          · rw [if_neg q2]
            refine br_t rfl (fun v e => ?_)
            rw [e, rt_inc]
            refine ih2 0 ?_
            have q3 : rl k w b t = false := by show (lb k w b t).testBit b = false; simpa using q2
            rw [exk, q, hs1, q3]; rfl
        cases hs1 : sel b with
        | true =>
          rcases h1 b hb hs1 with z | z
          · exact br_t z (ask hs1)
          · refine ⟨fun _ => ask hs1, fun _ => ⟨fun y => absurd z y, fun _ => ask hs1⟩⟩
        | false =>
          obtain ⟨z1, z2⟩ := h2 b hb hs1
          refine br_f z1 ⟨fun _ v e => ?_, fun y => absurd y z2⟩
          rw [e, rt_inc]
          refine ih2 0 ?_
          rw [exk, q, hs1]; rfl
theorem e7 (a : Nat) : (7 : Int32) * nI a = nI (6 * a + a) := by
  rw [show (7 : Int32) = nI 7 from rfl, pk_mul, show 7 * a = 6 * a + a by omega]
theorem x3_kind {k : Nat} {w : Nat → Nat} {mk mp : Int32} {fMM : fI} (hM : MK k w mk fMM) {fML : fJ} {post : Int32 → fJ → Prop} (hp : ∀ f, post (kindS k w) f) : wp_X3_kind mk mp fMM fML post := by
  have hM0 := hM
  obtain ⟨hk1, hk6, rfl, hw, hm⟩ := hM
  refine x3_layLeads hM0 (fun f hD => ?_)
  unfold wp_X3_kind_b13
  intro P hP
  refine rt_up (fun i (s : Int32 × Int32 × Int32) => P s.1 s.2.1 s.2.2 i) k (fun i s => s.1 = (if exk (fun a => decide (pace k w a ≠ 0)) i then 1 else 0) ∧ s.2.1 = (if exk (fun a => (w a).testBit a) i then 1 else 0) ∧ s.2.2 = (if exk (fun a => decide (pace k w a = 1)) i then 1 else 0)) ?_ ?_ k 0 ((0 : Int32), (0 : Int32), (0 : Int32)) (by omega) ⟨rfl, rfl, rfl⟩
  · intro s hs
    obtain ⟨s1, s2, s3⟩ := s
    obtain ⟨h1, h2, h3⟩ := hs
    simp only at h1 h2 h3
    refine hP _ _ _ _ (br_t (nI_le (Nat.le_refl _) (by omega)) ?_)
    show (¬ s1 = 0 → _) ∧ (s1 = 0 → _)
    rw [h1, h2, h3]
    have hp := hp f
    unfold kindS at hp
    by_cases q1 : exk (fun a => decide (pace k w a ≠ 0)) k = true
    · rw [q1] at hp ⊢
      refine ⟨fun _ => ?_, fun z => absurd z (by decide)⟩
      simp only [if_true] at hp
      by_cases q2 : exk (fun a => (w a).testBit a) k = true
      · rw [q2] at hp ⊢
        exact br_f (show ¬ (1 : Int32) = 0 by decide) hp
      · have q2 : exk (fun a => (w a).testBit a) k = false := by simpa using q2
        rw [q2] at hp ⊢
        refine br_t rfl ?_
        by_cases q3 : exk (fun a => decide (pace k w a = 1)) k = true
        · rw [q3] at hp ⊢
          exact br_f (by decide) hp
        · have q3 : exk (fun a => decide (pace k w a = 1)) k = false := by simpa using q3
          rw [q3] at hp ⊢
          exact br_t rfl hp
    · have q1 : exk (fun a => decide (pace k w a ≠ 0)) k = false := by simpa using q1
      rw [q1] at hp ⊢
      exact ⟨fun z => absurd rfl z, fun _ => hp⟩
  · intro a s ha hs ih
    obtain ⟨s1, s2, s3⟩ := s
    obtain ⟨h1, h2, h3⟩ := hs
    simp only at h1 h2 h3
    have hpl := gcf_lt (rl k w a) 61
    have hpl : pace k w a ≤ 61 := hpl
    refine hP _ _ _ _ (br_f (nI_ge ha (by omega)) (x3_paceOf hk6 hD ha ?_))
    have last : ∀ z0 z1 : Int32, z0 = (if exk (fun a => decide (pace k w a ≠ 0)) (a + 1) then 1 else 0) → z1 = (if exk (fun a => (w a).testBit a) (a + 1) then 1 else 0) → wp_X3_kind_b67 z0 s3 (nI a) (nI (pace k w a)) z1 (nI k) mp fMM f post P := by
      intro z0 z1 e0 e1
      unfold wp_X3_kind_b67
      rw [h3]
      by_cases q : exk (fun a => decide (pace k w a = 1)) a = true
      · rw [if_pos q]
        refine ⟨fun _ v e => ?_, fun z => absurd z (by decide)⟩
        rw [e, rt_inc]
        refine ih (z0, z1, 1) ⟨e0, e1, ?_⟩
        show (1 : Int32) = _
        rw [exk, q]; rfl
      · have q : exk (fun a => decide (pace k w a = 1)) a = false := by simpa using q
        rw [q]
        refine ⟨fun z => absurd rfl z, fun _ => ?_⟩
        by_cases q2 : pace k w a = 1
        · refine ⟨fun z => absurd (by rw [q2]; rfl) z, fun _ v e => ?_⟩
          rw [e, rt_inc]
          refine ih (z0, z1, 1) ⟨e0, e1, ?_⟩
          show (1 : Int32) = _
          rw [exk, q]; simp [q2]
        · refine ⟨fun _ v e => ?_, fun z => absurd ((nI_eq (b := 1) (by omega) (by decide)).mp z) q2⟩
          rw [e, rt_inc]
          refine ih (z0, z1, 0) ⟨e0, e1, ?_⟩
          show (0 : Int32) = _
          rw [exk, q]; simp [q2]
    have mid : ∀ z0 : Int32, z0 = (if exk (fun a => decide (pace k w a ≠ 0)) (a + 1) then 1 else 0) → wp_X3_kind_b44 s2 s3 (nI a) (nI (pace k w a)) z0 (nI k) mp fMM f post P := by
      intro z0 e0
      unfold wp_X3_kind_b44
      rw [h2]
      by_cases q : exk (fun a => (w a).testBit a) a = true
      · rw [if_pos q]
        exact ⟨fun _ => last z0 1 e0 (by rw [exk, q]; rfl), fun z => absurd z (by decide)⟩
      · have q : exk (fun a => (w a).testBit a) a = false := by simpa using q
        rw [q]
        refine ⟨fun z => absurd rfl z, fun _ => ?_⟩
        rw [e7]
        refine ⟨vp_in_nI (by omega) (by decide), ?_⟩
        rw [rt_cl (by omega), hm a a (by omega) (by omega)]
        by_cases q2 : (w a).testBit a = true
        · have q3 : mb k w a a = true := by simp [mb, ha, q2]
          rw [if_pos q3]
          exact br_f (by decide) (last z0 1 e0 (by rw [exk, q, q2]; rfl))
        · have q2 : (w a).testBit a = false := by simpa using q2
          have q3 : mb k w a a = false := by simp [mb, q2]
          rw [q3]
          exact br_t rfl (last z0 0 e0 (by rw [exk, q, q2]; rfl))
    show (¬ s1 = 0 → _) ∧ (s1 = 0 → _)
    rw [h1]
    by_cases q : exk (fun a => decide (pace k w a ≠ 0)) a = true
    · rw [if_pos q]
      exact ⟨fun _ => mid 1 (by rw [exk, q]; rfl), fun z => absurd z (by decide)⟩
    · have q : exk (fun a => decide (pace k w a ≠ 0)) a = false := by simpa using q
      rw [q]
      refine ⟨fun z => absurd rfl z, fun _ => ?_⟩
      by_cases q2 : pace k w a = 0
      · refine br_t (by rw [q2]; decide) (mid 0 ?_)
        rw [exk, q]; simp [q2]
      · refine br_f (nI_nle (by omega) (by omega)) (mid 1 ?_)
        rw [exk, q]; simp [q2]
def bad (k : Nat) (w : Nat → Nat) (j : Nat) : Bool := decide (j / 6 < k) && (decide (j % 6 < k) && (ob k w (j / 6) (j % 6) && (mb k w (j / 6) (j % 6) != mb k w (j % 6) (j / 6))))
theorem x3_mirrors {k : Nat} {w : Nat → Nat} {mk mp : Int32} {fMM : fI} (hM : MK k w mk fMM) {fML : fJ} {post : Int32 → fJ → Prop} (hp : ∀ f, post (if exk (bad k w) 36 then 0 else 1) f) : wp_X3_mirrors mk mp fMM fML post := by
  have hM0 := hM
  obtain ⟨hk1, hk6, rfl, hw, hm⟩ := hM
  refine x3_layLeads hM0 (fun f hD => ?_)
  unfold wp_X3_mirrors_b8
  intro P hP
  refine rt_up (fun i (s : Int32) => P s i) 36 (fun i s => s = (if exk (bad k w) i then 0 else 1)) ?_ ?_ 36 0 _ (by omega) rfl
  · intro s hs
    refine hP _ _ (br_t (by decide) ?_)
    rw [hs]
    have hp := hp f
    by_cases q : exk (bad k w) 36 = true
    · rw [if_pos q] at hp ⊢
      exact br_t rfl hp
    · rw [if_neg q] at hp ⊢
      exact br_f (by decide) hp
  · intro j s hj hs ih
    refine hP _ _ (br_f (nI_ge (b := 36) hj (by decide)) ⟨by decide, fun v18 e18 => ⟨by decide, fun v23 e23 => ?_⟩⟩)
    rw [x3_rem6 hj] at e23
    rw [x3_div6 hj] at e18
    subst e18 e23
    rw [hs]
    by_cases q : exk (bad k w) j = true
    · rw [if_pos q]
      refine br_t rfl (fun v e => ?_)
      rw [e, rt_inc]
      refine ih 0 ?_
      rw [exk, q]; rfl
    · have q : exk (bad k w) j = false := by simpa using q
      rw [q]
      have fine : bad k w j = false → ∀ v, v = nI j + (1 : Int32) → P 1 v := by
        intro hb v e
        rw [e, rt_inc]
        refine ih 1 ?_
        rw [exk, q, hb]; rfl
      refine br_f (by decide) ?_
      by_cases q1 : j / 6 < k
      · refine br_f (nI_ge q1 (by omega)) ?_
        by_cases q2 : j % 6 < k
        · refine br_f (nI_ge q2 (by omega)) (x3_isOneBlock hk1 hk6 hw hD q1 q2 ?_)
          by_cases q3 : ob k w (j / 6) (j % 6) = true
          · rw [if_pos q3]
            refine br_f (by decide) ⟨vp_in_nI hj (by decide), ?_⟩
            rw [e6]
            refine ⟨vp_in_nI (by omega) (by decide), ?_⟩
            have ej : j = 6 * (j / 6) + j % 6 := by omega
            have v1 := hm (j / 6) (j % 6) (by omega) (by omega)
            rw [← ej] at v1
            rw [rt_cl (by omega), rt_cl (by omega), v1, hm (j % 6) (j / 6) (by omega) (by omega)]
            by_cases q4 : mb k w (j / 6) (j % 6) = mb k w (j % 6) (j / 6)
            · refine ⟨fun z => absurd (b01e.mpr q4) z, fun _ => fine ?_⟩
              unfold bad
              rw [q4]; simp
            · refine ⟨fun _ v e => ?_, fun z => absurd (b01e.mp z) q4⟩
              rw [e, rt_inc]
              refine ih 0 ?_
              have hb : bad k w j = true := by
                unfold bad
                simp [q1, q2, q3, q4]
              rw [exk, q, hb]; rfl
          · have q3 : ob k w (j / 6) (j % 6) = false := by simpa using q3
            rw [q3]
            exact br_t rfl (fine (by unfold bad; simp [q3]))
        · exact br_t (nI_le (by omega) (by omega)) (fine (by unfold bad; simp [q2]))
      · exact br_t (nI_le (by omega) (by omega)) (fine (by unfold bad; simp [q1]))
theorem nar0 : vp_nar .boolean (0 : Int32) = 0 := by decide
theorem nar1 : vp_nar .boolean (1 : Int32) = 1 := by decide
theorem mb_full (k a b : Nat) : mb k (fullw k) a b = (decide (a < k) && (decide (b < k) && decide (b ≠ a))) := by
  unfold mb fullw
  rw [mks_bit]
theorem x3_begin {k : Nat} (hk1 : 1 ≤ k) (hk6 : k ≤ 6) {mk mp : Int32} {fMM fMB : fI} {post : Int32 → fI → fI → Prop} (hp : ∀ f f2, MK k (fullw k) (nI k) f → (∀ p, p < 60 → f2 p = nI 0) → post (nI k) f f2) : wp_X3_begin (nI k) mk mp fMM fMB post := by
  unfold wp_X3_begin wp_X3_begin_b7
  intro P hP
  refine rt_up (fun i f => P i f) 36 (fun i f => ∀ j, j < i → f j = (if mb k (fullw k) (j / 6) (j % 6) then 1 else 0)) ?_ ?_ 36 0 fMM (by omega) (fun j h => by omega)
  · intro f h
    refine hP _ _ (br_t (by decide) ?_)
    have hMK : MK k (fullw k) (nI k) f := by
      refine ⟨hk1, hk6, rfl, fun a _ => fullw_lt k a, fun a b ha hb => ?_⟩
      rw [h (6 * a + b) (by omega), show (6 * a + b) / 6 = a by omega, show (6 * a + b) % 6 = b by omega]
    unfold wp_X3_begin_b59
    intro P59 hP59
    refine rt_up (fun i f2 => P59 i f2) 60 (fun i f2 => ∀ p, p < i → f2 p = nI 0) ?_ ?_ 60 0 fMB (by omega) (fun p h => by omega)
    · intro f2 h2
      exact hP59 _ _ (br_t (by decide) (hp f f2 hMK h2))
    · intro i f2 hi h2 ih
      refine hP59 _ _ (br_f (nI_ge (b := 60) hi (by decide)) ⟨vp_in_nI hi (by decide), fun f71 e71 v e => ?_⟩)
      rw [e, rt_inc]
      refine ih _ (fun p hp2 => ?_)
      rw [e71, rt_cl (by omega)]
      by_cases z : p = i
      · subst z; rw [pk_us]; rfl
      · rw [pk_un z]; exact h2 p (by omega)
  · intro j f hj h ih
    refine hP _ _ (br_f (nI_ge (b := 36) hj (by decide)) ⟨by decide, by decide, ?_⟩)
    have go : ∀ (x : Int32), vp_nar .boolean x = (if mb k (fullw k) (j / 6) (j % 6) then 1 else 0) → ∀ f50 : Nat → Int32, f50 = upd f (nI j).toNatClampNeg (vp_nar .boolean x) → ∀ v, v = nI j + (1 : Int32) → P v f50 := by
      intro x hx f50 e50 v e
      rw [e, rt_inc]
      refine ih _ (fun i hi => ?_)
      rw [e50, rt_cl (by omega), hx]
      by_cases z : i = j
      · subst z; rw [pk_us]
      · rw [pk_un z]; exact h i (by omega)
    rw [x3_rem6 hj, x3_div6 hj]
    by_cases q : j / 6 = j % 6
    · exact br_t (by rw [q]) ⟨vp_in_nI hj (by decide), go 0 (by rw [nar0, mb_full]; simp [q])⟩
    · refine br_f (rt_nIeq (by omega) (by omega) q) ⟨by decide, ?_⟩
      by_cases q1 : j / 6 < k
      · refine br_f (nI_ge q1 (by omega)) ⟨by decide, ?_⟩
        by_cases q2 : j % 6 < k
        · exact br_f (nI_ge q2 (by omega)) ⟨vp_in_nI hj (by decide), go 1 (by rw [nar1, mb_full]; simp [q1, q2, show j % 6 ≠ j / 6 by omega])⟩
        · exact br_t (nI_le (by omega) (by omega)) ⟨vp_in_nI hj (by decide), go 0 (by rw [nar0, mb_full]; simp [q2])⟩
      · exact br_t (nI_le (by omega) (by omega)) ⟨vp_in_nI hj (by decide), go 0 (by rw [nar0, mb_full]; simp [q1])⟩
theorem x3_lay {n : Nat} (h3 : 3 ≤ n) (h60 : n ≤ 60) {mk mp : Int32} {fMB fMN : fI} {post : Int32 → fI → fI → Prop} (hp : ∀ f f2, PL n (fun _ => 0) (nI n) f → PL n (fun p => p) (nI n) f2 → post (nI n) f f2) : wp_X3_lay (nI n) mk mp fMB fMN post := by
  unfold wp_X3_lay wp_X3_lay_b7
  intro P hP
  refine rt_up (fun i (s : fI × fI) => P i s.1 s.2) 60 (fun i s => ∀ p, p < i → s.1 p = nI 0 ∧ s.2 p = nI p) ?_ ?_ 60 0 (fMB, fMN) (by omega) (fun p h => by omega)
  · intro s hs
    exact hP _ _ _ (br_t (by decide) (hp _ _ ⟨h3, h60, rfl, fun p hpn => (hs p (by omega)).1⟩ ⟨h3, h60, rfl, fun p hpn => (hs p (by omega)).2⟩))
  · intro i s hi hs ih
    refine hP _ _ _ (br_f (nI_ge (b := 60) hi (by decide)) ⟨vp_in_nI hi (by decide), fun f19 e19 => ⟨vp_in_nI hi (by decide), fun f26 e26 v e => ?_⟩⟩)
    rw [e, rt_inc]
    refine ih (f19, f26) (fun p hp2 => ?_)
    show f19 p = _ ∧ f26 p = _
    rw [e19, e26, rt_cl (by omega)]
    by_cases z : p = i
    · subst z; rw [pk_us, pk_us]; exact ⟨rfl, rfl⟩
    · rw [pk_un z, pk_un z]; exact hs p (by omega)
/-! places -/
theorem x3_placeN {n m : Nat} (h3 : 3 ≤ n) (h60 : n ≤ 60) (hm : m < 2 ^ 30) {mk : Int32} {post : Int32 → Prop} (hp : post (nI (m % n))) : wp_X3_place (nI m) mk (nI n) post := by
  refine ⟨nI_ne0 (by omega) (by omega), nI_ne0 (by omega) (by omega), ?_⟩
  have hlt := Nat.mod_lt m (show 0 < n by omega)
  rw [pk_rem (by omega) (by omega) (by omega), nI_add, pk_rem (by omega) (by omega) (by omega), Nat.add_mod_right, Nat.mod_mod]
  exact hp
theorem x3_placeM {n q : Nat} (h3 : 3 ≤ n) (h60 : n ≤ 60) (h0 : 0 < q) (hq : q < n) {x : Int32} (hx : x.toInt = -(q : Int)) {mk : Int32} {post : Int32 → Prop} (hp : post (nI (n - q))) : wp_X3_place x mk (nI n) post := by
  refine ⟨nI_ne0 (by omega) (by omega), nI_ne0 (by omega) (by omega), ?_⟩
  have e0 : x / nI n = 0 := by
    apply Int32.toInt_inj.mp
    rw [Int32.toInt_div, hx, nI_toInt (by omega), Int.neg_tdiv, Int.tdiv_eq_ediv_of_nonneg (by omega), Int.ediv_eq_zero_of_lt (by omega) (by omega)]
    rfl
  have e1 : x - x / nI n * nI n + nI n = nI (n - q) := by
    rw [e0]
    apply Int32.toInt_inj.mp
    rw [show (0 : Int32) * nI n = 0 by rw [Int32.zero_mul], Int32.sub_zero, Int32.toInt_add, hx, nI_toInt (by omega), nI_toInt (by omega)]
    have : (-(q : Int) + n) = ((n - q : Nat) : Int) := by omega
    rw [this]
    apply Int.bmod_eq_of_le <;> omega
  rw [e1, pk_rem (by omega) (by omega) (by omega), Nat.mod_eq_of_lt (by omega)]
  exact hp
theorem x3_placeZ {n : Nat} (h3 : 3 ≤ n) (h60 : n ≤ 60) {x : Int32} (h1 : -(n : Int) < x.toInt) (h2 : x.toInt < 1000) {mk : Int32} {post : Int32 → Prop} (hp : post (nI ((x.toInt + n).toNat % n))) : wp_X3_place x mk (nI n) post := by
  by_cases q : 0 ≤ x.toInt
  · obtain ⟨m, hm⟩ := Int.eq_ofNat_of_zero_le q
    have ex : x = nI m := Int32.toInt_inj.mp (by rw [hm, nI_toInt (by omega)])
    rw [hm] at hp h2
    subst ex
    refine x3_placeN h3 h60 (by omega) ?_
    have e : ((m : Int) + n).toNat = m + n := by omega
    rw [e, Nat.add_mod_right] at hp
    exact hp
  · obtain ⟨m, hm⟩ := Int.eq_ofNat_of_zero_le (show 0 ≤ -x.toInt by omega)
    refine x3_placeM h3 h60 (q := m) (by omega) (by omega) (by omega) ?_
    have e : (x.toInt + n).toNat = n - m := by omega
    rw [e, Nat.mod_eq_of_lt (by omega)] at hp
    exact hp
theorem x3_isFault {k : Nat} {w : Nat → Nat} {mk : Int32} {fMM : fI} (hM : MK k w mk fMM) {n : Nat} {lab : Nat → Nat} {mp : Int32} {fMB : fI} (hL : PL n lab mp fMB) (hlab : ∀ p, p < n → lab p < k) {p : Nat} (hpn : p < n) {post : Int32 → Prop} (hp : post (if flt w n lab p then 1 else 0)) : wp_X3_isFault (nI p) mk mp fMM fMB post := by
  obtain ⟨hk1, hk6, rfl, hw, hm⟩ := hM
  obtain ⟨h3, h60, rfl, hl⟩ := hL
  have hm2 := mlt (p := p + 1) h3
  refine ⟨vp_in_nI (by omega) (by decide), ?_⟩
  rw [rt_inc]
  refine x3_placeN h3 h60 (by omega) ⟨vp_in_nI (by omega) (by decide), ?_⟩
  have b1 := hlab p hpn
  have b2 := hlab _ hm2
  rw [rt_cl (by omega), rt_cl (by omega), hl p hpn, hl _ hm2, e6]
  refine ⟨vp_in_nI (by omega) (by decide), ?_⟩
  rw [rt_cl (by omega), hm _ _ (by omega) (by omega)]
  unfold flt at hp
  by_cases q : (w (lab p)).testBit (lab ((p + 1) % n)) = true
  · have q1 : mb k w (lab p) (lab ((p + 1) % n)) = true := by simp [mb, b1, q]
    rw [q] at hp
    rw [q1]
    exact ⟨fun _ => hp, fun z => absurd z (by decide)⟩
  · have q : (w (lab p)).testBit (lab ((p + 1) % n)) = false := by simpa using q
    have q1 : mb k w (lab p) (lab ((p + 1) % n)) = false := by simp [mb, q]
    rw [q] at hp
    rw [q1]
    exact ⟨fun z => absurd rfl z, fun _ => hp⟩
theorem rt_z (x : Int32) : x + (0 : Int32) = x := Int32.add_zero x
theorem x3_faults {k : Nat} {w : Nat → Nat} {mk : Int32} {fMM : fI} (hM : MK k w mk fMM) {n : Nat} {lab : Nat → Nat} {mp : Int32} {fMB : fI} (hL : PL n lab mp fMB) (hlab : ∀ p, p < n → lab p < k) {post : Int32 → Prop} (hp : post (nI (ctb (flt w n lab) n))) : wp_X3_faults mk mp fMM fMB post := by
  have hL0 := hL
  obtain ⟨h3, h60, rfl, hl⟩ := hL
  unfold wp_X3_faults wp_X3_faults_b4
  intro P hP
  refine rt_up (fun i (x : Int32) => P x i) n (fun i x => x = nI (ctb (flt w n lab) i)) ?_ ?_ n 0 _ (by omega) rfl
  · intro x h
    refine hP _ _ (br_t (nI_le (Nat.le_refl _) (by omega)) ?_)
    rw [h]; exact hp
  · intro i x hi h ih
    refine hP _ _ (br_f (nI_ge hi (by omega)) (x3_isFault hM hL0 hlab hi ?_))
    by_cases q : flt w n lab i = true
    · rw [q]
      refine br_f (by decide) (fun v30 e30 v e => ?_)
      rw [e, rt_inc]
      apply ih
      rw [e30, h, rt_inc, ctb, if_pos q]
    · have q : flt w n lab i = false := by simpa using q
      rw [q]
      refine br_t rfl (fun v30 e30 v e => ?_)
      rw [e, rt_inc]
      apply ih
      rw [e30, rt_z, h, ctb, q]; rfl
theorem x3_faultN {k : Nat} {w : Nat → Nat} {mk : Int32} {fMM : fI} (hM : MK k w mk fMM) {n : Nat} {lab : Nat → Nat} {mp : Int32} {fMB : fI} (hL : PL n lab mp fMB) (hlab : ∀ p, p < n → lab p < k) {p : Nat} (hpn : p < n) {post : Int32 → Prop} (hp : post (ffs n (flt w n lab) p n)) : wp_X3_fault_b12 (nI p) (0 : Int32) mk mp fMM fMB post := by
  have hL0 := hL
  obtain ⟨h3, h60, rfl, hl⟩ := hL
  unfold wp_X3_fault_b12
  intro P hP
  refine rt_up (fun i (_ : Unit) => P i) n (fun i _ => ffs n (flt w n lab) p n = ffs n (flt w n lab) p (n - i)) ?_ ?_ n 0 () (by omega) rfl
  · intro _ h
    refine hP _ (br_t (nI_le (Nat.le_refl _) (by omega)) ?_)
    rw [h, Nat.sub_self] at hp
    exact hp
  · intro i _ hi h ih
    have hm := mlt (p := p + i) h3
    refine hP _ (br_f (nI_ge hi (by omega)) ?_)
    rw [nI_add]
    refine x3_placeN h3 h60 (by omega) (x3_isFault hM hL0 hlab hm ?_)
    rw [h, ffs_step hi] at hp
    by_cases q : flt w n lab ((p + i) % n) = true
    · rw [q] at hp ⊢
      exact br_f (by decide) (x3_placeN h3 h60 (by omega) hp)
    · have q : flt w n lab ((p + i) % n) = false := by simpa using q
      rw [q]
      refine br_t rfl (fun v e => ?_)
      rw [e, rt_inc]
      refine ih () ?_
      rw [h, ffs_step hi, q]; rfl
