/-! the reference: its task -/
def mb (k : Nat) (w : Nat → Nat) (a b : Nat) : Bool := decide (a < k) && (w a).testBit b
def MK (k : Nat) (w : Nat → Nat) (mk : Int32) (fMM : fI) : Prop := 1 ≤ k ∧ k ≤ 6 ∧ mk = nI k ∧ (∀ a, a < k → w a < 2 ^ k) ∧ ∀ a b, a < 6 → b < 6 → fMM (6 * a + b) = (if mb k w a b then 1 else 0)
theorem i_lt {x y : Int32} : x < y ↔ x.toInt < y.toInt := Int32.lt_iff_toInt_lt
theorem i_le {x y : Int32} : x ≤ y ↔ x.toInt ≤ y.toInt := Int32.le_iff_toInt_le
theorem x3_in_yes {a lo hi : Nat} (h1 : lo ≤ a) (h2 : a ≤ hi) (h3 : hi < 2 ^ 31) {post : Int32 → Prop} (hp : post 1) : wp_X3_in (nI a) (nI lo) (nI hi) post :=
  br_f (nI_nlt h1 (by omega)) (br_f (nI_nlt h2 (by omega)) hp)
theorem x3_in_no {x lo hi : Int32} (h : x < lo ∨ hi < x) {post : Int32 → Prop} (hp : post 0) : wp_X3_in x lo hi post :=
  ⟨fun _ => hp, fun h1 => ⟨fun _ => hp, fun h2 => (h.elim (fun z => absurd z h1) (fun z => absurd z h2))⟩⟩
theorem x3_sub1 {k : Nat} (h : 1 ≤ k) : nI k - (1 : Int32) = nI (k - 1) := pk_sub (b := 1) h
theorem x3_out {x : Int32} {k : Nat} (h1 : 1 ≤ k) (hk : k < 2 ^ 31) (h : x < 0 ∨ nI k ≤ x) : x < 0 ∨ nI (k - 1) < x := by
  rcases h with h | h
  · exact Or.inl h
  · right
    rw [i_le, nI_toInt hk] at h
    rw [i_lt, nI_toInt (by omega)]
    omega
theorem x3_isLabel_yes {a k : Nat} {mp : Int32} (ha : a < k) (hk : k < 2 ^ 31) {post : Int32 → Prop} (hp : post 1) : wp_X3_isLabel (nI a) (nI k) mp post := by
  unfold wp_X3_isLabel
  rw [x3_sub1 (by omega)]
  exact x3_in_yes (lo := 0) (Nat.zero_le _) (by omega) (by omega) ⟨Or.inr rfl, hp⟩
theorem x3_isLabel_no {x : Int32} {k : Nat} {mp : Int32} (h1 : 1 ≤ k) (hk : k < 2 ^ 31) (h : x < 0 ∨ nI k ≤ x) {post : Int32 → Prop} (hp : post 0) : wp_X3_isLabel x (nI k) mp post := by
  unfold wp_X3_isLabel
  rw [x3_sub1 h1]
  exact x3_in_no (x3_out h1 hk h) ⟨Or.inl rfl, hp⟩
theorem x3_isPost_yes {a k : Nat} {mk : Int32} (ha : a < k) (hk : k < 2 ^ 31) {post : Int32 → Prop} (hp : post 1) : wp_X3_isPost (nI a) mk (nI k) post := by
  unfold wp_X3_isPost
  rw [x3_sub1 (by omega)]
  exact x3_in_yes (lo := 0) (Nat.zero_le _) (by omega) (by omega) ⟨Or.inr rfl, hp⟩
theorem x3_isPost_no {x : Int32} {k : Nat} {mk : Int32} (h1 : 1 ≤ k) (hk : k < 2 ^ 31) (h : x < 0 ∨ nI k ≤ x) {post : Int32 → Prop} (hp : post 0) : wp_X3_isPost x mk (nI k) post := by
  unfold wp_X3_isPost
  rw [x3_sub1 h1]
  exact x3_in_no (x3_out h1 hk h) ⟨Or.inl rfl, hp⟩
theorem e6 (a b : Nat) : ((6 : Int32) * nI a) + nI b = nI (6 * a + b) := by
  rw [show (6 : Int32) = nI 6 from rfl, pk_mul, nI_add]
theorem mb01 {b : Bool} : ((if b then (1 : Int32) else 0) = 0) ↔ b = false := b01
theorem rt_and63 (x : Nat) : lN x &&& (63 : Int64) = lN (x &&& 63) := rt_andL x 63
/-! leads -/
def wkb (k : Nat) (w : Nat → Nat) (t a b : Nat) : Bool := decide (a < k) && (decide (b < k) && (lb k w b t).testBit a)
theorem wkb_in {k : Nat} {w : Nat → Nat} {t a b : Nat} (ha : a < k) (hb : b < k) : wkb k w t a b = (lb k w b t).testBit a := by simp [wkb, ha, hb]
theorem wkb_step {k : Nat} {w : Nat → Nat} (hk6 : k ≤ 6) (hw : ∀ a, a < k → w a < 2 ^ k) (t a b : Nat) : wkb k w (t + 1) a b = exk (fun c => mb k w a c && wkb k w t c b) 6 := by
  rw [Bool.eq_iff_iff, exk_iff]
  unfold wkb mb
  rw [lb, mks_bit]
  simp only [Bool.and_eq_true, decide_eq_true_eq]
  constructor
  · rintro ⟨ha, hb, -, h⟩
    obtain ⟨c, hc⟩ := ne0_bit h
    rw [Nat.testBit_and, Bool.and_eq_true] at hc
    have := tb_lt (hw a ha) hc.1
    exact ⟨c, by omega, ⟨ha, hc.1⟩, this, hb, hc.2⟩
  · rintro ⟨c, hc, ⟨ha, h1⟩, hck, hb, h2⟩
    exact ⟨ha, hb, ha, bit_ne0 (i := c) (by rw [Nat.testBit_and, h1, h2]; rfl)⟩
def gd (k : Nat) (w : Nat → Nat) (fML : fJ) (t : Nat) : Prop := ∃ v, v < 2 ^ 36 ∧ fML t = lN v ∧ ∀ a b, a < 6 → b < 6 → v.testBit (6 * a + b) = wkb k w t a b
def LD (k : Nat) (w : Nat → Nat) (fML : fJ) : Prop := ∀ t, t ≤ 60 → gd k w fML t
theorem x3_div6 {j : Nat} (h : j < 36) : nI j / (6 : Int32) = nI (j / 6) := pk_div (d := 6) (by omega) (by decide) (by decide)
theorem x3_rem6 {j : Nat} (h : j < 36) : nI j - nI j / (6 : Int32) * (6 : Int32) = nI (j % 6) := pk_rem (d := 6) (by omega) (by decide) (by decide)
theorem gd_cong {k : Nat} {w : Nat → Nat} {f g : fJ} {t : Nat} (h : g t = f t) (hf : gd k w f t) : gd k w g t := by
  obtain ⟨v, h1, h2, h3⟩ := hf
  exact ⟨v, h1, h.trans h2, h3⟩
theorem x3_layLeads {k : Nat} {w : Nat → Nat} {mk mp : Int32} {fMM : fI} (hM : MK k w mk fMM) {fML : fJ} {post : fJ → Prop} (hp : ∀ f, LD k w f → post f) : wp_X3_layLeads mk mp fMM fML post := by
  obtain ⟨hk1, hk6, rfl, hw, hm⟩ := hM
  refine ⟨vp_in_nI (n := 0) (by decide) (by decide), fun f6 e6' => ?_⟩
  unfold wp_X3_layLeads_b9
  intro P hP
  refine rt_up (fun i f => P i f) k (fun n f => ∃ v, v < 2 ^ 36 ∧ f 0 = lN v ∧ ∀ a b, a < 6 → b < 6 → v.testBit (6 * a + b) = decide (a = b ∧ a < n)) ?_ ?_ k 0 f6 (by omega) ⟨0, by decide, by rw [e6']; rfl, fun a b _ _ => by rw [Nat.zero_testBit]; simp⟩
  · intro f h
    refine hP _ _ (br_t (nI_le (Nat.le_refl _) (by omega)) ?_)
    unfold wp_X3_layLeads_b40
    intro P40 hP40
    refine rt_up (fun i f => P40 i f) 61 (fun t f => 1 ≤ t ∧ ∀ u, u < t → gd k w f u) ?_ ?_ 60 1 f (by omega) ⟨Nat.le_refl _, fun u hu => ?_⟩
    · intro f h
      exact hP40 _ _ (br_t (by decide) (hp f (fun t ht => h.2 t (by omega))))
    · intro t f ht h ih
      obtain ⟨h1, h2⟩ := h
      refine hP40 _ _ (br_f (nI_nlt (a := 60) (by omega) (by decide)) ⟨vp_in_nI (by omega) (by decide), fun f52 e52 => ?_⟩)
      unfold wp_X3_layLeads_b55
      intro P55 hP55
      refine rt_up (fun j f => P55 j f) 36 (fun j f => (∀ u, u < t → gd k w f u) ∧ ∃ v, v < 2 ^ 36 ∧ f t = lN v ∧ ∀ a b, a < 6 → b < 6 → v.testBit (6 * a + b) = exk (fun c => decide (6 * a + c < j) && (mb k w a c && wkb k w (t - 1) c b)) 6) ?_ ?_ 36 0 f52 (by omega) ⟨fun u hu => ?_, 0, by decide, ?_, fun a b _ _ => ?_⟩
      · intro f3 h3
        refine hP55 _ _ (br_t (by decide) (fun v e => ?_))
        rw [e, rt_inc]
        refine ih f3 ⟨by omega, fun u hu => ?_⟩
        by_cases q : u = t
        · subst q
          obtain ⟨v, q1, q2, q3⟩ := h3.2
          refine ⟨v, q1, q2, fun a b ha hb => ?_⟩
          obtain ⟨t', rfl⟩ : ∃ t', u = t' + 1 := ⟨u - 1, by omega⟩
          rw [q3 a b ha hb, wkb_step hk6 hw, Bool.eq_iff_iff, exk_iff, exk_iff]
          constructor
          · rintro ⟨c, hc, z⟩
            exact ⟨c, hc, ((Bool.and_eq_true _ _).mp z).2⟩
          · rintro ⟨c, hc, z⟩
            refine ⟨c, hc, ?_⟩
            rw [Bool.and_eq_true]
            exact ⟨by simp; omega, z⟩
        · exact h3.1 u (by omega)
      · intro j f3 hj h3 ih2
        obtain ⟨h4, v, h5, h6, h7⟩ := h3
        refine hP55 _ _ (br_f (nI_ge (b := 36) hj (by decide)) ⟨vp_in_nI hj (by decide), ?_⟩)
        have ej : j = 6 * (j / 6) + j % 6 := by omega
        have hv := hm (j / 6) (j % 6) (by omega) (by omega)
        rw [← ej] at hv
        rw [rt_cl (by omega), hv]
        by_cases q : mb k w (j / 6) (j % 6) = true
        · rw [if_pos q]
          refine br_f (by decide) ⟨vp_in_nI (by omega) (by decide), ?_⟩
          have et : nI t - (1 : Int32) = nI (t - 1) := pk_sub (b := 1) h1
          rw [et]
          refine ⟨vp_in_nI (by omega) (by decide), by decide, by decide, vp_in_nI (by omega) (by decide), fun f106 e106 v107 e107 => ?_⟩
          rw [e107, rt_inc]
          obtain ⟨u, q1, q2, q3⟩ := h4 (t - 1) (by omega)
          have em1 : (6 : Int32) * nI (j % 6) = nI (6 * (j % 6)) := pk_mul 6 _
          have em2 : (6 : Int32) * nI (j / 6) = nI (6 * (j / 6)) := pk_mul 6 _
          rw [x3_div6 hj] at e106
          have er : nI j - nI (j / 6) * (6 : Int32) = nI (j % 6) := by
            have := x3_rem6 hj
            rw [x3_div6 hj] at this
            exact this
          rw [er, em1, em2, rt_cl (by omega), rt_cl (by omega), h6, q2, rt_shrL (by omega) (by omega), rt_and63, rt_shlL (by omega), rt_orL] at e106
          have hbit : ∀ a b, a < 6 → b < 6 → ((u / 2 ^ (6 * (j % 6)) &&& 63) * 2 ^ (6 * (j / 6))).testBit (6 * a + b) = (decide (a = j / 6) && wkb k w (t - 1) (j % 6) b) := by
            intro a b ha hb
            rw [← Nat.shiftLeft_eq, Nat.testBit_shiftLeft, Nat.testBit_and, Nat.testBit_div_two_pow, show (63 : Nat) = 2 ^ 6 - 1 from rfl, Nat.testBit_two_pow_sub_one]
            by_cases z : a = j / 6
            · subst z
              rw [show 6 * (j / 6) + b - 6 * (j / 6) = b by omega, Nat.add_comm b, q3 (j % 6) b (by omega) hb]
              simp [hb]
            · by_cases z2 : 6 * (j / 6) ≤ 6 * a + b
              · have z3 : ¬ 6 * a + b - 6 * (j / 6) < 6 := by omega
                simp [z, z3]
              · simp [z, z2]
          refine ih2 f106 ⟨fun x hx => gd_cong ?_ (h4 x hx), v ||| (u / 2 ^ (6 * (j % 6)) &&& 63) * 2 ^ (6 * (j / 6)), ?_, ?_, fun a b ha hb => ?_⟩
          · rw [e106, pk_uLn (by omega)]
          · apply Nat.or_lt_two_pow h5
            have z1 : u / 2 ^ (6 * (j % 6)) &&& 63 ≤ 63 := Nat.and_le_right
            have z2 : 2 ^ (6 * (j / 6)) ≤ 2 ^ 30 := Nat.pow_le_pow_right (by omega) (by omega)
            have z3 : (u / 2 ^ (6 * (j % 6)) &&& 63) * 2 ^ (6 * (j / 6)) ≤ 63 * 2 ^ 30 := Nat.mul_le_mul z1 z2
            omega
          · rw [e106, pk_uLs]
          · rw [Nat.testBit_or, h7 a b ha hb, hbit a b ha hb, Bool.eq_iff_iff, Bool.or_eq_true, exk_iff, exk_iff]
            constructor
            · rintro (⟨c, hc, z⟩ | z)
              · rw [Bool.and_eq_true] at z
                have z1 : 6 * a + c < j := by simpa using z.1
                exact ⟨c, hc, by rw [Bool.and_eq_true]; exact ⟨by simp; omega, z.2⟩⟩
              · rw [Bool.and_eq_true] at z
                have z1 : a = j / 6 := by simpa using z.1
                refine ⟨j % 6, by omega, ?_⟩
                rw [z1, q, z.2]
                simp; omega
            · rintro ⟨c, hc, z⟩
              rw [Bool.and_eq_true] at z
              have z1 : 6 * a + c < j + 1 := by simpa using z.1
              by_cases y : 6 * a + c = j
              · right
                have y1 : a = j / 6 := by omega
                have y2 : c = j % 6 := by omega
                have z2 := ((Bool.and_eq_true _ _).mp z.2).2
                rw [← y2, z2, y1]
                simp
              · left
                exact ⟨c, hc, by rw [Bool.and_eq_true]; exact ⟨by simp; omega, z.2⟩⟩
        · have q : mb k w (j / 6) (j % 6) = false := by simpa using q
          rw [q]
          refine br_t rfl (fun v107 e107 => ?_)
          rw [e107, rt_inc]
          refine ih2 f3 ⟨h4, v, h5, h6, fun a b ha hb => ?_⟩
          rw [h7 a b ha hb, Bool.eq_iff_iff, exk_iff, exk_iff]
          constructor
          · rintro ⟨c, hc, z⟩
            rw [Bool.and_eq_true] at z
            have z1 : 6 * a + c < j := by simpa using z.1
            exact ⟨c, hc, by rw [Bool.and_eq_true]; exact ⟨by simp; omega, z.2⟩⟩
          · rintro ⟨c, hc, z⟩
            rw [Bool.and_eq_true] at z
            have z1 : 6 * a + c < j + 1 := by simpa using z.1
            have y : 6 * a + c ≠ j := by
              intro y
              have y1 : a = j / 6 := by omega
              have y2 : c = j % 6 := by omega
              rw [y1, y2, q] at z
              simp at z
            exact ⟨c, hc, by rw [Bool.and_eq_true]; exact ⟨by simp; omega, z.2⟩⟩
      · refine gd_cong ?_ (h2 u hu)
        rw [e52, rt_cl (by omega), pk_uLn (by omega)]
      · rw [e52, rt_cl (by omega), pk_uLs]; rfl
      · rw [Nat.zero_testBit]
        symm
        cases e : exk (fun c => decide (6 * a + c < 0) && (mb k w a c && wkb k w (t - 1) c b)) 6 with
        | false => rfl
        | true =>
          obtain ⟨c, -, z⟩ := (exk_iff _ _).mp e
          simp at z
    · have eu : u = 0 := by omega
      subst eu
      obtain ⟨v, q1, q2, q3⟩ := h
      refine ⟨v, q1, q2, fun a b ha hb => ?_⟩
      rw [q3 a b ha hb]
      unfold wkb
      show _ = (decide (a < k) && (decide (b < k) && (2 ^ b).testBit a))
      rw [Nat.testBit_two_pow, Bool.eq_iff_iff]
      simp only [Bool.and_eq_true, decide_eq_true_eq]
      constructor
      · rintro ⟨rfl, z⟩; exact ⟨z, z, rfl⟩
      · rintro ⟨z1, z2, rfl⟩; exact ⟨rfl, z1⟩
  · intro n f hn h ih
    obtain ⟨v, q1, q2, q3⟩ := h
    refine hP _ _ (br_f (nI_ge hn (by omega)) ⟨vp_in_nI (n := 0) (by decide) (by decide), vp_in_nI (n := 0) (by decide) (by decide), fun f31 e31 v32 e32 => ?_⟩)
    rw [e32, rt_inc]
    have e7 : (7 : Int32) * nI n = nI (7 * n) := pk_mul 7 n
    rw [e7, rt_oneL (by omega)] at e31
    have e31 : f31 = vp_updL f 0 (f 0 ||| lN (2 ^ (7 * n))) := e31
    refine ih f31 ⟨v ||| 2 ^ (7 * n), Nat.or_lt_two_pow q1 (Nat.pow_lt_pow_right (by omega) (by omega)), ?_, fun a b ha hb => ?_⟩
    · rw [e31, pk_uLs, q2, rt_orL]
    · rw [Nat.testBit_or, q3 a b ha hb, Nat.testBit_two_pow, Bool.eq_iff_iff]
      simp only [Bool.or_eq_true, decide_eq_true_eq]
      omega
theorem x3_isWalk {k : Nat} {w : Nat → Nat} {mk mp : Int32} {fML : fJ} (hk6 : k ≤ 6) (hD : LD k w fML) {a b t : Nat} (ha : a < k) (hb : b < k) (ht : t ≤ 60) {post : Int32 → Prop} (hp : post (if (lb k w b t).testBit a then 1 else 0)) : wp_X3_isWalk (nI a) (nI b) (nI t) mk mp fML post := by
  obtain ⟨v, q1, q2, q3⟩ := hD t ht
  refine ⟨vp_in_nI (by omega) (by decide), ?_⟩
  have h := rt_lbit (v := v) (t := 6 * a + b) (by omega) (by omega)
  rw [q3 a b (by omega) (by omega), wkb_in ha hb] at h
  rw [rt_cl (by omega), q2, e6]
  by_cases q : (lb k w b t).testBit a = true
  · rw [if_pos q] at hp
    exact ⟨fun z => absurd (h.mpr q) z, fun _ => hp⟩
  · rw [if_neg q] at hp
    exact ⟨fun _ => hp, fun z => absurd (h.mp z) q⟩
