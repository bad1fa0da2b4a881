/-! the class: restart, decide, pairs -/
def fullw (k : Nat) : Nat → Nat := fun a => mks (fun b => decide (b ≠ a)) k
theorem x1_rs1 : ∀ k : Fin 7, ((1 : Int32) <<< (nI k &&& 31)) - (1 : Int32) = nI (2 ^ (k : Nat) - 1) := by decide +kernel
theorem x1_rs2 : ∀ k : Fin 7, ∀ a : Fin 6, nI (2 ^ (k : Nat) - 1) &&& (((1 : Int32) <<< (nI a &&& 31)) ^^^ (-1 : Int32)) = nI (fullw k a) := by decide +kernel
theorem fullw_lt (k a : Nat) : fullw k a < 2 ^ k := mks_lt _ _
theorem x1_restart {k : Nat} (hk1 : 1 ≤ k) (hk6 : k ≤ 6) {tk : Int32} {fB : fI} {post : Int32 → fI → Prop} (hp : ∀ f, TK k (fullw k) (nI k) f → post (nI k) f) : wp_X1_restart (nI k) tk fB post := by
  intro v7 e7 v18 e18
  have e7 : v7 = nI k := e7.trans (if_neg (show ¬ (6 : Int32) < nI k from nI_nlt (a := 6) hk6 (by decide)))
  subst e7
  rw [x1_rs1 ⟨k, by omega⟩] at e18
  subst e18
  unfold wp_X1_restart_b21
  intro P hP
  refine rt_up (fun i f => P i f) k (fun n f => ∀ a, a < n → f a = nI (fullw k a)) ?_ ?_ k 0 fB (by omega) (fun a h => by omega)
  · intro f h
    exact hP _ _ (br_t (nI_le (Nat.le_refl _) (by omega)) (hp f ⟨hk1, hk6, rfl, fun a ha => ⟨fullw_lt k a, h a ha⟩⟩))
  · intro a f ha h ih
    refine hP _ _ (br_f (nI_ge ha (by omega)) ⟨vp_in_nI (by omega) (by decide), fun f41 e41 v e => ?_⟩)
    rw [e, rt_inc]
    refine ih _ (fun b hb => ?_)
    rw [e41, rt_cl (by omega), x1_rs2 ⟨k, by omega⟩ ⟨a, by omega⟩]
    by_cases q : b = a
    · subst q; rw [pk_us]
    · rw [pk_un q]; exact h b (by omega)
def setw (w : Nat → Nat) (a b : Nat) (on : Prop) [Decidable on] : Nat → Nat := fun c => if c = a then (if on then w a ||| 2 ^ b else w a &&& (63 ^^^ 2 ^ b)) else w c
theorem x1_dc : ∀ m : Fin 64, ∀ b : Fin 6, nI m &&& (((1 : Int32) <<< (nI b &&& 31)) ^^^ (-1 : Int32)) = nI ((m : Nat) &&& (63 ^^^ 2 ^ (b : Nat))) := by decide +kernel
theorem x1_decide {k : Nat} {w : Nat → Nat} {tk : Int32} {fB : fI} (hT : TK k w tk fB) {a b : Nat} (ha : a < k) (hb : b < k) {x3 : Int32} {post : fI → Prop} (hp : ∀ f, TK k (setw w a b (¬ x3 = 0)) tk f → post f) : wp_X1_decide (nI a) (nI b) x3 tk fB post := by
  obtain ⟨hk1, hk6, rfl, hw⟩ := hT
  refine x1_has_yes ha (by omega) (br_f (by decide) (x1_has_yes hb (by omega) (br_f (by decide) ?_)))
  have h2b : 2 ^ b < 2 ^ k := Nat.pow_lt_pow_right (by omega) hb
  by_cases q : x3 = 0
  · refine br_t q ⟨vp_in_nI (by omega) (by decide), vp_in_nI (by omega) (by decide), fun f50 e50 => hp f50 ⟨hk1, hk6, rfl, fun c hc => ?_⟩⟩
    unfold setw
    by_cases q2 : c = a
    · subst q2
      rw [if_pos rfl, if_neg (by simp [q])]
      refine ⟨and_lt (hw c hc).1, ?_⟩
      rw [e50, rt_cl (by omega), pk_us, (hw c hc).2, x1_dc ⟨w c, p64 hk6 (hw c hc).1⟩ ⟨b, by omega⟩]
    · rw [if_neg q2]
      refine ⟨(hw c hc).1, ?_⟩
      rw [e50, rt_cl (by omega), pk_un q2]; exact (hw c hc).2
  · refine br_f q ⟨vp_in_nI (by omega) (by decide), vp_in_nI (by omega) (by decide), fun f50 e50 => hp f50 ⟨hk1, hk6, rfl, fun c hc => ?_⟩⟩
    unfold setw
    by_cases q2 : c = a
    · subst q2
      rw [if_pos rfl, if_pos q]
      refine ⟨Nat.or_lt_two_pow (hw c hc).1 h2b, ?_⟩
      rw [e50, rt_cl (by omega), pk_us, (hw c hc).2, rt_one' (by omega), rt_or]
    · rw [if_neg q2]
      refine ⟨(hw c hc).1, ?_⟩
      rw [e50, rt_cl (by omega), pk_un q2]; exact (hw c hc).2
def bcE (x0 : Int32) : Int32 :=
  let v9 : Int32 := x0 - (((x0.toUInt32 >>> ((1 : Int32).toUInt32 &&& Int32.toUInt32 31)).toInt32) &&& (1431655765 : Int32))
  let v23 : Int32 := (v9 &&& (858993459 : Int32)) + (((v9.toUInt32 >>> ((2 : Int32).toUInt32 &&& Int32.toUInt32 31)).toInt32) &&& (858993459 : Int32))
  let v33 : Int32 := (v23 + ((v23.toUInt32 >>> ((4 : Int32).toUInt32 &&& Int32.toUInt32 31)).toInt32)) &&& (252645135 : Int32)
  let v40 : Int32 := v33 + ((v33.toUInt32 >>> ((8 : Int32).toUInt32 &&& Int32.toUInt32 31)).toInt32)
  let v47 : Int32 := v40 + ((v40.toUInt32 >>> ((16 : Int32).toUInt32 &&& Int32.toUInt32 31)).toInt32)
  v47 &&& (63 : Int32)
theorem x_bitCount {x : Int32} {post : Int32 → Prop} (hp : post (bcE x)) : wp_J6_bitCount_0f7a4 x post := by
  intro v9 e9 v23 e23 v33 e33 v40 e40 v47 e47
  subst e9 e23 e33 e40 e47
  exact hp
theorem bcE_m : ∀ m : Fin 64, bcE (nI m) = nI (pcn m) := by decide +kernel
theorem bcE_p : ∀ p : Fin 31, bcE (nI (2 ^ (p : Nat)) - (1 : Int32)) = nI p := by decide +kernel
theorem x1_pairCount {k : Nat} {w : Nat → Nat} {tk : Int32} {fB : fI} (hT : TK k w tk fB) {post : Int32 → Prop} (hp : post (nI (sm (fun a => pcn (w a)) k))) : wp_X1_pairCount tk fB post := by
  obtain ⟨hk1, hk6, rfl, hw⟩ := hT
  unfold wp_X1_pairCount wp_X1_pairCount_b4
  intro P hP
  refine rt_up (fun i (x : Int32) => P x i) k (fun n x => x = nI (sm (fun a => pcn (w a)) n)) ?_ ?_ k 0 _ (by omega) rfl
  · intro x h
    refine hP _ _ (br_t (nI_le (Nat.le_refl _) (by omega)) ?_)
    rw [h]; exact hp
  · intro a x ha h ih
    refine hP _ _ (br_f (nI_ge ha (by omega)) ⟨vp_in_nI (by omega) (by decide), x_bitCount ?_⟩)
    intro v23 e23 v e
    rw [e, rt_inc]
    apply ih
    rw [e23, h, rt_cl (by omega), (hw a ha).2, bcE_m ⟨w a, p64 hk6 (hw a ha).1⟩, nI_add, sm]
/-! posts -/
theorem x0_next {n p : Nat} (hp0 : p < n) (hn : n ≤ 60) {post : Int32 → Prop} (hp : post (nI ((p + 1) % n))) : wp_X0_next (nI p) (nI n) post := by
  unfold wp_X0_next
  rw [rt_inc]
  by_cases q : p + 1 < n
  · rw [Nat.mod_eq_of_lt q] at hp
    exact br_f (nI_ge q (by omega)) hp
  · have e : p + 1 = n := by omega
    rw [e, Nat.mod_self] at hp
    exact br_t (nI_le (by omega) (by omega)) hp
theorem x0_previous {n p : Nat} (hp0 : p < n) (hn : n ≤ 60) {post : Int32 → Prop} (hp : post (nI ((p + (n - 1)) % n))) : wp_X0_previous (nI p) (nI n) post := by
  unfold wp_X0_previous
  by_cases q : p = 0
  · subst q
    rw [Nat.zero_add, Nat.mod_eq_of_lt (by omega)] at hp
    have e : nI n - (1 : Int32) = nI (n - 1) := pk_sub (b := 1) (by omega)
    rw [e]
    exact br_t (by decide) hp
  · have e : nI p - (1 : Int32) = nI (p - 1) := pk_sub (b := 1) (by omega)
    rw [show p + (n - 1) = (p - 1) + n by omega, Nat.add_mod_right, Nat.mod_eq_of_lt (by omega)] at hp
    rw [e]
    exact br_f (nI_nle (by omega) (by omega)) hp
def PL (n : Nat) (lab : Nat → Nat) (pk : Int32) (fL : fI) : Prop := 3 ≤ n ∧ n ≤ 60 ∧ pk = nI n ∧ ∀ p, p < n → fL p = nI (lab p)
def flt (w : Nat → Nat) (n : Nat) (lab : Nat → Nat) (p : Nat) : Bool := !(w (lab p)).testBit (lab ((p + 1) % n))
theorem mlt {p n : Nat} (h : 3 ≤ n) : p % n < n := Nat.mod_lt _ (by omega)
theorem x0_isFault {k : Nat} {w : Nat → Nat} {tk : Int32} {fB : fI} (hT : TK k w tk fB) {n : Nat} {lab : Nat → Nat} {pk : Int32} {fL : fI} (hL : PL n lab pk fL) (hlab : ∀ p, p < n → lab p < k) {p : Nat} (hpn : p < n) {post : Int32 → Prop} (hp : post (if flt w n lab p then 1 else 0)) : wp_X0_isFault (nI p) pk fL tk fB post := by
  obtain ⟨h3, h60, rfl, hl⟩ := hL
  refine ⟨vp_in_nI (by omega) (by decide), x0_next hpn h60 ⟨vp_in_nI (Nat.lt_of_lt_of_le (mlt h3) h60) (by decide), ?_⟩⟩
  have hm := mlt (p := p + 1) h3
  rw [rt_cl (by omega), rt_cl (by omega), hl p hpn, hl _ hm]
  apply x1_mayFollow hT (hlab p hpn) (hlab _ hm)
  unfold flt at hp
  by_cases q : (w (lab p)).testBit (lab ((p + 1) % n)) = true
  · rw [q] at hp ⊢
    exact ⟨fun _ => hp, fun z => absurd z (by decide)⟩
  · have q : (w (lab p)).testBit (lab ((p + 1) % n)) = false := by simpa using q
    rw [q] at hp ⊢
    exact ⟨fun z => absurd rfl z, fun _ => hp⟩
/-- the first place from p on, round -/
def ffs (n : Nat) (g : Nat → Bool) (p : Nat) : Nat → Int32
  | 0 => -9
  | d + 1 => if g ((p + (n - (d + 1))) % n) then nI ((p + (n - (d + 1))) % n) else ffs n g p d
theorem ffs_step {n : Nat} {g : Nat → Bool} {p i : Nat} (hi : i < n) : ffs n g p (n - i) = if g ((p + i) % n) then nI ((p + i) % n) else ffs n g p (n - (i + 1)) := by
  obtain ⟨d, hd⟩ : ∃ d, n - i = d + 1 := ⟨n - i - 1, by omega⟩
  rw [hd, ffs, show n - (d + 1) = i by omega, show n - (i + 1) = d by omega]
theorem x0_faultFrom {k : Nat} {w : Nat → Nat} {tk : Int32} {fB : fI} (hT : TK k w tk fB) {n : Nat} {lab : Nat → Nat} {pk : Int32} {fL : fI} (hL : PL n lab pk fL) (hlab : ∀ p, p < n → lab p < k) {p : Nat} (hpn : p < n) {post : Int32 → Prop} (hp : post (ffs n (flt w n lab) p n)) : wp_X0_faultFrom (nI p) pk fL tk fB post := by
  have hL0 := hL
  obtain ⟨h3, h60, rfl, hl⟩ := hL
  unfold wp_X0_faultFrom wp_X0_faultFrom_b5
  intro P hP
  refine rt_up (fun i (x : Int32) => P x i) n (fun i x => x = nI ((p + i) % n) ∧ ffs n (flt w n lab) p n = ffs n (flt w n lab) p (n - i)) ?_ ?_ n 0 _ (by omega) ⟨by rw [Nat.add_zero, Nat.mod_eq_of_lt hpn], rfl⟩
  · intro x h
    refine hP _ _ (br_t (nI_le (Nat.le_refl _) (by omega)) ?_)
    rw [h.2, Nat.sub_self] at hp
    exact hp
  · intro i x hi h ih
    obtain ⟨h1, h2⟩ := h
    subst h1
    have hm := mlt (p := p + i) h3
    refine hP _ _ (br_f (nI_ge hi (by omega)) (x0_isFault hT hL0 hlab hm ?_))
    rw [h2, ffs_step hi] at hp
    by_cases q : flt w n lab ((p + i) % n) = true
    · rw [q] at hp ⊢
      exact br_f (by decide) hp
    · have q : flt w n lab ((p + i) % n) = false := by simpa using q
      rw [q]
      refine br_t rfl (x0_next hm h60 (fun v e => ?_))
      rw [e, rt_inc]
      refine ih _ ⟨?_, ?_⟩
      · rw [Nat.mod_add_mod, Nat.add_assoc]
      · rw [h2, ffs_step hi, q]; rfl
def ctb (g : Nat → Bool) : Nat → Nat
  | 0 => 0
  | n + 1 => ctb g n + (if g n then 1 else 0)
theorem ctb_le (g : Nat → Bool) : ∀ n, ctb g n ≤ n
  | 0 => Nat.le_refl _
  | n + 1 => by
    have h := ctb_le g n
    rw [ctb]
    split <;> omega
theorem ctb_cong {g h : Nat → Bool} : ∀ n, (∀ i, i < n → g i = h i) → ctb g n = ctb h n
  | 0, _ => rfl
  | n + 1, e => by rw [ctb, ctb, e n (by omega), ctb_cong n (fun i hi => e i (by omega))]
theorem x2_faults {k : Nat} {w : Nat → Nat} {tk : Int32} {fB : fI} (hT : TK k w tk fB) {n : Nat} {lab : Nat → Nat} {pk : Int32} {fL : fI} (hL : PL n lab pk fL) (hlab : ∀ p, p < n → lab p < k) {post : Int32 → Prop} (hp : post (nI (ctb (flt w n lab) n))) : wp_X2_faults pk fL tk fB post := by
  have hL0 := hL
  obtain ⟨h3, h60, rfl, hl⟩ := hL
  unfold wp_X2_faults wp_X2_faults_b4
  intro P hP
  refine rt_up (fun i (x : Int32) => P x i) n (fun i x => x = nI (ctb (flt w n lab) i)) ?_ ?_ n 0 _ (by omega) rfl
  · intro x h
    refine hP _ _ (br_t (nI_le (Nat.le_refl _) (by omega)) ?_)
    rw [h]; exact hp
  · intro i x hi h ih
    refine hP _ _ (br_f (nI_ge hi (by omega)) (x0_isFault hT hL0 hlab hi ?_))
    by_cases q : flt w n lab i = true
    · rw [q]
      refine br_f (by decide) (fun v30 e30 v e => ?_)
      rw [e, rt_inc]
      apply ih
      rw [e30, h, rt_inc, ctb, if_pos q]
    · have q : flt w n lab i = false := by simpa using q
      rw [q]
      refine br_t rfl (fun v e => ?_)
      rw [e, rt_inc]
      apply ih
      rw [h, ctb, q]; rfl
/-- labels put on posts from a place on -/
def pwL (n st : Nat) (g : Nat → Nat) (lab : Nat → Nat) : Nat → (Nat → Nat)
  | 0 => lab
  | i + 1 => fun p => if p = (st + i) % n then g i else pwL n st g lab i p
theorem x0_putWalk {n : Nat} {lab : Nat → Nat} {pk : Int32} {fL : fI} (hL : PL n lab pk fL) {tk : Int32} {fWK : fI} {st len skip : Nat} (hst : st < n) (hlen : skip + len ≤ 61) {g : Nat → Nat} (hg : ∀ i, i < len → fWK (skip + i) = nI (g i)) {post : fI → Prop} (hp : ∀ f, PL n (pwL n st g lab len) pk f → post f) : wp_X0_putWalk (nI st) (nI len) (nI skip) pk fL tk fWK post := by
  obtain ⟨h3, h60, rfl, hl⟩ := hL
  unfold wp_X0_putWalk wp_X0_putWalk_b7
  intro P hP
  have key : ∀ d i x f, i + d = len → x = nI ((st + i) % n) → (∀ p, p < n → f p = nI (pwL n st g lab i p)) → P x (nI (skip + i)) f := by
    intro d
    induction d with
    | zero =>
      intro i x f hi hx hf
      have e : i = len := by omega
      subst e
      apply hP
      rw [nI_add]
      exact br_t (nI_le (Nat.le_refl _) (by omega)) (hp f ⟨h3, h60, rfl, hf⟩)
    | succ d ih =>
      intro i x f hi hx hf
      subst hx
      apply hP
      rw [nI_add]
      have hm := mlt (p := st + i) h3
      refine br_f (nI_ge (by omega) (by omega)) (br_f (nI_ge (b := 61) (by omega) (by decide)) ⟨vp_in_nI (by omega) (by decide), vp_in_nI (by omega) (by decide), fun f39 e39 => x0_next hm h60 (fun v e => ?_)⟩)
      rw [e, rt_inc]
      refine ih (i + 1) _ _ (by omega) ?_ (fun p hp2 => ?_)
      · rw [Nat.mod_add_mod, Nat.add_assoc]
      · rw [e39, rt_cl (by omega), rt_cl (by omega), hg i (by omega)]
        show _ = nI (if p = (st + i) % n then g i else pwL n st g lab i p)
        by_cases q : p = (st + i) % n
        · rw [if_pos q, q, pk_us]
        · rw [if_neg q, pk_un q]; exact hf p hp2
  exact key len 0 (nI st) fL (by omega) (by rw [Nat.add_zero, Nat.mod_eq_of_lt hst]) hl
/-! mending -/
def mok (k : Nat) (w : Nat → Nat) (n : Nat) (lab : Nat → Nat) (i r : Nat) : Bool :=
  if 2 * r + 1 = n then decide (rst k w n k < k) else (lb k w (lab ((i + r + 1) % n)) (2 * r + 2)).testBit (lab ((i + (n - r) + (n - 1)) % n))
def mgl (k : Nat) (w : Nat → Nat) (n : Nat) (lab : Nat → Nat) (i r : Nat) : Nat → Nat := fun j =>
  if 2 * r + 1 = n then pth k w (rst k w n k) n (rst k w n k) j else pth k w (lab ((i + r + 1) % n)) (2 * r + 2) (lab ((i + (n - r) + (n - 1)) % n)) (j + 1)
def mlab (k : Nat) (w : Nat → Nat) (n : Nat) (lab : Nat → Nat) (i r : Nat) : Nat → Nat := pwL n ((i + (n - r)) % n) (mgl k w n lab i r) lab (2 * r + 1)
theorem rst_le (k : Nat) (w : Nat → Nat) (n : Nat) : ∀ d, d ≤ k → rst k w n d ≤ k
  | 0, _ => Nat.le_refl _
  | d + 1, h => by
    have ih := rst_le k w n d (by omega)
    rw [rst]
    split <;> omega
theorem x0_mendStretch {k : Nat} {w : Nat → Nat} {tk : Int32} {fB : fI} (hT : TK k w tk fB) {n : Nat} {lab : Nat → Nat} {pk : Int32} {fL fWK fRE : fI} (hL : PL n lab pk fL) (hlab : ∀ p, p < n → lab p < k) {i r : Nat} (hi : i < n) (hr : 2 * r + 1 ≤ n) {post : Int32 → fI → fI → fI → Prop}
    (hy : mok k w n lab i r = true → ∀ f f2 f3, PL n (mlab k w n lab i r) pk f → post 1 f f2 f3) (hno : mok k w n lab i r = false → ∀ f2 f3, post 0 fL f2 f3) : wp_X0_mendStretch (nI ((i + (n - r)) % n)) (nI ((i + r) % n)) (nI (2 * r + 1)) pk fL tk fB fWK fRE post := by
  have hL0 := hL
  obtain ⟨h3, h60, rfl, hl⟩ := hL
  unfold wp_X0_mendStretch
  by_cases q : 2 * r + 1 = n
  · refine ⟨fun z => absurd (by rw [q]) z, fun _ => ?_⟩
    unfold wp_X0_mendStretch_b13
    refine br_f (by decide) (x1_findRing hT (by omega) ?_ ?_)
    · intro a ha hra _ f f2 hf
      unfold wp_X0_mendStretch_b57
      refine br_f (by decide) (br_f (by decide) (x0_putWalk hL0 (skip := 0) (g := mgl k w n lab i r) (mlt h3) (by omega) (fun j hj => ?_) ?_))
      · rw [Nat.zero_add, hf j (by omega)]
        unfold mgl
        rw [if_pos q, ← hra, q]
      · intro f3 hf3
        refine ⟨Or.inr rfl, hy ?_ f3 f f2 hf3⟩
        unfold mok
        rw [if_pos q]
        rw [q] at hra
        simp [hra, ha]
    · intro hk f2
      unfold wp_X0_mendStretch_b57
      refine br_t rfl ⟨Or.inl rfl, hno ?_ fWK f2⟩
      unfold mok
      rw [if_pos q]
      rw [q] at hk
      simp [hk]
  · refine ⟨fun _ => ?_, fun z => absurd ((nI_eq (by omega) (by omega)).mp z) q⟩
    unfold wp_X0_mendStretch_b13
    have m1 := mlt (p := i + (n - r)) h3
    have m2 := mlt (p := i + r) h3
    refine br_t rfl (x0_previous m1 h60 ?_)
    have m3 := mlt (p := (i + (n - r)) % n + (n - 1)) h3
    refine ⟨vp_in_nI (by omega) (by decide), x0_next m2 h60 ?_⟩
    have m4 := mlt (p := (i + r) % n + 1) h3
    refine ⟨vp_in_nI (by omega) (by decide), ?_⟩
    rw [rt_cl (by omega), rt_cl (by omega), hl _ m3, hl _ m4, rt_inc, Nat.mod_add_mod, Nat.mod_add_mod]
    have m5 := mlt (p := i + (n - r) + (n - 1)) h3
    have m6 := mlt (p := i + r + 1) h3
    refine x1_findWalk hT (hlab _ m5) (hlab _ m6) (by omega) ?_ ?_
    · intro hb f f2 hf
      unfold wp_X0_mendStretch_b57
      refine br_f (by decide) (br_t rfl (x0_putWalk hL0 (skip := 1) (g := mgl k w n lab i r) m1 (by omega) (fun j hj => ?_) ?_))
      · rw [Nat.add_comm 1 j, hf (j + 1) (by omega)]
        unfold mgl
        rw [if_neg q]
      · intro f3 hf3
        refine ⟨Or.inr rfl, hy ?_ f3 f f2 hf3⟩
        unfold mok
        rw [if_neg q]; exact hb
    · intro hb f2
      unfold wp_X0_mendStretch_b57
      refine br_t rfl ⟨Or.inl rfl, hno ?_ fWK f2⟩
      unfold mok
      rw [if_neg q]; exact hb
/-- the first r that does, of those from m - d on; m: none -/
def mfs (ok : Nat → Bool) (m : Nat) : Nat → Nat
  | 0 => m
  | d + 1 => if ok (m - (d + 1)) then m - (d + 1) else mfs ok m d
theorem mfs_step {ok : Nat → Bool} {m r : Nat} (hr : r < m) : mfs ok m (m - r) = if ok r then r else mfs ok m (m - (r + 1)) := by
  obtain ⟨d, hd⟩ : ∃ d, m - r = d + 1 := ⟨m - r - 1, by omega⟩
  rw [hd, mfs, show m - (d + 1) = r by omega, show m - (r + 1) = d by omega]
theorem x0_mendAround {k : Nat} {w : Nat → Nat} {tk : Int32} {fB : fI} (hT : TK k w tk fB) {n : Nat} {lab : Nat → Nat} {pk : Int32} {fL fWK fRE : fI} (hL : PL n lab pk fL) (hlab : ∀ p, p < n → lab p < k) {i : Nat} (hi : i < n) {post : Int32 → fI → fI → fI → Prop}
    (hy : ∀ r, r < (n + 1) / 2 → mfs (mok k w n lab i) ((n + 1) / 2) ((n + 1) / 2) = r → ∀ f f2 f3, PL n (mlab k w n lab i r) pk f → post (nI r) f f2 f3)
    (hno : mfs (mok k w n lab i) ((n + 1) / 2) ((n + 1) / 2) = (n + 1) / 2 → ∀ f2 f3, post (-9) fL f2 f3) : wp_X0_mendAround (nI i) pk fL tk fB fWK fRE post := by
  have hL0 := hL
  obtain ⟨h3, h60, rfl, hl⟩ := hL
  generalize hM : (n + 1) / 2 = M at hy hno
  unfold wp_X0_mendAround wp_X0_mendAround_b8
  intro P hP
  have e2 : ∀ r : Nat, (2 : Int32) * nI r + (1 : Int32) = nI (2 * r + 1) := fun r => by
    rw [show (2 : Int32) = nI 2 from rfl, pk_mul, rt_inc]
  refine rt_up (fun r (s : Int32 × Int32 × fI × fI × fI) => P s.1 s.2.1 r s.2.2.1 s.2.2.2.1 s.2.2.2.2) M (fun r s => s.1 = nI ((i + (n - r)) % n) ∧ s.2.1 = nI ((i + r) % n) ∧ s.2.2.1 = fL ∧ mfs (mok k w n lab i) M M = mfs (mok k w n lab i) M (M - r)) ?_ ?_ M 0 (nI i, nI i, fL, fWK, fRE) (by omega) ⟨?_, ?_, rfl, rfl⟩
  · intro s h
    obtain ⟨s1, s2, s3, s4, s5⟩ := s
    obtain ⟨h1, h2, h4, h5⟩ := h
    simp only at h1 h2 h4
    subst h4
    apply hP
    rw [e2]
    refine br_t (nI_lt (by omega) (by omega)) (hno ?_ _ _)
    rw [h5, Nat.sub_self]; rfl
  · intro r s hr h ih
    obtain ⟨s1, s2, s3, s4, s5⟩ := s
    obtain ⟨h1, h2, h4, h5⟩ := h
    simp only at h1 h2 h4
    subst h1 h2 h4
    apply hP
    rw [e2]
    refine br_f (nI_nlt (by omega) (by omega)) (x0_mendStretch hT hL0 hlab hi (by omega) ?_ ?_)
    · intro ho f f2 f3 hf
      refine br_f (by decide) (hy r hr ?_ f f2 f3 hf)
      rw [h5, mfs_step hr, ho]; rfl
    · intro ho f2 f3
      have m1 := mlt (p := i + (n - r)) h3
      have m2 := mlt (p := i + r) h3
      refine br_t rfl (x0_previous m1 h60 (x0_next m2 h60 (fun v e => ?_)))
      rw [e, rt_inc]
      refine ih (_, _, s3, f2, f3) ⟨?_, ?_, rfl, ?_⟩
      · show nI _ = nI _
        rw [Nat.mod_add_mod, show i + (n - r) + (n - 1) = (i + (n - (r + 1))) + n by omega, Nat.add_mod_right]
      · show nI _ = nI _
        rw [Nat.mod_add_mod, Nat.add_assoc]
      · rw [h5, mfs_step hr, ho]; rfl
  · show nI i = nI _
    rw [Nat.sub_zero, Nat.add_mod_right, Nat.mod_eq_of_lt hi]
  · show nI i = nI _
    rw [Nat.add_zero, Nat.mod_eq_of_lt hi]
