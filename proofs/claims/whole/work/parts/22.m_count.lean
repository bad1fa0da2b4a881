def CAP : Nat := 1000000000000000000
def sm (f : Nat → Nat) : Nat → Nat
  | 0 => 0
  | n + 1 => sm f n + f n
theorem sm_le {f : Nat → Nat} {c : Nat} (h : ∀ i, f i ≤ c) : ∀ n, sm f n ≤ n * c
  | 0 => by simp [sm]
  | n + 1 => by
    have h1 := sm_le h n
    have h2 := h n
    rw [sm, Nat.succ_mul]
    omega
def cnt (k : Nat) (w : Nat → Nat) (a : Nat) : Nat → Nat → Nat
  | 0 => fun b => if b = a then 1 else 0
  | t + 1 => fun b => min CAP (sm (fun c => if (w c).testBit b then cnt k w a t c else 0) k)
theorem cnt_le (k : Nat) (w : Nat → Nat) (a t b : Nat) : cnt k w a t b ≤ CAP := by
  cases t with
  | zero =>
    show (if b = a then 1 else 0) ≤ CAP
    by_cases h : b = a <;> simp [h, CAP]
  | succ t => exact Nat.min_le_left _ _
theorem rt_capL {s : Nat} (hs : s < 2 ^ 63) : (if (1000000000000000000 : Int64) < lN s then (1000000000000000000 : Int64) else lN s) = lN (min CAP s) := by
  have h := pk_lLT (a := CAP) (b := s) (by decide) hs
  show (if lN CAP < lN s then lN CAP else lN s) = lN (min CAP s)
  by_cases q : CAP < s
  · rw [if_pos (h.mpr q), Nat.min_eq_left (by omega)]
  · rw [if_neg (fun z => q (h.mp z)), Nat.min_eq_right (by omega)]
theorem x_fillJ {x : Int64} {nA : Nat} {fA : fJ} {post : fJ → Prop} (hn : nA < 2 ^ 31) (hp : ∀ f', (∀ j, j < nA → f' j = x) → post f') : wp_J7_fill_d0a16 x nA fA post := by
  intro v4 e4
  have e4 : v4 = nI nA := e4
  subst e4
  unfold wp_J7_fill_d0a16_b6
  intro P hP
  refine rt_up (fun i f => P i f) nA (fun i f => ∀ j, j < i → f j = x) ?_ ?_ nA 0 fA (by omega) (fun j hj => by omega)
  · intro f h
    exact hP _ _ (br_t (nI_le (Nat.le_refl _) hn) (hp f h))
  · intro i f hi h ih
    refine hP _ _ (br_f (nI_ge hi hn) ⟨vp_in_nI hi hn, fun f15 e15 v e => ?_⟩)
    rw [e, rt_inc]
    refine ih _ (fun j hj => ?_)
    rw [e15, rt_cl (by omega)]
    by_cases q : j = i
    · subst q; rw [pk_uLs]
    · rw [pk_uLn q]; exact h j (by omega)
theorem x_fillI {x : Int32} {nA : Nat} {fA : fI} {post : fI → Prop} (hn : nA < 2 ^ 31) (hp : ∀ f', (∀ j, j < nA → f' j = x) → post f') : wp_J7_fill_53178 x nA fA post := by
  intro v4 e4
  have e4 : v4 = nI nA := e4
  subst e4
  unfold wp_J7_fill_53178_b5
  intro P hP
  refine rt_up (fun i f => P i f) nA (fun i f => ∀ j, j < i → f j = x) ?_ ?_ nA 0 fA (by omega) (fun j hj => by omega)
  · intro f h
    exact hP _ _ (br_t (nI_le (Nat.le_refl _) hn) (hp f h))
  · intro i f hi h ih
    refine hP _ _ (br_f (nI_ge hi hn) ⟨vp_in_nI hi hn, fun f15 e15 v e => ?_⟩)
    rw [e, rt_inc]
    refine ih _ (fun j hj => ?_)
    rw [e15, rt_cl (by omega)]
    by_cases q : j = i
    · subst q; rw [pk_us]
    · rw [pk_un q]; exact h j (by omega)
theorem x1_stepOn {k : Nat} {w : Nat → Nat} {tk : Int32} {fB : fI} {fY fZ : fJ} (hT : TK k w tk fB) {c : Nat → Nat} (hc : ∀ b, c b ≤ CAP) (hY : ∀ b, b < k → fY b = lN (c b)) {post : fJ → fJ → Prop}
    (hp : ∀ f f2, (∀ b, b < k → f b = lN (min CAP (sm (fun a => if (w a).testBit b then c a else 0) k))) → post f f2) : wp_X1_stepOn tk fB fY fZ post := by
  have hT0 := hT
  obtain ⟨hk1, hk6, rfl, hw⟩ := hT
  unfold wp_X1_stepOn wp_X1_stepOn_b2
  intro P hP
  refine rt_up (fun i f => P i f) k (fun b f => ∀ b', b' < b → f b' = lN (min CAP (sm (fun a => if (w a).testBit b' then c a else 0) k))) ?_ ?_ k 0 fZ (by omega) (fun j hj => by omega)
  · intro f h
    refine hP _ _ (br_t (nI_le (Nat.le_refl _) (by omega)) ⟨by decide, by decide, nI_pos (by omega), ?_, ?_, ?_⟩)
    · rw [rt_cl (by omega)]; show 0 + k ≤ 6; omega
    · rw [rt_cl (by omega)]; show 0 + k ≤ 6; omega
    · intro f83 e83
      apply hp
      intro b hb
      rw [e83, rt_cl (by omega)]
      show va_cpy f fY 0 0 k b = _
      rw [pk_cpy_in (Nat.zero_le _) (by omega)]
      show f (0 + (b - 0)) = _
      rw [Nat.zero_add, Nat.sub_zero]
      exact h b hb
  · intro b f hb h ih
    refine hP _ _ (br_f (nI_ge hb (by omega)) ?_)
    unfold wp_X1_stepOn_b15
    intro P15 hP15
    have hle : ∀ i, (fun a => if (w a).testBit b then c a else 0) i ≤ CAP := by
      intro i
      show (if (w i).testBit b then c i else 0) ≤ CAP
      by_cases q : (w i).testBit b = true
      · rw [if_pos q]; exact hc i
      · rw [if_neg q]; exact Nat.zero_le _
    refine rt_up (fun i (x : Int64) => P15 x i) k (fun a x => x = lN (sm (fun a => if (w a).testBit b then c a else 0) a)) ?_ ?_ k 0 _ (by omega) rfl
    · intro x hx
      refine hP15 _ _ (br_t (nI_le (Nat.le_refl _) (by omega)) ⟨vp_in_nI (by omega) (by decide), fun f62 e62 v e => ?_⟩)
      rw [e, rt_inc]
      apply ih
      intro b' hb'
      rw [e62, rt_cl (by omega)]
      by_cases q : b' = b
      · subst q
        have hs := sm_le hle k
        rw [pk_uLs, hx, rt_capL]
        have : k * CAP ≤ 6 * CAP := Nat.mul_le_mul_right _ hk6
        have h6 : 6 * CAP < 2 ^ 63 := by decide
        omega
      · rw [pk_uLn q]; exact h b' (by omega)
    · intro a x ha hx ih2
      refine hP15 _ _ (br_f (nI_ge ha (by omega)) (x1_mayFollow hT0 ha hb ?_))
      by_cases q : (w a).testBit b = true
      · rw [if_pos q]
        refine br_f (by decide) ⟨vp_in_nI (by omega) (by decide), fun v43 e43 v e => ?_⟩
        rw [e, rt_inc]
        apply ih2
        rw [e43, hx, rt_cl (by omega), hY a ha, lN_add, sm]
        simp [q]
      · rw [if_neg q]
        refine br_t rfl (fun v e => ?_)
        rw [e, rt_inc]
        apply ih2
        rw [hx, sm]
        simp [q]
theorem x1_walkCount {k : Nat} {w : Nat → Nat} {tk : Int32} {fB : fI} {fY fZ : fJ} (hT : TK k w tk fB) {a b n : Nat} (ha : a < k) (hb : b < k) (hn : n < 2 ^ 30) {post : Int64 → fJ → fJ → Prop} (hp : ∀ f f2, post (lN (cnt k w a n b)) f f2) : wp_X1_walkCount (nI a) (nI b) (nI n) tk fB fY fZ post := by
  have hT0 := hT
  obtain ⟨hk1, hk6, rfl, hw⟩ := hT
  refine x1_has_yes ha (by omega) (br_f (by decide) (x1_has_yes hb (by omega) ⟨fun _ => ?_, fun z => absurd z (by decide)⟩))
  apply x_fillJ (by decide)
  intro f23 h23
  refine ⟨vp_in_nI (by omega) (by decide), fun f32 e32 => ?_⟩
  unfold wp_X1_walkCount_b36
  intro P hP
  refine rt_up (fun i (s : fJ × fJ) => P i s.1 s.2) n (fun t s => ∀ b, b < k → s.1 b = lN (cnt k w a t b)) ?_ ?_ n 0 (f32, fZ) (by omega) ?_
  · intro s hs
    refine hP _ _ _ (br_t (nI_le (Nat.le_refl _) (by omega)) ⟨vp_in_nI (by omega) (by decide), ?_⟩)
    rw [rt_cl (by omega), hs b hb]
    exact hp _ _
  · intro t s ht hs ih
    refine hP _ _ _ (br_f (nI_ge ht (by omega)) (x1_stepOn hT0 (c := cnt k w a t) (cnt_le k w a t) hs ?_))
    intro f f2 hf v e
    rw [e, rt_inc]
    exact ih (f, f2) hf
  · intro b' hb'
    show f32 b' = _
    rw [e32, rt_cl (by omega)]
    by_cases q : b' = a
    · subst q; rw [pk_uLs]; show (1 : Int64) = lN (if b' = b' then 1 else 0); rw [if_pos rfl]; rfl
    · rw [pk_uLn q, h23 b' (by omega)]; show (0 : Int64) = lN (if b' = a then 1 else 0); rw [if_neg q]; rfl
theorem x1_ringCount {k : Nat} {w : Nat → Nat} {tk : Int32} {fB : fI} {fY fZ : fJ} (hT : TK k w tk fB) {n : Nat} (hn : n < 2 ^ 30) {post : Int64 → fJ → fJ → Prop} (hp : ∀ f f2, post (lN (min CAP (sm (fun a => cnt k w a n a) k))) f f2) : wp_X1_ringCount (nI n) tk fB fY fZ post := by
  have hT0 := hT
  obtain ⟨hk1, hk6, rfl, hw⟩ := hT
  unfold wp_X1_ringCount wp_X1_ringCount_b5
  intro P hP
  refine rt_up (fun i (s : Int64 × fJ × fJ) => P s.1 i s.2.1 s.2.2) k (fun a s => s.1 = lN (sm (fun a => cnt k w a n a) a)) ?_ ?_ k 0 ((0 : Int64), fY, fZ) (by omega) rfl
  · intro s hs
    refine hP _ _ _ _ (br_t (nI_le (Nat.le_refl _) (by omega)) ?_)
    have h1 := sm_le (f := fun a => cnt k w a n a) (fun a => cnt_le k w a n a) k
    have h2 : k * CAP ≤ 6 * CAP := Nat.mul_le_mul_right _ hk6
    have h6 : 6 * CAP < 2 ^ 63 := by decide
    rw [hs, rt_capL (by omega)]
    exact hp _ _
  · intro a s ha hs ih
    refine hP _ _ _ _ (br_f (nI_ge ha (by omega)) (x1_walkCount hT0 ha ha hn ?_))
    intro f f2 v25 e25 v e
    rw [e, rt_inc]
    refine ih (v25, f, f2) ?_
    show v25 = _
    rw [e25, hs, lN_add, sm]
/-! blocks -/
def orr (f : Nat → Nat) (S : Nat) : Nat → Nat
  | 0 => S
  | n + 1 => orr f S n ||| f n
def rch (k : Nat) (w : Nat → Nat) (a : Nat) : Nat → Nat
  | 0 => 2 ^ a
  | j + 1 => orr (fun b => if (rch k w a j).testBit b then w b else 0) (rch k w a j) k
theorem orr_lt {f : Nat → Nat} {S m : Nat} (hS : S < 2 ^ m) : ∀ n, (∀ b, b < n → f b < 2 ^ m) → orr f S n < 2 ^ m
  | 0, _ => hS
  | n + 1, h => Nat.or_lt_two_pow (orr_lt hS n (fun b hb => h b (by omega))) (h n (by omega))
theorem rch_lt {k : Nat} {w : Nat → Nat} (hw : ∀ a, a < k → w a < 2 ^ k) {a : Nat} (ha : a < k) : ∀ j, rch k w a j < 2 ^ k
  | 0 => Nat.pow_lt_pow_right (by omega) ha
  | j + 1 => by
    refine orr_lt (rch_lt hw ha j) k (fun b hb => ?_)
    show (if (rch k w a j).testBit b then w b else 0) < 2 ^ k
    have hp : 0 < 2 ^ k := Nat.two_pow_pos k
    by_cases q : (rch k w a j).testBit b = true
    · rw [if_pos q]; exact hw b hb
    · rw [if_neg q]; exact hp
theorem x1_reachedFrom {k : Nat} {w : Nat → Nat} {tk : Int32} {fB : fI} (hT : TK k w tk fB) {a : Nat} (ha : a < k) {post : Int32 → Prop} (hp : post (nI (rch k w a (k - 1)))) : wp_X1_reachedFrom (nI a) tk fB post := by
  obtain ⟨hk1, hk6, rfl, hw⟩ := hT
  have hw1 : ∀ a, a < k → w a < 2 ^ k := fun a h => (hw a h).1
  intro v3 e3
  rw [rt_one' (by omega)] at e3
  subst e3
  unfold wp_X1_reachedFrom_b6
  intro P hP
  refine rt_up (fun i (S : Int32) => P S i) k (fun i S => 1 ≤ i ∧ S = nI (rch k w a (i - 1))) ?_ ?_ (k - 1) 1 (nI (2 ^ a)) (by omega) ⟨Nat.le_refl _, rfl⟩
  · intro S hS
    refine hP _ _ (br_t (nI_le (Nat.le_refl _) (by omega)) ?_)
    rw [hS.2]; exact hp
  · intro i S hi hS ih
    obtain ⟨h1, h2⟩ := hS
    subst h2
    refine hP _ _ (br_f (nI_ge hi (by omega)) ?_)
    unfold wp_X1_reachedFrom_b20
    intro P20 hP20
    have hr := rch_lt hw1 ha (i - 1)
    refine rt_up (fun b (g : Int32) => P20 g b) k (fun b g => g = nI (orr (fun b => if (rch k w a (i - 1)).testBit b then w b else 0) (rch k w a (i - 1)) b)) ?_ ?_ k 0 _ (by omega) rfl
    · intro g hg
      refine hP20 _ _ (br_t (nI_le (Nat.le_refl _) (by omega)) (fun v e => ?_))
      rw [e, rt_inc]
      refine ih g ⟨by omega, ?_⟩
      rw [hg]
      obtain ⟨i', rfl⟩ : ∃ i', i = i' + 1 := ⟨i - 1, by omega⟩
      rfl
    · intro b g hb hg ih2
      refine hP20 _ _ (br_f (nI_ge hb (by omega)) (x1_holds (p64 hk6 hr) (by omega) ?_))
      by_cases q : (rch k w a (i - 1)).testBit b = true
      · rw [if_pos q]
        refine br_f (by decide) ⟨vp_in_nI (by omega) (by decide), fun v48 e48 v e => ?_⟩
        rw [e, rt_inc]
        apply ih2
        rw [e48, hg, rt_cl (by omega), (hw b hb).2, rt_or, orr, if_pos q]
      · rw [if_neg q]
        refine br_t rfl (fun v e => ?_)
        rw [e, rt_inc]
        apply ih2
        rw [hg, orr, if_neg q, Nat.or_zero]
def ob (k : Nat) (w : Nat → Nat) (a b : Nat) : Bool := (rch k w a (k - 1)).testBit b && (rch k w b (k - 1)).testBit a
def lobf (k : Nat) (w : Nat → Nat) (a : Nat) : Nat → Nat
  | 0 => a
  | d + 1 => if ob k w a (a - (d + 1)) then a - (d + 1) else lobf k w a d
def lob (k : Nat) (w : Nat → Nat) (a : Nat) : Nat := lobf k w a a
theorem lobf_le (k : Nat) (w : Nat → Nat) (a : Nat) : ∀ d, lobf k w a d ≤ a
  | 0 => Nat.le_refl _
  | d + 1 => by
    rw [lobf]
    have h := lobf_le k w a d
    split <;> omega
theorem x1_leastOfBlock {k : Nat} {w : Nat → Nat} {tk : Int32} {fB : fI} (hT : TK k w tk fB) {a : Nat} (ha : a < k) {post : Int32 → Prop} (hp : post (nI (lob k w a))) : wp_X1_leastOfBlock (nI a) tk fB post := by
  have hT0 := hT
  obtain ⟨hk1, hk6, rfl, hw⟩ := hT
  have hw1 : ∀ a, a < k → w a < 2 ^ k := fun a h => (hw a h).1
  apply x1_reachedFrom hT0 ha
  unfold wp_X1_leastOfBlock_b8
  intro P hP
  refine rt_up (fun i (_ : Unit) => P i) a (fun b _ => lob k w a = lobf k w a (a - b)) ?_ ?_ a 0 () (by omega) rfl
  · intro _ h
    refine hP _ (br_t (nI_le (Nat.le_refl _) (by omega)) ?_)
    rw [h, Nat.sub_self] at hp
    exact hp
  · intro b _ hb h ih
    have e : lobf k w a (a - b) = if ob k w a b then b else lobf k w a (a - (b + 1)) := by
      obtain ⟨d, hd⟩ : ∃ d, a - b = d + 1 := ⟨a - b - 1, by omega⟩
      rw [hd, lobf, show a - (d + 1) = b by omega, show a - (b + 1) = d by omega]
    refine hP _ (br_f (nI_ge hb (by omega)) (x1_holds (p64 hk6 (rch_lt hw1 ha _)) (by omega) ?_))
    by_cases q : (rch k w a (k - 1)).testBit b = true
    · rw [if_pos q]
      refine br_f (by decide) (x1_reachedFrom hT0 (by omega) (x1_holds (p64 hk6 (rch_lt hw1 (by omega) _)) (by omega) ?_))
      by_cases q2 : (rch k w b (k - 1)).testBit a = true
      · rw [if_pos q2]
        refine br_f (by decide) ?_
        rw [h, e, ob, q, q2] at hp
        exact hp
      · rw [if_neg q2]
        refine br_t rfl (fun v ev => ?_)
        rw [ev, rt_inc]
        refine ih () ?_
        rw [h, e, ob, q]
        simp [q2]
    · rw [if_neg q]
      refine br_t rfl (fun v ev => ?_)
      rw [ev, rt_inc]
      refine ih () ?_
      rw [h, e, ob]
      simp [q]
