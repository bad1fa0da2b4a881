theorem i_m1 {x : Int32} (h1 : -1000 < x.toInt) (h2 : x.toInt < 1000) : (x - (1 : Int32)).toInt = x.toInt - 1 := by
  rw [Int32.toInt_sub, show (1 : Int32).toInt = 1 by decide]
  apply Int.bmod_eq_of_le <;> omega
theorem i_add {x y : Int32} (h1 : -1000 < x.toInt) (h2 : x.toInt < 1000) (h3 : -1000 < y.toInt) (h4 : y.toInt < 1000) : (x + y).toInt = x.toInt + y.toInt := by
  rw [Int32.toInt_add]
  apply Int.bmod_eq_of_le <;> omega
theorem ne9 : ∀ j : Fin 6, ¬ nI j = (-9 : Int32) := by decide +kernel
theorem ne9' {j : Nat} (h : j < 6) : ¬ nI j = (-9 : Int32) := ne9 ⟨j, h⟩
theorem x3_layBetween {k : Nat} {w : Nat → Nat} {mk : Int32} {fMM : fI} (hM : MK k w mk fMM) {n : Nat} {lab : Nat → Nat} {mp : Int32} {fMB fMR : fI} (hL : PL n lab mp fMB) (hlab : ∀ p, p < n → lab p < k) {fML : fJ} (hD : LD k w fML) {i r : Nat} (hi : i < n) (hr : 2 * r + 1 ≤ n) {post : Int32 → fJ → fI → Prop}
    (hy : mok k w n lab i r = true → ∀ f f2, LD k w f → (∀ j, j < 2 * r + 1 → f2 j = nI (mgl k w n lab i r j)) → post 1 f f2) (hno : mok k w n lab i r = false → ∀ f f2, LD k w f → post 0 f f2) : wp_X3_layBetween (nI i) (nI r) mk mp fMM fML fMR fMB post := by
  have hM0 := hM
  obtain ⟨hk1, hk6, rfl, hw, hm⟩ := hM
  obtain ⟨h3, h60, rfl, hl⟩ := hL
  intro v5 e5
  have e5 : v5 = nI (2 * r + 1) := by rw [e5, show (2 : Int32) = nI 2 from rfl, pk_mul, rt_inc]
  subst e5
  by_cases q : 2 * r + 1 = n
  · refine ⟨fun z => absurd (by rw [q]) z, fun _ => x3_layRing hM0 (by omega) (by omega) ?_ ?_⟩
    · intro a ha hra _ f f2 hf hf2
      refine ⟨Or.inr rfl, hy ?_ f f2 hf (fun j hj => ?_)⟩
      · unfold mok
        rw [if_pos q]
        rw [q] at hra
        simp [hra, ha]
      · rw [hf2 j hj]
        unfold mgl
        rw [if_pos q, ← hra, q]
    · intro hk f hf
      refine ⟨Or.inl rfl, hno ?_ f fMR hf⟩
      unfold mok
      rw [if_pos q]
      rw [q] at hk
      simp [hk]
  · refine ⟨fun _ => ?_, fun z => absurd ((nI_eq (by omega) (by omega)).mp z) q⟩
    have t1 : (nI i - nI r).toInt = (i : Int) - r := pk_sub_toInt (by omega) (by omega)
    have t2 : (nI i - nI r - (1 : Int32)).toInt = (i : Int) - r - 1 := by rw [i_m1 (by omega) (by omega), t1]
    refine x3_placeZ h3 h60 (by omega) (by omega) ?_
    have ei : ((nI i - nI r - (1 : Int32)).toInt + n).toNat % n = (i + (n - r) + (n - 1)) % n := by
      rw [t2, show ((i : Int) - r - 1 + n).toNat = i + (n - r) - 1 by omega, show i + (n - r) + (n - 1) = (i + (n - r) - 1) + n by omega, Nat.add_mod_right]
    rw [ei]
    have m5 := mlt (p := i + (n - r) + (n - 1)) h3
    have m6 := mlt (p := i + r + 1) h3
    refine ⟨vp_in_nI (by omega) (by decide), fun v34 e34 => ?_⟩
    rw [rt_cl (by omega), hl _ m5] at e34
    subst e34
    rw [nI_add, rt_inc]
    refine x3_placeN h3 h60 (by omega) ⟨vp_in_nI (by omega) (by decide), fun v50 e50 => ?_⟩
    rw [rt_cl (by omega), hl _ m6] at e50
    subst e50
    generalize hA : lab ((i + (n - r) + (n - 1)) % n) = A0
    generalize hE : lab ((i + r + 1) % n) = E0
    have bA : A0 < k := by rw [← hA]; exact hlab _ m5
    have bE : E0 < k := by rw [← hE]; exact hlab _ m6
    have hmok : mok k w n lab i r = (lb k w E0 (2 * r + 2)).testBit A0 := by
      unfold mok
      rw [if_neg q, hA, hE]
    have hmgl : ∀ j, mgl k w n lab i r j = pth k w E0 (2 * r + 2) A0 (j + 1) := by
      intro j
      unfold mgl
      rw [if_neg q, hA, hE]
    unfold wp_X3_layBetween_b55
    intro P hP
    by_cases qm : (lb k w E0 (2 * r + 2)).testBit A0 = true
    · refine rt_up (fun i f => P i f) (2 * r + 1) (fun j f => ∀ q, q < j → f q = nI (pth k w E0 (2 * r + 2) A0 (q + 1))) ?_ ?_ (2 * r + 1) 0 fMR (by omega) (fun q h => by omega)
      · intro f h
        refine hP _ _ (br_t (nI_le (Nat.le_refl _) (by omega)) (hy (by rw [hmok, qm]) fML f hD (fun j hj => ?_)))
        rw [h j hj, hmgl]
      · intro j f hj h ih
        have hpl := pth_lt hk6 hw qm bE (i := j) (by omega)
        have hpo := pth_ok hk6 hw qm bE j (by omega)
        rw [show 2 * r + 2 - j = (2 * r + 1 - j) + 1 by omega] at hpo
        have hne := (lb_back hpo).2
        have go : wp_X3_layBetween_b81 (nI (2 * r + 1)) (nI A0) (nI E0) (nI j) (nI (pth k w E0 (2 * r + 2) A0 j)) (nI k) (nI n) fMM fML f fMB post P := by
          unfold wp_X3_layBetween_b81
          rw [show nI (2 * r + 1) - nI j = nI (2 * r + 1 - j) from pk_sub (by omega)]
          refine x3_next hM0 hD hpl (by omega) bE (fun z => absurd z hne) (fun _ => ?_)
          refine ⟨fun _ => ⟨vp_in_nI (by omega) (by decide), fun f109 e109 v e => ?_⟩, fun z => absurd z (ne9' (Nat.lt_of_le_of_lt (lst_le _) (by decide)))⟩
          rw [e, rt_inc]
          refine ih _ (fun q hq => ?_)
          rw [e109, rt_cl (by omega)]
          by_cases z : q = j
          · subst z
            rw [pk_us, pth, show 2 * r + 2 - (q + 1) = 2 * r + 1 - q by omega]
          · rw [pk_un z]; exact h q (by omega)
        refine hP _ _ (br_f (nI_ge hj (by omega)) ?_)
        by_cases z : j = 0
        · subst z
          exact ⟨fun y => absurd rfl y, fun _ => go⟩
        · refine ⟨fun _ => ?_, fun y => absurd ((rt_nIz (by omega)).mp y) z⟩
          have ej : nI j - (1 : Int32) = nI (j - 1) := pk_sub (b := 1) (by omega)
          rw [ej]
          refine ⟨vp_in_nI (by omega) (by decide), ?_⟩
          rw [rt_cl (by omega), h (j - 1) (by omega), show j - 1 + 1 = j by omega]
          exact go
    · have qm2 : (lb k w E0 (2 * r + 2)).testBit A0 = false := by simpa using qm
      have hz : w A0 &&& lb k w E0 (2 * r + 1) = 0 := by
        rw [show 2 * r + 2 = (2 * r + 1) + 1 by omega, lb, mks_bit] at qm2
        simpa [bA] using qm2
      refine hP (nI 0) _ (br_f (nI_ge (a := 0) (by omega) (by omega)) ⟨fun y => absurd rfl y, fun _ => ?_⟩)
      unfold wp_X3_layBetween_b81
      rw [show nI (2 * r + 1) - nI 0 = nI (2 * r + 1) from pk_sub (Nat.zero_le _)]
      refine x3_next hM0 hD bA (by omega) bE (fun _ => ?_) (fun z => absurd hz z)
      exact ⟨fun z => absurd rfl z, fun _ => hno (by rw [hmok, qm2]) fML fMR hD⟩
theorem x3_mendN {k : Nat} {w : Nat → Nat} {mk : Int32} {fMM : fI} (hM : MK k w mk fMM) {n : Nat} {lab : Nat → Nat} {mp : Int32} {fMB fMR : fI} (hL : PL n lab mp fMB) (hlab : ∀ p, p < n → lab p < k) {fML : fJ} (hD : LD k w fML) {i : Nat} (hi : i < n) {post : Int32 → fJ → fI → fI → Prop}
    (hy : ∀ r, r < (n + 1) / 2 → mfs (mok k w n lab i) ((n + 1) / 2) ((n + 1) / 2) = r → ∀ f f2 f3, PL n (mlab k w n lab i r) mp f3 → post (nI r) f f2 f3)
    (hno : mfs (mok k w n lab i) ((n + 1) / 2) ((n + 1) / 2) = (n + 1) / 2 → ∀ f f2, post (-9) f f2 fMB) : wp_X3_mend_b16 (nI i) (0 : Int32) mk mp fMM fML fMR fMB post := by
  have hL0 := hL
  obtain ⟨h3, h60, rfl, hl⟩ := hL
  generalize hMd : (n + 1) / 2 = M at hy hno
  unfold wp_X3_mend_b16
  intro P hP
  have e2 : ∀ r : Nat, (2 : Int32) * nI r + (1 : Int32) = nI (2 * r + 1) := fun r => by
    rw [show (2 : Int32) = nI 2 from rfl, pk_mul, rt_inc]
  refine rt_up (fun r (s : fJ × fI) => P r s.1 s.2) M (fun r s => LD k w s.1 ∧ mfs (mok k w n lab i) M M = mfs (mok k w n lab i) M (M - r)) ?_ ?_ M 0 (fML, fMR) (by omega) ⟨hD, rfl⟩
  · intro s h
    apply hP
    rw [e2]
    refine br_t (nI_lt (by omega) (by omega)) (hno ?_ _ _)
    rw [h.2, Nat.sub_self]; rfl
  · intro r s hr h ih
    obtain ⟨h1, h2⟩ := h
    apply hP
    rw [e2]
    refine br_f (nI_nlt (by omega) (by omega)) (x3_layBetween hM hL0 hlab h1 hi (by omega) ?_ ?_)
    · intro ho f f2 hf hf2
      refine br_f (by decide) ?_
      unfold wp_X3_mend_b39
      intro P39 hP39
      have er : (2 : Int32) * nI r = nI (2 * r) := pk_mul 2 r
      rw [er] at hP39
      refine rt_up (fun j f3 => P39 j f3) (2 * r + 1) (fun j f3 => ∀ p, p < n → f3 p = nI (pwL n ((i + (n - r)) % n) (mgl k w n lab i r) lab j p)) ?_ ?_ (2 * r + 1) 0 fMB (by omega) hl
      · intro f3 h4
        refine hP39 _ _ (br_t (nI_lt (by omega) (by omega)) (hy r hr ?_ f f2 f3 ⟨h3, h60, rfl, h4⟩))
        rw [h2, mfs_step hr, ho]; rfl
      · intro j f3 hj h4 ih4
        refine hP39 _ _ (br_f (nI_nlt (by omega) (by omega)) ?_)
        have t1 : (nI i - nI r).toInt = (i : Int) - r := pk_sub_toInt (by omega) (by omega)
        have tj : (nI j).toInt = (j : Int) := nI_toInt (by omega)
        have t2 : ((nI i - nI r) + nI j).toInt = (i : Int) - r + j := by rw [i_add (by omega) (by omega) (by omega) (by omega), t1, tj]
        refine x3_placeZ h3 h60 (by omega) (by omega) ?_
        have ei : (((nI i - nI r) + nI j).toInt + n).toNat % n = ((i + (n - r)) % n + j) % n := by
          rw [t2, Nat.mod_add_mod, show ((i : Int) - r + j + n).toNat = i + (n - r) + j by omega]
        rw [ei]
        have mm := mlt (p := (i + (n - r)) % n + j) h3
        refine ⟨vp_in_nI (by omega) (by decide), vp_in_nI (by omega) (by decide), fun f65 e65 v e => ?_⟩
        rw [e, rt_inc]
        refine ih4 _ (fun p hp2 => ?_)
        rw [e65, rt_cl (by omega), rt_cl (by omega), hf2 j hj]
        show _ = nI (if p = ((i + (n - r)) % n + j) % n then mgl k w n lab i r j else pwL n ((i + (n - r)) % n) (mgl k w n lab i r) lab j p)
        by_cases z : p = ((i + (n - r)) % n + j) % n
        · rw [if_pos z, z, pk_us]
        · rw [if_neg z, pk_un z]; exact h4 p hp2
    · intro ho f f2 hf
      refine br_t rfl (fun v e => ?_)
      rw [e, rt_inc]
      refine ih (f, f2) ⟨hf, ?_⟩
      rw [h2, mfs_step hr, ho]; rfl
theorem pwL_all {n : Nat} {g lab : Nat → Nat} : ∀ j, j ≤ n → ∀ p, p < n → pwL n 0 g lab j p = if p < j then g p else lab p
  | 0, _, p, _ => by simp [pwL]
  | j + 1, hj, p, hp => by
    have ih := pwL_all (g := g) (lab := lab) j (by omega) p hp
    show (if p = (0 + j) % n then g j else pwL n 0 g lab j p) = _
    rw [Nat.zero_add, Nat.mod_eq_of_lt (by omega)]
    by_cases q : p = j
    · subst q; rw [if_pos rfl, if_pos (by omega)]
    · rw [if_neg q, ih]
      by_cases z : p < j
      · rw [if_pos z, if_pos (by omega)]
      · rw [if_neg z, if_neg (by omega)]
theorem x3_freshN {n : Nat} {lab g : Nat → Nat} {mk mp : Int32} {fMM fMR fMB : fI} {fML : fJ} (hL : PL n lab mp fMB) (hg : ∀ p, p < n → fMR p = nI (g p)) {post : Int32 → fJ → fI → fI → Prop} (hp : ∀ f, PL n g mp f → post 1 fML fMR f) : wp_X3_fresh_b16 (0 : Int32) mk mp fMM fML fMR fMB post := by
  obtain ⟨h3, h60, rfl, hl⟩ := hL
  unfold wp_X3_fresh_b16
  intro P hP
  refine rt_up (fun i f => P i f) n (fun i f => ∀ p, p < i → f p = nI (g p)) ?_ ?_ n 0 fMB (by omega) (fun p h => by omega)
  · intro f h
    exact hP _ _ (br_t (nI_le (Nat.le_refl _) (by omega)) (hp f ⟨h3, h60, rfl, h⟩))
  · intro i f hi h ih
    refine hP _ _ (br_f (nI_ge hi (by omega)) ⟨vp_in_nI (by omega) (by decide), vp_in_nI (by omega) (by decide), fun f35 e35 v e => ?_⟩)
    rw [e, rt_inc]
    refine ih _ (fun p hp2 => ?_)
    rw [e35, rt_cl (by omega), hg i hi]
    by_cases z : p = i
    · subst z; rw [pk_us]
    · rw [pk_un z]; exact h p (by omega)
theorem x3_likes {n : Nat} {num : Nat → Nat} {mk mp : Int32} {fMN : fI} (hN : PL n num mp fMN) (hB : B30 n num) {post : Int32 → Prop} (hp : post (nI (lik n num))) : wp_X3_likes mk mp fMN post := by
  obtain ⟨h3, h60, rfl, hl⟩ := hN
  unfold wp_X3_likes wp_X3_likes_b4
  intro P hP
  refine rt_up (fun i (x : Int32) => P x i) n (fun i x => x = nI (ctb (fun p => decide (num p = num ((p + 1) % n))) i)) ?_ ?_ n 0 _ (by omega) rfl
  · intro x h
    refine hP _ _ (br_t (nI_le (Nat.le_refl _) (by omega)) ?_)
    rw [h]; exact hp
  · intro i x hi h ih
    have hm := mlt (p := i + 1) h3
    refine hP _ _ (br_f (nI_ge hi (by omega)) ⟨vp_in_nI (by omega) (by decide), ?_⟩)
    rw [rt_inc]
    refine x3_placeN h3 h60 (by omega) ⟨vp_in_nI (by omega) (by decide), ?_⟩
    rw [rt_cl (by omega), rt_cl (by omega), hl i hi, hl _ hm]
    have b1 := hB i hi
    have b2 := hB _ hm
    by_cases q : num i = num ((i + 1) % n)
    · refine ⟨fun z => absurd (by rw [q]) z, fun _ v31 e31 v e => ?_⟩
      rw [e]
      apply ih
      rw [e31, h, rt_inc, ctb]
      simp [q]
    · refine ⟨fun _ v31 e31 v e => ?_, fun z => absurd ((nI_eq (by omega) (by omega)).mp z) q⟩
      rw [e]
      apply ih
      rw [e31, rt_z, h, ctb]
      simp [q]
theorem x3_greatest {n : Nat} {num : Nat → Nat} {mk mp : Int32} {fMN : fI} (hN : PL n num mp fMN) (hB : B30 n num) {post : Int32 → Prop} (hp : post (nI (mxs num n))) : wp_X3_greatest mk mp fMN post := by
  obtain ⟨h3, h60, rfl, hl⟩ := hN
  unfold wp_X3_greatest wp_X3_greatest_b4
  intro P hP
  refine rt_up (fun i (x : Int32) => P x i) n (fun i x => x = nI (mxs num i)) ?_ ?_ n 0 _ (by omega) rfl
  · intro x h
    refine hP _ _ (br_t (nI_le (Nat.le_refl _) (by omega)) ?_)
    rw [h]; exact hp
  · intro i x hi h ih
    refine hP _ _ (br_f (nI_ge hi (by omega)) ⟨vp_in_nI (by omega) (by decide), ?_⟩)
    rw [rt_cl (by omega), hl i hi, h]
    have b1 := hB i hi
    have b2 := mxs_lt (num := num) (c := 1073741824) (by decide) i (fun p hp => hB p (by omega))
    by_cases q : num i ≤ mxs num i
    · refine br_t (nI_le q (by omega)) (fun v e => ?_)
      rw [e, rt_inc]
      apply ih
      rw [mxs, Nat.max_eq_left q]
    · refine br_f (nI_ge (by omega) (by omega)) ⟨vp_in_nI (by omega) (by decide), fun v32 e32 v e => ?_⟩
      rw [e, rt_inc]
      apply ih
      rw [e32, mxs, Nat.max_eq_right (by omega)]
theorem x3_lowest {v x : Nat} (h : v ≠ x) (hv : v < 2 ^ 30) (hx : x < 2 ^ 30) {post : Int32 → Prop} (hp : post (nI (shS v x))) : wp_X3_lowest (nI v) (nI x) post := by
  obtain ⟨h1, h2, h3⟩ := ldf_ok h (Nat.le_refl 30) hv hx
  unfold wp_X3_lowest wp_X3_lowest_b2
  intro P hP
  have bits : ∀ p, p < 30 → (((nI v >>> (nI p &&& 31)) &&& (1 : Int32)) = ((nI x >>> (nI p &&& 31)) &&& (1 : Int32)) ↔ v.testBit p = x.testBit p) := by
    intro p hp2
    have m1 : v / 2 ^ p % 2 < 2 := Nat.mod_lt _ (by omega)
    have m2 : x / 2 ^ p % 2 < 2 := Nat.mod_lt _ (by omega)
    rw [rt_shr (by omega) (by omega), rt_shr (by omega) (by omega), rt_par, rt_par, nI_eq (by omega) (by omega), rt_tbm, rt_tbm]
    constructor
    · intro z; rw [z]
    · intro z
      have z : (v / 2 ^ p % 2 = 1) ↔ (x / 2 ^ p % 2 = 1) := by simpa using z
      omega
  have key : ∀ d p, p + d = ldf v x → P (nI p) := by
    intro d
    induction d with
    | zero =>
      intro p hp2
      have e : p = ldf v x := by omega
      subst e
      refine hP _ ⟨fun _ => ?_, fun z => absurd ((bits _ (by omega)).mp z) h2⟩
      rw [rt_shr (by omega) (by omega), rt_par, show (2 : Int32) = nI 2 from rfl, pk_mul, nI_add]
      exact hp
    | succ d ih =>
      intro p hp2
      refine hP _ ⟨fun z => absurd ((bits _ (by omega)).mpr (h3 p (by omega))) z, fun _ v e => ?_⟩
      rw [e, rt_inc]
      exact ih (p + 1) (by omega)
  exact key (ldf v x) 0 (by omega)
theorem x3_goRound {n : Nat} {num : Nat → Nat} {mk mp : Int32} {fMR fMN : fI} (hN : PL n num mp fMN) (hB : B30 n num) (ha : noal n num) {post : fI → fI → Prop} (hp : ∀ f f2, PL n (rnd n num) mp f2 → post f f2) : wp_X3_goRound mk mp fMR fMN post := by
  obtain ⟨h3, h60, rfl, hl⟩ := hN
  unfold wp_X3_goRound wp_X3_goRound_b2
  intro P hP
  refine rt_up (fun i f => P i f) n (fun i f => ∀ p, p < i → f p = nI (rnd n num p)) ?_ ?_ n 0 fMR (by omega) (fun p h => by omega)
  · intro f h
    refine hP _ _ (br_t (nI_le (Nat.le_refl _) (by omega)) ?_)
    unfold wp_X3_goRound_b45
    intro P45 hP45
    refine rt_up (fun i f2 => P45 i f2) n (fun i f2 => ∀ p, p < i → f2 p = nI (rnd n num p)) ?_ ?_ n 0 fMN (by omega) (fun p h => by omega)
    · intro f2 h2
      exact hP45 _ _ (br_t (nI_le (Nat.le_refl _) (by omega)) (hp f f2 ⟨h3, h60, rfl, h2⟩))
    · intro i f2 hi h2 ih
      refine hP45 _ _ (br_f (nI_ge hi (by omega)) ⟨vp_in_nI (by omega) (by decide), vp_in_nI (by omega) (by decide), fun f64 e64 v e => ?_⟩)
      rw [e, rt_inc]
      refine ih _ (fun p hp2 => ?_)
      rw [e64, rt_cl (by omega), h i hi]
      by_cases z : p = i
      · subst z; rw [pk_us]
      · rw [pk_un z]; exact h2 p (by omega)
  · intro i f hi h ih
    have hm := mlt (p := i + 1) h3
    refine hP _ _ (br_f (nI_ge hi (by omega)) ⟨vp_in_nI (by omega) (by decide), ?_⟩)
    rw [rt_inc]
    refine x3_placeN h3 h60 (by omega) ⟨vp_in_nI (by omega) (by decide), ?_⟩
    rw [rt_cl (by omega), rt_cl (by omega), hl i hi, hl _ hm]
    refine x3_lowest (ha i hi) (hB i hi) (hB _ hm) ⟨vp_in_nI (by omega) (by decide), fun f36 e36 v e => ?_⟩
    rw [e]
    refine ih _ (fun p hp2 => ?_)
    rw [e36]
    by_cases z : p = i
    · subst z; rw [pk_us]; rfl
    · rw [pk_un z]; exact h p (by omega)
theorem x3_place_prev {n p : Nat} (h3 : 3 ≤ n) (h60 : n ≤ 60) (hp0 : p < n) {mk : Int32} {post : Int32 → Prop} (hp : post (nI ((p + (n - 1)) % n))) : wp_X3_place (nI p - (1 : Int32)) mk (nI n) post := by
  have tp : (nI p).toInt = (p : Int) := nI_toInt (by omega)
  have t : (nI p - (1 : Int32)).toInt = (p : Int) - 1 := by rw [i_m1 (by omega) (by omega), tp]
  refine x3_placeZ h3 h60 (by omega) (by omega) ?_
  rw [t, show ((p : Int) - 1 + n).toNat = p + (n - 1) by omega]
  exact hp
theorem x3_colours {n : Nat} {num : Nat → Nat} {mk mp : Int32} {fMR fMN : fI} (hN : PL n num mp fMN) (hB : B30 n num) {post : Int32 → fI → fI → Prop} (hs : ¬ noal n num → post (-3) fMR fMN) (hp : noal n num → ∀ f f2, PL n (cfin n (rdj n num (jst n num))) mp f2 → post (nI (jst n num)) f f2) : wp_X3_colours mk mp fMR fMN post := by
  have hN0 := hN
  obtain ⟨h3, h60, rfl, hl⟩ := hN
  refine x3_likes hN0 hB ?_
  have hlk := ctb_le (fun p => decide (num p = num ((p + 1) % n))) n
  by_cases ha : noal n num
  · have hp := hp ha
    have e0 := lik_zero.mpr ha
    rw [e0]
    refine br_t (by decide) ?_
    unfold wp_X3_colours_b12
    intro P hP
    have hj4 : jst n num ≤ 4 := mfs_le _ 4 4 (Nat.le_refl _)
    have key : ∀ d j fr f, j + d = jst n num → PL n (rdj n num j) (nI n) f → P (nI j) fr f := by
      intro d
      induction d with
      | zero =>
        intro j fr f hj hf
        have e : j = jst n num := by omega
        have k := rdj_ok h3 hB ha j
        apply hP
        refine x3_greatest hf k.1 ?_
        have hm : mxs (rdj n num j) n ≤ 5 := by rw [e]; exact jst_ok h3 hB ha
        refine br_t (nI_le (b := 5) hm (by decide)) ?_
        unfold wp_X3_colours_b32
        intro P32 hP32
        have give : ∀ (c : Nat) (X : Nat → Nat) (fX : fI), c < 2 ^ 31 → B30 n X → PL n X (nI n) fX → (∀ fY, PL n (gus n c X n) (nI n) fY → P32 (nI c + (-1 : Int32)) fY) → wp_X3_colours_b39 (nI j) (nI c) (0 : Int32) mk (nI n) fr fX post P32 := by
          intro c X fX hc hX hfX hgo
          unfold wp_X3_colours_b39
          intro P39 hP39
          refine rt_up (fun i f => P39 i f) n (fun i f => ∀ q, q < n → f q = nI (gus n c X i q)) ?_ ?_ n 0 fX (by omega) hfX.2.2.2
          · intro f2 h2
            refine hP39 _ _ (br_t (nI_le (Nat.le_refl _) (by omega)) (fun v ev => ?_))
            rw [ev]
            exact hgo f2 ⟨h3, h60, rfl, h2⟩
          · intro i f2 hi h2 ih2
            have b := gus_lt (c := c) hX i
            have b1 := b i hi
            refine hP39 _ _ (br_f (nI_ge hi (by omega)) ⟨vp_in_nI (by omega) (by decide), ?_⟩)
            rw [rt_cl (by omega), h2 i hi]
            by_cases q : gus n c X i i = c
            · refine ⟨fun z => absurd (by rw [q]) z, fun _ => ?_⟩
              have m1 := mlt (p := i + (n - 1)) h3
              have m2 := mlt (p := i + 1) h3
              have b2 := b _ m1
              have b3 := b _ m2
              unfold wp_X3_colours_b60
              intro P60 hP60
              have fin : ∀ l : Nat, l = lbs (gus n c X i ((i + (n - 1)) % n)) (gus n c X i ((i + 1) % n)) → ∀ f107, f107 = upd f2 i (nI l) → ∀ v, v = nI i + (1 : Int32) → P39 v f107 := by
                intro l el f107 e107 v ev
                rw [ev, rt_inc]
                refine ih2 _ (fun p hp2 => ?_)
                rw [e107]
                show _ = nI (if p = i ∧ gus n c X i i = c then _ else gus n c X i p)
                by_cases z : p = i
                · subst z; rw [pk_us, if_pos ⟨rfl, q⟩, el]
                · rw [pk_un z, if_neg (fun y => z y.1)]; exact h2 p hp2
              have one : ∀ l : Nat, l ≤ 2 → (gus n c X i ((i + (n - 1)) % n) ≠ l → gus n c X i ((i + 1) % n) ≠ l → l = lbs (gus n c X i ((i + (n - 1)) % n)) (gus n c X i ((i + 1) % n))) → ((gus n c X i ((i + (n - 1)) % n) = l ∨ gus n c X i ((i + 1) % n) = l) → P60 (nI l + (1 : Int32))) → P60 (nI l) := by
                intro l hl2 hyes hnext
                apply hP60
                refine x3_place_prev h3 h60 hi ⟨vp_in_nI (by omega) (by decide), ?_⟩
                rw [rt_cl (by omega), h2 _ m1]
                by_cases z1 : gus n c X i ((i + (n - 1)) % n) = l
                · refine br_t (by rw [z1]) (fun v ev => ?_)
                  rw [ev]; exact hnext (Or.inl z1)
                · refine br_f (rt_nIeq (by omega) (by omega) z1) ?_
                  rw [rt_inc]
                  refine x3_placeN h3 h60 (by omega) ⟨vp_in_nI (by omega) (by decide), ?_⟩
                  rw [rt_cl (by omega), h2 _ m2]
                  by_cases z2 : gus n c X i ((i + 1) % n) = l
                  · refine ⟨fun y => absurd (by rw [z2]) y, fun _ v ev => ?_⟩
                    rw [ev]; exact hnext (Or.inr z2)
                  · refine ⟨fun _ => ⟨vp_in_nI (by omega) (by decide), fun f107 e107 v ev => ?_⟩, fun y => absurd ((nI_eq (by omega) (by omega)).mp y) z2⟩
                    exact fin l (hyes z1 z2) f107 (e107.trans (by rw [rt_cl (by omega)])) v (by rw [ev, rt_inc])
              generalize gus n c X i ((i + (n - 1)) % n) = xa at fin one
              generalize gus n c X i ((i + 1) % n) = xb at fin one
              refine one 0 (by omega) (fun y1 y2 => ?_) (fun y => ?_)
              · unfold lbs; rw [if_pos ⟨fun z => y1 z.symm, fun z => y2 z.symm⟩]
              rw [rt_inc]
              refine one 1 (by omega) (fun y1 y2 => ?_) (fun y' => ?_)
              · unfold lbs
                rw [if_neg (by omega), if_pos ⟨fun z => y1 z.symm, fun z => y2 z.symm⟩]
              rw [rt_inc]
              refine one 2 (by omega) (fun y1 y2 => ?_) (fun y'' => ?_)
              · unfold lbs
                rw [if_neg (by omega), if_neg (by omega)]
              · omega
            · refine ⟨fun _ v ev => ?_, fun z => absurd ((nI_eq (by omega) hc).mp z) q⟩
              rw [ev, rt_inc]
              refine ih2 _ (fun p hp2 => ?_)
              show _ = nI (if p = i ∧ gus n c X i i = c then _ else gus n c X i p)
              rw [if_neg (fun y => q y.2)]; exact h2 p hp2
        have k5 := gus_lt (c := 5) k.1 n
        have k4 := gus_lt (c := 4) k5 n
        refine hP32 (nI 5) _ (br_f (by decide) (give 5 _ f (by decide) k.1 hf (fun f5 hf5 => ?_)))
        refine hP32 (nI 4) _ (br_f (by decide) (give 4 _ f5 (by decide) k5 hf5 (fun f4 hf4 => ?_)))
        refine hP32 (nI 3) _ (br_f (by decide) (give 3 _ f4 (by decide) k4 hf4 (fun f3 hf3 => ?_)))
        refine hP32 (nI 2) _ (br_t (by decide) ?_)
        rw [e] at hf3 ⊢
        exact hp fr f3 hf3
      | succ d ih =>
        intro j fr f hj hf
        have k := rdj_ok h3 hB ha j
        apply hP
        refine x3_greatest hf k.1 ?_
        have hm : ¬ mxs (rdj n num j) n ≤ 5 := by
          have := mfs_no (ok := jok n num) (m := 4) (r := j) (by show j < jst n num; omega)
          simpa [jok] using this
        have hb := mxs_lt (num := rdj n num j) (c := 1073741824) (by decide) n k.1
        refine br_f (nI_ge (a := 5) (by omega) (by omega)) (x3_goRound hf k.1 k.2 (fun f1 f2 hf2 v e => ?_))
        rw [e, rt_inc]
        exact ih (j + 1) f1 f2 (by omega) hf2
    exact key (jst n num) 0 fMR fMN (by omega) hN0
  · have e0 : lik n num ≠ 0 := fun z => ha (lik_zero.mp z)
    have hle : lik n num ≤ n := hlk
    exact br_f (nI_nle (by omega) (by omega)) (hs ha)
theorem x3_takeN {n : Nat} {num : Nat → Nat} {mk mp : Int32} {fMB fMN : fI} (hN : PL n num mp fMN) {post : Int32 → fI → Prop} (hp : ∀ f, PL n num mp f → post 1 f) : wp_X3_take_b16 (0 : Int32) mk mp fMB fMN post := by
  obtain ⟨h3, h60, rfl, hl⟩ := hN
  unfold wp_X3_take_b16
  intro P hP
  refine rt_up (fun i f => P i f) n (fun i f => ∀ p, p < i → f p = nI (num p)) ?_ ?_ n 0 fMB (by omega) (fun p h => by omega)
  · intro f h
    exact hP _ _ (br_t (nI_le (Nat.le_refl _) (by omega)) (hp f ⟨h3, h60, rfl, h⟩))
  · intro i f hi h ih
    refine hP _ _ (br_f (nI_ge hi (by omega)) ⟨vp_in_nI (by omega) (by decide), vp_in_nI (by omega) (by decide), fun f35 e35 v e => ?_⟩)
    rw [e, rt_inc]
    refine ih _ (fun p hp2 => ?_)
    rw [e35, rt_cl (by omega), hl i hi]
    by_cases z : p = i
    · subst z; rw [pk_us]
    · rw [pk_un z]; exact h p (by omega)
theorem x3_unlike {g : Nat → Nat} {f : fI} {n : Nat} (hn : n ≤ 60) (hf : ∀ q, q < n → f q = nI (g q) ∧ g q < 2 ^ 31) {mk : Int32} {post : Int32 → Prop} (hp : post (nI (unl g n))) : wp_X3_unlike 60 mk (nI n) f post := by
  unfold wp_X3_unlike wp_X3_unlike_b4
  intro P hP
  refine rt_up (fun i (x : Int32) => P x i) n (fun i x => x = nI (unl g i)) ?_ ?_ n 0 _ (by omega) rfl
  · intro x h
    refine hP _ _ (br_t (nI_le (Nat.le_refl _) (by omega)) ?_)
    rw [h]; exact hp
  · intro i x hi h ih
    refine hP _ _ (br_f (nI_ge hi (by omega)) ?_)
    unfold wp_X3_unlike_b18
    intro P18 hP18
    refine rt_up (fun q (s : Int32) => P18 s q) i (fun q s => s = (if exk (fun q => decide (g q = g i)) q then 0 else 1)) ?_ ?_ i 0 _ (by omega) rfl
    · intro s hs
      refine hP18 _ _ (br_t (nI_le (Nat.le_refl _) (by omega)) ?_)
      rw [hs]
      by_cases q : exk (fun q => decide (g q = g i)) i = true
      · rw [if_pos q]
        refine br_t rfl (fun v64 e64 v e => ?_)
        rw [e, rt_inc]
        apply ih
        rw [e64, rt_z, h, unl, unl, ctb, q]; rfl
      · have q : exk (fun q => decide (g q = g i)) i = false := by simpa using q
        rw [q]
        refine br_f (by decide) (fun v64 e64 v e => ?_)
        rw [e, rt_inc]
        apply ih
        rw [e64, h, rt_inc, unl, unl, ctb, q]; rfl
    · intro q s hq hs ih2
      refine hP18 _ _ (br_f (nI_ge hq (by omega)) ?_)
      rw [hs]
      by_cases z : exk (fun q => decide (g q = g i)) q = true
      · rw [if_pos z]
        refine br_t rfl (fun v e => ?_)
        rw [e, rt_inc]
        refine ih2 0 ?_
        rw [exk, z]; rfl
      · have z : exk (fun q => decide (g q = g i)) q = false := by simpa using z
        rw [z]
        refine br_f (by decide) ⟨vp_in_nI (by omega) (by decide), vp_in_nI (by omega) (by decide), ?_⟩
        have h1 := hf q (by omega)
        have h2 := hf i hi
        rw [rt_cl (by omega), rt_cl (by omega), h1.1, h2.1]
        by_cases y : g q = g i
        · refine br_t (by rw [y]) (fun v e => ?_)
          rw [e, rt_inc]
          refine ih2 0 ?_
          rw [exk, z]; simp [y]
        · refine br_f (rt_nIeq h1.2 h2.2 y) (fun v e => ?_)
          rw [e, rt_inc]
          refine ih2 1 ?_
          rw [exk, z]; simp [y]
theorem ctb6 (g : Nat → Bool) (a : Nat) : ctb g (6 * a + 6) = ctb g (6 * a) + ((if g (6 * a) then 1 else 0) + (if g (6 * a + 1) then 1 else 0) + (if g (6 * a + 2) then 1 else 0) + (if g (6 * a + 3) then 1 else 0) + (if g (6 * a + 4) then 1 else 0) + (if g (6 * a + 5) then 1 else 0)) := by
  show ctb g (6 * a + 1 + 1 + 1 + 1 + 1 + 1) = _
  simp only [ctb]
  omega
theorem pairs_eq {k : Nat} {w : Nat → Nat} (hk6 : k ≤ 6) : ctb (fun j => mb k w (j / 6) (j % 6)) 36 = sm (fun a => pcn (w a)) k := by
  have key : ∀ a, ctb (fun j => mb k w (j / 6) (j % 6)) (6 * a) = sm (fun c => if c < k then pcn (w c) else 0) a := by
    intro a
    induction a with
    | zero => rfl
    | succ a ih =>
      rw [show 6 * (a + 1) = 6 * a + 6 by omega, ctb6, ih, sm]
      simp only [show 6 * a / 6 = a by omega, show 6 * a % 6 = 0 by omega, show (6 * a + 1) / 6 = a by omega, show (6 * a + 1) % 6 = 1 by omega, show (6 * a + 2) / 6 = a by omega, show (6 * a + 2) % 6 = 2 by omega, show (6 * a + 3) / 6 = a by omega, show (6 * a + 3) % 6 = 3 by omega, show (6 * a + 4) / 6 = a by omega, show (6 * a + 4) % 6 = 4 by omega, show (6 * a + 5) / 6 = a by omega, show (6 * a + 5) % 6 = 5 by omega]
      by_cases q : a < k
      · rw [if_pos q]
        unfold mb pcn
        simp only [q, decide_true, Bool.true_and]
        have hb : ∀ b : Bool, (if b = true then 1 else 0) = b.toNat := by intro b; cases b <;> rfl
        simp only [hb]
      · rw [if_neg q]
        unfold mb
        simp [q]
  rw [show (36 : Nat) = 6 * 6 from rfl, key 6, sm_ext (k := k) (g := fun a => pcn (w a)) (fun c hc => by simp [hc]) (fun c hc => by simp [show ¬ c < k by omega]) 6, Nat.min_eq_right hk6]
