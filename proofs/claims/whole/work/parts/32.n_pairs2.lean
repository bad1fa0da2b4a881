section JJ2
variable {pk : Int32} {fL fN : fI} {tk : Int32} {fB fWK fRE : fI} {fY fZ : fJ} {mk mp : Int32} {fMM : fI} {fML fMY fMT : fJ} {fMR fMB fMN : fI}
theorem pwL_lt {n st : Nat} {g lab : Nat → Nat} {c : Nat} (h1 : ∀ p, p < n → lab p < c) : ∀ j, (∀ i, i < j → g i < c) → ∀ p, p < n → pwL n st g lab j p < c
  | 0, _, p, hp => h1 p hp
  | j + 1, hg, p, hp => by
    show (if p = (st + j) % n then g j else pwL n st g lab j p) < c
    by_cases z : p = (st + j) % n
    · rw [if_pos z]; exact hg j (by omega)
    · rw [if_neg z]; exact pwL_lt h1 j (fun i hi => hg i (by omega)) p hp
theorem rst_ok {k : Nat} {w : Nat → Nat} {n : Nat} : ∀ d, d ≤ k → rst k w n d < k → (lb k w (rst k w n d) n).testBit (rst k w n d) = true
  | 0, _, h => absurd h (by show ¬ k < k; omega)
  | d + 1, hd, h => by
    rw [rst] at h ⊢
    by_cases q : (lb k w (k - (d + 1)) n).testBit (k - (d + 1)) = true
    · rw [if_pos q]; exact q
    · rw [if_neg q] at h ⊢
      exact rst_ok d (by omega) h
theorem mgl_lt {k : Nat} {w : Nat → Nat} (hk6 : k ≤ 6) (hw : ∀ a, a < k → w a < 2 ^ k) {n : Nat} (h3 : 3 ≤ n) {lab : Nat → Nat} (hlab : ∀ p, p < n → lab p < k) {i r : Nat} (hm : mok k w n lab i r = true) {j : Nat} (hj : j < 2 * r + 1) : mgl k w n lab i r j < k := by
  unfold mok at hm
  unfold mgl
  by_cases q : 2 * r + 1 = n
  · rw [if_pos q] at hm ⊢
    have hm : rst k w n k < k := by simpa using hm
    exact pth_lt hk6 hw (rst_ok k (Nat.le_refl _) hm) hm (by omega)
  · rw [if_neg q] at hm ⊢
    exact pth_lt hk6 hw hm (hlab _ (mlt h3)) (by omega)
theorem J_mend (hI : IX pk fL fN tk fB mk mp fMM fMB fMN) {x : Int32} {V : Prop} (hV : V) {Kn : fI → fI → fI → fJ → fI → fI → Prop} {Kb : Int32 → fI → fI → fI → Int32 → fJ → fI → fI → Prop}
    (hK : ∀ a b c d e f, IX pk a fN tk fB mk mp fMM f fMN → Kn a b c d e f) :
    wp_X2_mend x pk fL tk fB fWK fRE (fun r a b c => V ∧ wp_X3_mend x mk mp fMM fML fMR fMB (fun r' d e f => (r = r' → Kn a b c d e f) ∧ (¬ r = r' → Kb r a b c r' d e f))) := by
  obtain ⟨k, n, w, lab, num, hT, hL, hN, hM, hL', hN', hlab, hB⟩ := id hI
  have el := hL.2.2.1
  have el' := hL'.2.2.1
  have b3 := hL.1
  have b4 := hL.2.1
  have hk6 := hT.2.1
  have hw := hM.2.2.2.1
  subst el el'
  rcases pk_ix' x (show n < 2 ^ 31 by omega) with h | ⟨p, hp, rfl⟩
  · exact x0_has_no h (br_t rfl ⟨hV, x3_isPost_no (by omega) (by omega) h ⟨fun z => absurd rfl z, fun _ => br_t rfl (hK _ _ _ _ _ _ hI)⟩⟩)
  · refine x0_has_yes hp (by omega) (br_f (by decide) (x0_mendAround hT hL hlab hp ?_ ?_))
    · intro r hr hrr f f2 f3 hf
      refine ⟨hV, x3_isPost_yes hp (by omega) ⟨fun _ => x3_layLeads hM (fun g hD => x3_mendN hM hL' hlab hD hp ?_ ?_), fun z => absurd z (by decide)⟩⟩
      · intro r' hr' hrr' g1 g2 g3 hg
        have e : r' = r := by omega
        subst e
        have hmk : mok k w n lab p r' = true := by
          have := mfs_yes (ok := mok k w n lab p) (m := (n + 1) / 2) (by omega)
          rw [hrr] at this; exact this
        exact br_t rfl (hK _ _ _ _ _ _ ⟨k, n, w, mlab k w n lab p r', num, hT, hf, hN, hM, hg, hN', pwL_lt hlab _ (fun j hj => mgl_lt hk6 hw b3 hlab hmk hj), hB⟩)
      · intro hk; omega
    · intro hk f2 f3
      refine ⟨hV, x3_isPost_yes hp (by omega) ⟨fun _ => x3_layLeads hM (fun g hD => x3_mendN hM hL' hlab hD hp ?_ ?_), fun z => absurd z (by decide)⟩⟩
      · intro r' hr' hrr'; omega
      · intro _ g1 g2
        exact br_t rfl (hK _ _ _ _ _ _ hI)
theorem J_fresh (hI : IX pk fL fN tk fB mk mp fMM fMB fMN) {Kn : fI → fI → fI → fJ → fI → fI → Prop} {Kb : Int32 → fI → fI → fI → Int32 → fJ → fI → fI → Prop}
    (hK : ∀ a b c d e f, IX pk a fN tk fB mk mp fMM f fMN → Kn a b c d e f) :
    wp_X2_fresh pk fL tk fB fWK fRE (fun r a b c => wp_X3_fresh mk mp fMM fML fMR fMB (fun r' d e f => (r = r' → Kn a b c d e f) ∧ (¬ r = r' → Kb r a b c r' d e f))) := by
  obtain ⟨k, n, w, lab, num, hT, hL, hN, hM, hL', hN', hlab, hB⟩ := id hI
  have el := hL.2.2.1
  have el' := hL'.2.2.1
  have b3 := hL.1
  have b4 := hL.2.1
  have hk6 := hT.2.1
  have hw := hM.2.2.2.1
  subst el el'
  refine x1_findRing hT b4 ?_ ?_
  · intro a ha hra hb f f2 hf
    refine ⟨fun _ => x0_putWalk hL (st := 0) (skip := 0) (g := fun j => pth k w a n a j) (by omega) (by omega) (fun j hj => by rw [Nat.zero_add]; exact hf j (by omega)) (fun f3 hf3 => ?_), fun z => absurd z (by decide)⟩
    refine x3_layRing hM (by omega) b4 ?_ ?_
    · intro a' ha' hra' hb' g g2 hg hg2
      have e : a' = a := by omega
      subst e
      refine ⟨fun _ => x3_freshN hL' hg2 (fun g3 hg3 => br_t rfl (hK _ _ _ _ _ _ ⟨k, n, w, fun p => pth k w a' n a' p, num, hT, ⟨b3, b4, rfl, fun p hp => ?_⟩, hN, hM, hg3, hN', fun p hp => pth_lt hk6 hw hb ha (by omega), hB⟩)), fun z => absurd z (by decide)⟩
      rw [hf3.2.2.2 p hp, pwL_all n (Nat.le_refl _) p hp, if_pos hp]
    · intro hk; omega
  · intro hk f2
    refine ⟨fun z => absurd rfl z, fun _ => x3_layRing hM (by omega) b4 ?_ ?_⟩
    · intro a' ha' hra'; omega
    · intro _ g hg
      exact ⟨fun z => absurd rfl z, fun _ => br_t rfl (hK _ _ _ _ _ _ hI)⟩
theorem J_number (hI : IX pk fL fN tk fB mk mp fMM fMB fMN) {x y : Int32} {V V2 : Prop} (hV : V) (hV2 : V2) {Kn : fI → fI → Prop} {Kb : Int32 → fI → Int32 → fI → Prop}
    (hK : ∀ a b, IX pk fL a tk fB mk mp fMM fMB b → Kn a b) :
    wp_X2_number x y pk fN (fun r a => V ∧ (V2 ∧ wp_X3_number x y mk mp fMN (fun r' b => (r = r' → Kn a b) ∧ (¬ r = r' → Kb r a r' b)))) := by
  obtain ⟨k, n, w, lab, num, hT, hL, hN, hM, hL', hN', hlab, hB⟩ := id hI
  have el := hL.2.2.1
  have el' := hL'.2.2.1
  have b3 := hL.1
  have b4 := hL.2.1
  have same := hK fN fMN hI
  subst el el'
  rcases pk_ix' x (show n < 2 ^ 31 by omega) with h | ⟨p, hp, rfl⟩
  · exact x0_has_no h ⟨fun z => absurd rfl z, fun _ => ⟨hV, hV2, x3_isPost_no (by omega) (by omega) h ⟨fun z => absurd rfl z, fun _ => br_t rfl same⟩⟩⟩
  · refine x0_has_yes hp (by omega) ⟨fun _ => ?_, fun z => absurd z (by decide)⟩
    rcases rt_rng y 0 1000000000 (by decide) (by decide) with ⟨a, -, ha, rfl⟩ | h
    · refine br_f (nI_pos (by omega)) (br_t (nI_le (b := 1000000000) ha (by decide)) ⟨vp_in_nI (by omega) (by decide), fun v35 e35 => ⟨vp_in_nI (by omega) (by decide), fun f45 e45 => ⟨hV, hV2, x3_isPost_yes hp (by omega) ⟨fun _ => x3_in_yes (lo := 0) (hi := 1000000000) (Nat.zero_le _) ha (by decide) ⟨fun _ => ⟨vp_in_nI (by omega) (by decide), fun v29 e29 => ⟨vp_in_nI (by omega) (by decide), fun f36 e36 => br_t ?_ (hK _ _ ?_)⟩⟩, fun z => absurd z (by decide)⟩, fun z => absurd z (by decide)⟩⟩⟩⟩)
      · rw [e35, e29, rt_cl (by omega), hN.2.2.2 p hp, hN'.2.2.2 p hp]
      · rw [rt_cl (by omega)] at e45 e36
        subst e45 e36
        refine ⟨k, n, w, lab, fun q => if q = p then a else num q, hT, hL, PL_upd hN p a, hM, hL', PL_upd hN' p a, hlab, fun q hq => ?_⟩
        show (if q = p then a else num q) < 1073741824
        by_cases z : q = p
        · rw [if_pos z]; omega
        · rw [if_neg z]; exact hB q hq
    · have go : V ∧ (V2 ∧ wp_X3_number (nI p) y mk (nI n) fMN (fun r' b => ((-2 : Int32) = r' → Kn fN b) ∧ (¬ (-2 : Int32) = r' → Kb (-2) fN r' b))) :=
        ⟨hV, hV2, x3_isPost_yes hp (by omega) ⟨fun _ => x3_in_no h ⟨fun z => absurd rfl z, fun _ => br_t rfl same⟩, fun z => absurd z (by decide)⟩⟩
      refine ⟨fun _ => go, fun z => ⟨fun z2 => ?_, fun _ => go⟩⟩
      exfalso
      rcases h with h | h
      · exact z h
      · rw [i_lt] at h
        rw [i_le] at z2
        exact absurd h (by rw [show (1000000000 : Int32) = nI 1000000000 from rfl] at z2; omega)
theorem J_round (hI : IX pk fL fN tk fB mk mp fMM fMB fMN) {Kn : fI → fI → fI → Prop} {Kb : Int32 → fI → Int32 → fI → fI → Prop}
    (hK : ∀ a b c, IX pk fL a tk fB mk mp fMM fMB c → Kn a b c) :
    wp_X2_round pk fN (fun r a => wp_X3_round mk mp fMR fMN (fun r' b c => (r = r' → Kn a b c) ∧ (¬ r = r' → Kb r a r' b c))) := by
  obtain ⟨k, n, w, lab, num, hT, hL, hN, hM, hL', hN', hlab, hB⟩ := id hI
  have b3 := hL.1
  have b4 := hL.2.1
  refine x0_likeNeighbours hN hB ?_
  have hlk : lik n num ≤ n := ctb_le _ _
  by_cases ha : noal n num
  · have e0 := lik_zero.mpr ha
    rw [e0]
    have hB2 := (rdj_ok b3 hB ha 1).1
    refine br_t (by decide) (x0_doRound hN hB ha (fun f hf => x0_greatestNumber hf hB2 (x3_likes hN' hB ?_)))
    rw [e0]
    exact br_t (by decide) (x3_goRound hN' hB ha (fun g g2 hg => x3_greatest hg hB2 (br_t rfl (hK _ _ _ ⟨k, n, w, lab, rnd n num, hT, hL, hf, hM, hL', hg, hlab, hB2⟩))))
  · have e0 : lik n num ≠ 0 := fun z => ha (lik_zero.mp z)
    exact br_f (nI_nle (by omega) (by omega)) (x3_likes hN' hB (br_f (nI_nle (by omega) (by omega)) (br_t rfl (hK _ _ _ hI))))
theorem cfin_lt {n : Nat} {num : Nat → Nat} (hB : B30 n num) : B30 n (cfin n num) := gus_lt (gus_lt (gus_lt hB n) n) n
theorem J_colours (hI : IX pk fL fN tk fB mk mp fMM fMB fMN) {Kn : fI → fI → fI → Prop} {Kb : Int32 → fI → Int32 → fI → fI → Prop}
    (hK : ∀ a b c, IX pk fL a tk fB mk mp fMM fMB c → Kn a b c) :
    wp_X2_colours pk fN (fun r a => wp_X3_colours mk mp fMR fMN (fun r' b c => (r = r' → Kn a b c) ∧ (¬ r = r' → Kb r a r' b c))) := by
  obtain ⟨k, n, w, lab, num, hT, hL, hN, hM, hL', hN', hlab, hB⟩ := id hI
  have b3 := hL.1
  refine x2_colours hN hB (fun hna => ?_) (fun ha f hf => ?_)
  · exact x3_colours hN' hB (fun _ => br_t rfl (hK _ _ _ hI)) (fun ha => absurd ha hna)
  · refine x3_colours hN' hB (fun hna => absurd ha hna) (fun _ g g2 hg => br_t rfl (hK _ _ _ ⟨k, n, w, lab, _, hT, hL, hf, hM, hL', hg, hlab, cfin_lt (rdj_ok b3 hB ha _).1⟩))
theorem J_take (hI : IX pk fL fN tk fB mk mp fMM fMB fMN) {Kn : fI → fI → Prop} {Kb : Int32 → fI → Int32 → fI → Prop}
    (hK : ∀ a b, IX pk a fN tk fB mk mp fMM b fMN → Kn a b) :
    wp_X2_take pk fL fN tk (fun r a => wp_X3_take mk mp fMB fMN (fun r' b => (r = r' → Kn a b) ∧ (¬ r = r' → Kb r a r' b))) := by
  obtain ⟨k, n, w, lab, num, hT, hL, hN, hM, hL', hN', hlab, hB⟩ := id hI
  have et := hT.2.2.1
  have em := hM.2.2.1
  have hk6 := hT.2.1
  have same := hK fL fMB hI
  subst et em
  have hb := mxs_lt (num := num) (c := 1073741824) (by decide) n hB
  refine x0_greatestNumber hN hB ?_
  by_cases q : mxs num n < k
  · refine br_t (nI_lt q (by omega)) (x0_takeNumbers hN (fun f hf => x3_greatest hN' hB (br_t (nI_lt q (by omega)) (x3_takeN hN' (fun g hg => br_t rfl (hK _ _ ⟨k, n, w, num, num, hT, hf, hN, hM, hg, hN', fun p hp => ?_, hB⟩))))))
    have := mxs_ge (num := num) n p hp
    omega
  · exact br_f (nI_nlt (by omega) (by omega)) (x3_greatest hN' hB (br_f (nI_nlt (by omega) (by omega)) (br_t rfl same)))
theorem J_count (hI : IX pk fL fN tk fB mk mp fMM fMB fMN) {x : Int32} {V : Prop} (hV : V) {Kn : Prop} {Kb : Int32 → Int32 → Prop} (hK : Kn) :
    wp_X2_count x pk fL fN tk fB (fun r => V ∧ wp_X3_count x mk mp fMM fMB fMN (fun r' => (r = r' → Kn) ∧ (¬ r = r' → Kb r r'))) := by
  obtain ⟨k, n, w, lab, num, hT, hL, hN, hM, hL', hN', hlab, hB⟩ := id hI
  have hM0 := hM
  have et := hT.2.2.1
  have el := hL.2.2.1
  have el' := hL'.2.2.1
  have b4 := hL.2.1
  have hk6 := hT.2.1
  obtain ⟨h1, -, rfl, hw2, hm⟩ := hM
  subst et el el'
  have side : ∀ {post : Int32 → Prop}, ((x.toInt < 0 ∨ 5 < x.toInt → post (-2)) ∧ (x = 0 → post (nI k)) ∧ (x = 1 → post (nI (sm (fun a => pcn (w a)) k))) ∧ (x = 2 → post (nI n)) ∧ (x = 3 → post (nI (unl num n))) ∧ (x = 4 → post (nI (lik n num))) ∧ (x = 5 → post (nI (unl lab n)))) → wp_X3_count x (nI k) (nI n) fMM fMB fMN post := by
    intro post hp
    unfold wp_X3_count wp_X3_count_b4
    intro P hP
    refine rt_up (fun i (s : Int32) => P s i) 36 (fun i s => s = nI (ctb (fun j => mb k w (j / 6) (j % 6)) i)) ?_ ?_ 36 0 _ (by omega) rfl
    · intro s hs
      refine hP _ _ (br_t (by decide) ⟨hp.1, hp.2.1, fun z => ?_, hp.2.2.2.1, fun z => ?_, fun z => ?_, fun z => ?_⟩)
      · rw [hs, pairs_eq hk6]; exact hp.2.2.1 z
      · exact x3_unlike b4 (fun q hq => ⟨hN'.2.2.2 q hq, by have := hB q hq; omega⟩) (hp.2.2.2.2.1 z)
      · exact x3_likes hN' hB (hp.2.2.2.2.2.1 z)
      · exact x3_unlike b4 (fun q hq => ⟨hL'.2.2.2 q hq, by have := hlab q hq; omega⟩) (hp.2.2.2.2.2.2 z)
    · intro j s hj hs ih
      refine hP _ _ (br_f (nI_ge (b := 36) hj (by decide)) ⟨vp_in_nI hj (by decide), ?_⟩)
      have ej : j = 6 * (j / 6) + j % 6 := by omega
      have v1 := hm (j / 6) (j % 6) (by omega) (by omega)
      rw [← ej] at v1
      rw [rt_cl (by omega), v1]
      by_cases q : mb k w (j / 6) (j % 6) = true
      · rw [if_pos q]
        refine br_f (by decide) (fun v26 e26 v e => ?_)
        rw [e, rt_inc]
        apply ih
        rw [e26, hs, rt_inc, ctb, if_pos q]
      · rw [if_neg q]
        refine br_t rfl (fun v26 e26 v e => ?_)
        rw [e, rt_inc]
        apply ih
        rw [e26, rt_z, hs, ctb, if_neg q, Nat.add_zero]
  have t0 : ∀ j : Nat, j < 6 → x = nI j → ¬ (x.toInt < 0 ∨ 5 < x.toInt) := by
    intro j hj e
    rw [e, nI_toInt (by omega)]
    omega
  have nn : ∀ i j : Nat, i < 6 → j < 6 → i ≠ j → x = nI i → ¬ x = nI j := by
    intro i j hi hj h e e2
    exact rt_nIeq (by omega) (by omega) h (e.symm.trans e2)
  refine ⟨fun z => ⟨hV, side ⟨fun _ => br_t rfl hK, fun e => absurd z (t0 0 (by decide) e), fun e => absurd z (t0 1 (by decide) e), fun e => absurd z (t0 2 (by decide) e), fun e => absurd z (t0 3 (by decide) e), fun e => absurd z (t0 4 (by decide) e), fun e => absurd z (t0 5 (by decide) e)⟩⟩, fun e => ?_, fun e => ?_, fun e => ?_, fun e => ?_, fun e => ?_, fun e => ?_⟩
  · exact ⟨hV, side ⟨fun z => absurd z (t0 0 (by decide) e), fun _ => br_t rfl hK, fun e2 => absurd e2 (nn 0 1 (by decide) (by decide) (by decide) e), fun e2 => absurd e2 (nn 0 2 (by decide) (by decide) (by decide) e), fun e2 => absurd e2 (nn 0 3 (by decide) (by decide) (by decide) e), fun e2 => absurd e2 (nn 0 4 (by decide) (by decide) (by decide) e), fun e2 => absurd e2 (nn 0 5 (by decide) (by decide) (by decide) e)⟩⟩
  · exact x1_pairCount hT ⟨hV, side ⟨fun z => absurd z (t0 1 (by decide) e), fun e2 => absurd e2 (nn 1 0 (by decide) (by decide) (by decide) e), fun _ => br_t rfl hK, fun e2 => absurd e2 (nn 1 2 (by decide) (by decide) (by decide) e), fun e2 => absurd e2 (nn 1 3 (by decide) (by decide) (by decide) e), fun e2 => absurd e2 (nn 1 4 (by decide) (by decide) (by decide) e), fun e2 => absurd e2 (nn 1 5 (by decide) (by decide) (by decide) e)⟩⟩
  · exact ⟨hV, side ⟨fun z => absurd z (t0 2 (by decide) e), fun e2 => absurd e2 (nn 2 0 (by decide) (by decide) (by decide) e), fun e2 => absurd e2 (nn 2 1 (by decide) (by decide) (by decide) e), fun _ => br_t rfl hK, fun e2 => absurd e2 (nn 2 3 (by decide) (by decide) (by decide) e), fun e2 => absurd e2 (nn 2 4 (by decide) (by decide) (by decide) e), fun e2 => absurd e2 (nn 2 5 (by decide) (by decide) (by decide) e)⟩⟩
  · exact x0_unlike b4 (fun q hq => ⟨hN.2.2.2 q hq, by have := hB q hq; omega⟩) ⟨hV, side ⟨fun z => absurd z (t0 3 (by decide) e), fun e2 => absurd e2 (nn 3 0 (by decide) (by decide) (by decide) e), fun e2 => absurd e2 (nn 3 1 (by decide) (by decide) (by decide) e), fun e2 => absurd e2 (nn 3 2 (by decide) (by decide) (by decide) e), fun _ => br_t rfl hK, fun e2 => absurd e2 (nn 3 4 (by decide) (by decide) (by decide) e), fun e2 => absurd e2 (nn 3 5 (by decide) (by decide) (by decide) e)⟩⟩
  · exact x0_likeNeighbours hN hB ⟨hV, side ⟨fun z => absurd z (t0 4 (by decide) e), fun e2 => absurd e2 (nn 4 0 (by decide) (by decide) (by decide) e), fun e2 => absurd e2 (nn 4 1 (by decide) (by decide) (by decide) e), fun e2 => absurd e2 (nn 4 2 (by decide) (by decide) (by decide) e), fun e2 => absurd e2 (nn 4 3 (by decide) (by decide) (by decide) e), fun _ => br_t rfl hK, fun e2 => absurd e2 (nn 4 5 (by decide) (by decide) (by decide) e)⟩⟩
  · exact x0_unlike b4 (fun q hq => ⟨hL.2.2.2 q hq, by have := hlab q hq; omega⟩) ⟨hV, side ⟨fun z => absurd z (t0 5 (by decide) e), fun e2 => absurd e2 (nn 5 0 (by decide) (by decide) (by decide) e), fun e2 => absurd e2 (nn 5 1 (by decide) (by decide) (by decide) e), fun e2 => absurd e2 (nn 5 2 (by decide) (by decide) (by decide) e), fun e2 => absurd e2 (nn 5 3 (by decide) (by decide) (by decide) e), fun e2 => absurd e2 (nn 5 4 (by decide) (by decide) (by decide) e), fun _ => br_t rfl hK⟩⟩
/-! allow -/
theorem nar_b {z : Int32} (h : z = 0 ∨ z = 1) : vp_nar .boolean z = z := by
  rcases h with rfl | rfl
  · exact nar0
  · exact nar1
theorem x63 : ∀ b c : Fin 6, (63 ^^^ 2 ^ (b : Nat) : Nat).testBit c = decide ((c : Nat) ≠ b) := by decide +kernel
theorem setw_bit {w : Nat → Nat} {a b : Nat} (hb : b < 6) (on : Prop) [Decidable on] {c d : Nat} (hd : d < 6) : (setw w a b on c).testBit d = if c = a ∧ d = b then decide on else (w c).testBit d := by
  unfold setw
  by_cases q : c = a
  · subst q
    rw [if_pos rfl]
    by_cases ho : on
    · rw [if_pos ho, Nat.testBit_or, Nat.testBit_two_pow]
      by_cases z : d = b
      · subst z; simp [ho]
      · have z2 : ¬ b = d := fun y => z y.symm
        simp [z, z2]
    · rw [if_neg ho, Nat.testBit_and, x63 ⟨b, hb⟩ ⟨d, hd⟩]
      by_cases z : d = b
      · subst z; simp [ho]
      · simp [z]
  · rw [if_neg q, if_neg (fun y => q y.1)]
theorem x3_allow_yes {k : Nat} {w : Nat → Nat} (hM : MK k w mk fMM) {a b : Nat} (ha : a < k) (hb : b < k) {z : Int32} (hz : z = 0 ∨ z = 1) (hlt : ∀ c, c < k → setw w a b (¬ z = 0) c < 2 ^ k) {post : Int32 → fI → Prop} (hp : ∀ f, MK k (setw w a b (¬ z = 0)) mk f → post (if (w a).testBit b then 1 else 0) f) : wp_X3_allow (nI a) (nI b) z mk mp fMM post := by
  obtain ⟨h1, h6, rfl, hw, hm⟩ := hM
  refine x3_isLabel_yes ha (by omega) (br_f (by decide) (x3_isLabel_yes hb (by omega) ⟨fun _ => ?_, fun z => absurd z (by decide)⟩))
  rw [e6]
  refine ⟨vp_in_nI (by omega) (by decide), ?_⟩
  rw [rt_cl (by omega), hm a b (by omega) (by omega)]
  have fin : ∀ z0 : Int32, z0 = (if (w a).testBit b then 1 else 0) → wp_X3_allow_b37 (nI a) (nI b) z z0 (nI k) mp fMM post := by
    intro z0 e0
    unfold wp_X3_allow_b37
    rw [e6]
    refine ⟨vp_in_nI (by omega) (by decide), fun f50 e50 => ?_⟩
    rw [e0]
    refine hp f50 ⟨h1, h6, rfl, hlt, fun c d hc hd => ?_⟩
    rw [e50, rt_cl (by omega), nar_b hz]
    unfold mb
    rw [setw_bit (by omega) _ hd]
    by_cases q : c = a ∧ d = b
    · obtain ⟨rfl, rfl⟩ := q
      have hb3 : (if c = c ∧ d = d then decide (¬ z = 0) else (w c).testBit d) = decide (¬ z = 0) := if_pos ⟨rfl, rfl⟩
      rw [pk_us, hb3]
      rcases hz with rfl | rfl
      · simp
      · simp [ha]
    · rw [if_neg q, pk_un (by omega), hm c d hc hd]
      rfl
  have e : mb k w a b = (w a).testBit b := by simp [mb, ha]
  rw [e]
  cases hb2 : (w a).testBit b with
  | true => exact br_f (by decide) (fin 1 (by rw [hb2]; rfl))
  | false => exact br_t rfl (fin 0 (by rw [hb2]; rfl))
theorem J_allow (hI : IX pk fL fN tk fB mk mp fMM fMB fMN) {x y z : Int32} (hz : z = 0 ∨ z = 1) {post : Int32 → fI → Prop}
    (hp : ∀ r a, (∀ (po : Int32 → fI → Prop), (∀ b, IX pk fL fN tk a mk mp b fMB fMN → po r b) → wp_X3_allow x y z mk mp fMM po) → post r a) : wp_X2_allow x y z tk fB post := by
  obtain ⟨k, n, w, lab, num, hT, hL, hN, hM, hL', hN', hlab, hB⟩ := id hI
  have hT0 := hT
  have hM0 := hM
  obtain ⟨h1, h6, rfl, hw⟩ := hT
  obtain ⟨-, -, rfl, hw2, hm⟩ := hM
  rcases pk_ix' x (show k < 2 ^ 31 by omega) with h | ⟨a, ha, rfl⟩
  · exact x1_has_no h (br_t rfl (hp _ _ (fun po hpo => x3_isLabel_no h1 (by omega) h (br_t rfl (hpo _ hI)))))
  · rcases pk_ix' y (show k < 2 ^ 31 by omega) with h | ⟨b, hb, rfl⟩
    · exact x1_has_yes ha (by omega) (br_f (by decide) (x1_has_no h ⟨fun z => absurd rfl z, fun _ => hp _ _ (fun po hpo => x3_isLabel_yes ha (by omega) (br_f (by decide) (x3_isLabel_no h1 (by omega) h ⟨fun z => absurd rfl z, fun _ => hpo _ hI⟩)))⟩))
    · refine x1_has_yes ha (by omega) (br_f (by decide) (x1_has_yes hb (by omega) ⟨fun _ => x1_mayFollow hT0 ha hb (x2_as (x1_decide hT0 ha hb (fun f hf => hp _ _ (fun po hpo => ?_)))), fun z => absurd z (by decide)⟩))
      exact x3_allow_yes hM0 ha hb hz (fun c hc => (hf.2.2.2 c hc).1) (fun g hg => hpo g ⟨k, n, _, lab, num, hf, hL, hN, hg, hL', hN', hlab, hB⟩)
end JJ2
