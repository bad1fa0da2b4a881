/-! both sides together: one row for each call -/
def IV (k n : Nat) (w lab num : Nat → Nat) (pk : Int32) (fL fN : fI) (tk : Int32) (fB : fI) (mk mp : Int32) (fMM fMB fMN : fI) : Prop :=
  TK k w tk fB ∧ PL n lab pk fL ∧ PL n num pk fN ∧ MK k w mk fMM ∧ PL n lab mp fMB ∧ PL n num mp fMN ∧ (∀ p, p < n → lab p < k) ∧ B30 n num
def IX (pk : Int32) (fL fN : fI) (tk : Int32) (fB : fI) (mk mp : Int32) (fMM fMB fMN : fI) : Prop := ∃ k n w lab num, IV k n w lab num pk fL fN tk fB mk mp fMM fMB fMN
theorem rt_rng (x : Int32) (lo hi : Nat) (h1 : lo < 2 ^ 31) (h2 : hi < 2 ^ 31) : (∃ j, lo ≤ j ∧ j ≤ hi ∧ x = nI j) ∨ x < nI lo ∨ nI hi < x := by
  by_cases q1 : x < nI lo
  · exact Or.inr (Or.inl q1)
  · by_cases q2 : nI hi < x
    · exact Or.inr (Or.inr q2)
    · left
      rw [i_lt, nI_toInt h1] at q1
      rw [i_lt, nI_toInt h2] at q2
      obtain ⟨m, hm⟩ := Int.eq_ofNat_of_zero_le (show 0 ≤ x.toInt by omega)
      refine ⟨m, by omega, by omega, Int32.toInt_inj.mp ?_⟩
      rw [hm, nI_toInt (by omega)]
theorem pk_ix' (x : Int32) {n : Nat} (hn : n < 2 ^ 31) : (x < 0 ∨ nI n ≤ x) ∨ ∃ j : Nat, j < n ∧ x = nI j := by
  rcases pk_ix x hn with h | h | h
  · exact Or.inl (Or.inl h)
  · exact Or.inl (Or.inr h)
  · exact Or.inr h
theorem x2_as {b : Bool} {post : Int32 → Prop} (hp : post (if b then 1 else 0)) : wp_X2_asNumber (if b then 1 else 0) post := by
  cases b with
  | true => exact br_f (by decide) hp
  | false => exact br_t rfl hp
section JJ
variable {pk : Int32} {fL fN : fI} {tk : Int32} {fB fWK fRE : fI} {fY fZ : fJ} {mk mp : Int32} {fMM : fI} {fML fMY fMT : fJ} {fMR fMB fMN : fI}
theorem J_labels (hI : IX pk fL fN tk fB mk mp fMM fMB fMN) {x : Int32} {V : Prop} (hV : V) {Kn : fI → Int32 → fI → Int32 → fI → fI → Prop} {Kb : Int32 → fI → Int32 → fI → Int32 → Int32 → fI → fI → Prop}
    (hK : ∀ a b c d e f, IX pk a fN b c d mp e f fMN → Kn a b c d e f) :
    wp_X2_labels x pk fL tk fB (fun r a b c => V ∧ wp_X3_labels x mk mp fMM fMB (fun r' d e f => (r = r' → Kn a b c d e f) ∧ (¬ r = r' → Kb r a b c r' d e f))) := by
  obtain ⟨k, n, w, lab, num, hT, hL, hN, hM, hL', hN', hlab, hB⟩ := id hI
  have et := hT.2.2.1
  have em := hM.2.2.1
  rcases rt_rng x 1 6 (by decide) (by decide) with ⟨j, h1, h6, rfl⟩ | h
  · refine br_f (nI_nlt (b := 1) h1 (by omega)) (br_t (nI_le (b := 6) h6 (by decide)) (x1_restart h1 h6 (fun f hf => x0_clearLabels (fun fl hfl => ⟨hV, ?_⟩))))
    refine x3_in_yes (lo := 1) (hi := 6) h1 h6 (by decide) ⟨fun _ => x3_begin h1 h6 (fun fm fb hfm hfb => ?_), fun z => absurd z (by decide)⟩
    refine br_t (by rw [et, em]) (hK _ _ _ _ _ _ ⟨j, n, fullw j, fun _ => 0, num, hf, ⟨hL.1, hL.2.1, hL.2.2.1, fun p hp => hfl p (by have := hL.2.1; omega)⟩, hN, hfm, ⟨hL'.1, hL'.2.1, hL'.2.2.1, fun p hp => hfb p (by have := hL.2.1; omega)⟩, hN', fun p _ => (by show 0 < j; omega), hB⟩)
  · have go : V ∧ wp_X3_labels x mk mp fMM fMB (fun r' d e f => ((-2 : Int32) = r' → Kn fL tk fB d e f) ∧ (¬ (-2 : Int32) = r' → Kb (-2) fL tk fB r' d e f)) :=
      ⟨hV, x3_in_no h ⟨fun z => absurd rfl z, fun _ => br_t rfl (hK _ _ _ _ _ _ hI)⟩⟩
    refine ⟨fun _ => go, fun z => ⟨fun z2 => ?_, fun _ => go⟩⟩
    exfalso
    rcases h with h | h
    · exact z h
    · rw [i_lt] at h
      rw [i_le] at z2
      exact absurd h (by rw [show (6 : Int32) = nI 6 from rfl] at z2; omega)
theorem x2_may2 {k : Nat} {w : Nat → Nat} (hT : TK k w tk fB) {a b : Nat} (ha : a < k) (hb : b < k) {post : Int32 → Prop} (hp : post (if (w a).testBit b then 1 else 0)) : wp_X2_may (nI a) (nI b) tk fB post := by
  have hT0 := hT
  obtain ⟨h1, h6, rfl, hw⟩ := hT
  exact x1_has_yes ha (by omega) (br_f (by decide) (x1_has_yes hb (by omega) ⟨fun _ => x1_mayFollow hT0 ha hb (x2_as hp), fun z => absurd z (by decide)⟩))
theorem J_may (hI : IX pk fL fN tk fB mk mp fMM fMB fMN) {x y : Int32} {V V2 : Prop} (hV : V) (hV2 : V2) {Kn : Prop} {Kb : Int32 → Int32 → Prop} (hK : Kn) :
    wp_X2_may x y tk fB (fun r => V ∧ (V2 ∧ wp_X3_may x y mk mp fMM (fun r' => (r = r' → Kn) ∧ (¬ r = r' → Kb r r')))) := by
  obtain ⟨k, n, w, lab, num, hT, hL, hN, hM, hL', hN', hlab, hB⟩ := id hI
  have hT0 := hT
  obtain ⟨h1, h6, rfl, hw⟩ := hT
  obtain ⟨-, -, rfl, hw2, hm⟩ := hM
  rcases pk_ix' x (show k < 2 ^ 31 by omega) with h | ⟨a, ha, rfl⟩
  · exact x1_has_no h (br_t rfl ⟨hV, hV2, x3_isLabel_no h1 (by omega) h (br_t rfl (br_t rfl hK))⟩)
  · rcases pk_ix' y (show k < 2 ^ 31 by omega) with h | ⟨b, hb, rfl⟩
    · exact x1_has_yes ha (by omega) (br_f (by decide) (x1_has_no h ⟨fun z => absurd rfl z, fun _ => ⟨hV, hV2, x3_isLabel_yes ha (by omega) (br_f (by decide) (x3_isLabel_no h1 (by omega) h ⟨fun z => absurd rfl z, fun _ => br_t rfl hK⟩))⟩⟩))
    · refine x2_may2 hT0 ha hb ⟨hV, hV2, x3_isLabel_yes ha (by omega) (br_f (by decide) (x3_isLabel_yes hb (by omega) ⟨fun _ => ?_, fun z => absurd z (by decide)⟩))⟩
      rw [e6]
      refine ⟨vp_in_nI (by omega) (by decide), ?_⟩
      rw [rt_cl (by omega), hm a b (by omega) (by omega)]
      have e : mb k w a b = (w a).testBit b := by simp [mb, ha]
      rw [e]
      cases (w a).testBit b with
      | true => exact br_f (by decide) (br_t rfl hK)
      | false => exact br_t rfl (br_t rfl hK)
theorem rs_yes {n : Nat} (h1 : 1 ≤ n) (h2 : n ≤ 60) {post : Int32 → Prop} (hp : post 1) : wp_X2_isRingSize (nI n) post := br_f (nI_nlt (b := 1) h1 (by omega)) (br_f (nI_nlt (a := 60) h2 (by decide)) hp)
theorem rs_no {x : Int32} (h : x < nI 1 ∨ nI 60 < x) {post : Int32 → Prop} (hp : post 0) : wp_X2_isRingSize x post :=
  ⟨fun _ => hp, fun h1 => ⟨fun _ => hp, fun h2 => (h.elim (fun z => absurd z h1) (fun z => absurd z h2))⟩⟩
theorem ir_yes {n : Nat} (h1 : 1 ≤ n) (h2 : n ≤ 60) {post : Int32 → Prop} (hp : post 1) : wp_X3_isRing (nI n) post := x3_in_yes (lo := 1) (hi := 60) h1 h2 (by decide) ⟨Or.inr rfl, hp⟩
theorem ir_no {x : Int32} (h : x < nI 1 ∨ nI 60 < x) {post : Int32 → Prop} (hp : post 0) : wp_X3_isRing x post := x3_in_no h ⟨Or.inl rfl, hp⟩
theorem lc {x : Int64} : lg_cmp x x = 0 := (rt_lcmp x x).mpr rfl
theorem J_rings (hI : IX pk fL fN tk fB mk mp fMM fMB fMN) {x : Int32} {V : Prop} (hV : V) {Kn : fJ → fJ → fJ → fJ → Prop} {Kb : Int64 → fJ → fJ → Int64 → fJ → fJ → Prop} (hK : ∀ a b c d, Kn a b c d) :
    wp_X2_rings x tk fB fY fZ (fun r a b => V ∧ wp_X3_rings x mk mp fMM fMY fMT (fun r' c d => (lg_cmp r r' = (0 : Int32) → Kn a b c d) ∧ (¬ lg_cmp r r' = (0 : Int32) → Kb r a b r' c d))) := by
  obtain ⟨k, n, w, lab, num, hT, hL, hN, hM, hL', hN', hlab, hB⟩ := id hI
  rcases rt_rng x 1 60 (by decide) (by decide) with ⟨j, h1, h6, rfl⟩ | h
  · refine rs_yes h1 h6 ⟨fun _ => x1_ringCount hT (by omega) (fun a b => ⟨hV, ir_yes h1 h6 ⟨fun _ => x3_ringsN hM (by omega) (fun c d => br_t lc (hK _ _ _ _)), fun z => absurd z (by decide)⟩⟩), fun z => absurd z (by decide)⟩
  · exact rs_no h ⟨fun z => absurd rfl z, fun _ => ⟨hV, ir_no h ⟨fun z => absurd rfl z, fun _ => br_t lc (hK _ _ _ _)⟩⟩⟩
theorem J_first (hI : IX pk fL fN tk fB mk mp fMM fMB fMN) {x y : Int32} {V V2 : Prop} (hV : V) (hV2 : V2) {Kn : fI → fI → fJ → fI → Prop} {Kb : Int32 → fI → fI → Int32 → fJ → fI → Prop} (hK : ∀ a b c d, Kn a b c d) :
    wp_X2_first x y tk fB fWK fRE (fun r a b => V ∧ (V2 ∧ wp_X3_first x y mk mp fMM fML fMR (fun r' c d => (r = r' → Kn a b c d) ∧ (¬ r = r' → Kb r a b r' c d)))) := by
  obtain ⟨k, n, w, lab, num, hT, hL, hN, hM, hL', hN', hlab, hB⟩ := id hI
  rcases rt_rng x 1 60 (by decide) (by decide) with ⟨j, h1, h6, rfl⟩ | h
  · have ej : nI j - (1 : Int32) = nI (j - 1) := x3_sub1 h1
    refine rs_yes h1 h6 ⟨fun _ => ?_, fun z => absurd z (by decide)⟩
    rcases pk_ix' y (show j < 2 ^ 31 by omega) with h | ⟨i, hi, rfl⟩
    · have go : V ∧ (V2 ∧ wp_X3_first (nI j) y mk mp fMM fML fMR (fun r' c d => ((-1 : Int32) = r' → Kn fWK fRE c d) ∧ (¬ (-1 : Int32) = r' → Kb (-1) fWK fRE r' c d))) := by
        refine ⟨hV, hV2, ir_yes h1 h6 ⟨fun _ => ?_, fun z => absurd z (by decide)⟩⟩
        rw [ej]
        exact x3_in_no (x3_out h1 (by omega) h) ⟨fun z => absurd rfl z, fun _ => br_t rfl (hK _ _ _ _)⟩
      refine ⟨fun _ => go, fun z => ⟨fun z2 => ?_, fun _ => go⟩⟩
      exfalso
      rcases h with h | h
      · exact z h
      · rw [i_lt] at z2
        rw [i_le] at h
        omega
    · refine br_f (nI_pos (by omega)) (br_t (nI_lt hi (by omega)) (x1_findRing hT h6 ?_ ?_))
      · intro a ha hra hb f f2 hf
        refine br_f (by decide) ⟨vp_in_nI (by omega) (by decide), hV, hV2, ir_yes h1 h6 ⟨fun _ => ?_, fun z => absurd z (by decide)⟩⟩
        rw [ej]
        refine x3_in_yes (lo := 0) (Nat.zero_le _) (by omega) (by omega) ⟨fun _ => x3_layRing hM h1 h6 ?_ ?_, fun z => absurd z (by decide)⟩
        · intro a' ha' hra' hb' g g2 hg hg2
          have e : a' = a := by omega
          subst e
          refine br_f (by decide) ⟨vp_in_nI (by omega) (by decide), br_t ?_ (hK _ _ _ _)⟩
          rw [rt_cl (by omega), hf i (by omega), hg2 i hi]
        · intro hk; omega
      · intro hk f2
        refine br_t rfl ⟨hV, hV2, ir_yes h1 h6 ⟨fun _ => ?_, fun z => absurd z (by decide)⟩⟩
        rw [ej]
        refine x3_in_yes (lo := 0) (Nat.zero_le _) (by omega) (by omega) ⟨fun _ => x3_layRing hM h1 h6 ?_ ?_, fun z => absurd z (by decide)⟩
        · intro a' ha' hra'; omega
        · intro _ g hg
          exact br_t rfl (br_t rfl (hK _ _ _ _))
  · exact rs_no h ⟨fun z => absurd rfl z, fun _ => ⟨hV, hV2, ir_no h ⟨fun z => absurd rfl z, fun _ => br_t rfl (hK _ _ _ _)⟩⟩⟩
theorem J_walks (hI : IX pk fL fN tk fB mk mp fMM fMB fMN) {x y z : Int32} {V V2 V3 : Prop} (hV : V) (hV2 : V2) (hV3 : V3) {Kn : fJ → fJ → fJ → fJ → Prop} {Kb : Int64 → fJ → fJ → Int64 → fJ → fJ → Prop} (hK : ∀ a b c d, Kn a b c d) :
    wp_X2_walks x y z tk fB fY fZ (fun r a b => V ∧ (V2 ∧ (V3 ∧ wp_X3_walks x y z mk mp fMM fMY fMT (fun r' c d => (lg_cmp r r' = (0 : Int32) → Kn a b c d) ∧ (¬ lg_cmp r r' = (0 : Int32) → Kb r a b r' c d))))) := by
  obtain ⟨k, n, w, lab, num, hT, hL, hN, hM, hL', hN', hlab, hB⟩ := id hI
  have hT0 := hT
  have hM0 := hM
  obtain ⟨h1, h6, rfl, hw⟩ := hT
  obtain ⟨-, -, rfl, hw2, hm⟩ := hM
  rcases pk_ix' x (show k < 2 ^ 31 by omega) with h | ⟨a, ha, rfl⟩
  · exact x1_has_no h (br_t rfl ⟨hV, hV2, hV3, x3_isLabel_no h1 (by omega) h (br_t rfl (br_t lc (hK _ _ _ _)))⟩)
  · rcases pk_ix' y (show k < 2 ^ 31 by omega) with h | ⟨b, hb, rfl⟩
    · exact x1_has_yes ha (by omega) (br_f (by decide) (x1_has_no h ⟨fun z => absurd rfl z, fun _ => ⟨hV, hV2, hV3, x3_isLabel_yes ha (by omega) (br_f (by decide) (x3_isLabel_no h1 (by omega) h ⟨fun z => absurd rfl z, fun _ => br_t lc (hK _ _ _ _)⟩))⟩⟩))
    · refine x1_has_yes ha (by omega) (br_f (by decide) (x1_has_yes hb (by omega) ⟨fun _ => ?_, fun z => absurd z (by decide)⟩))
      rcases rt_rng z 0 60 (by decide) (by decide) with ⟨t, -, h60, rfl⟩ | h
      · refine br_f (nI_pos (by omega)) (br_t (nI_le (b := 60) h60 (by decide)) (x1_walkCount hT0 ha hb (by omega) (fun f f2 => ⟨hV, hV2, hV3, x3_isLabel_yes ha (by omega) (br_f (by decide) (x3_isLabel_yes hb (by omega) ⟨fun _ => ?_, fun z => absurd z (by decide)⟩))⟩)))
        refine x3_in_yes (lo := 0) (hi := 60) (Nat.zero_le _) h60 (by decide) ⟨fun _ => x3_layMany hM0 ha (by omega) (fun g g2 hg => ⟨vp_in_nI (by omega) (by decide), br_t ?_ (hK _ _ _ _)⟩), fun z => absurd z (by decide)⟩
        rw [rt_cl (by omega), hg b hb]; exact lc
      · have go : V ∧ (V2 ∧ (V3 ∧ wp_X3_walks (nI a) (nI b) z (nI k) mp fMM fMY fMT (fun r' c d => (lg_cmp (-2 : Int64) r' = (0 : Int32) → Kn fY fZ c d) ∧ (¬ lg_cmp (-2 : Int64) r' = (0 : Int32) → Kb (-2) fY fZ r' c d)))) :=
          ⟨hV, hV2, hV3, x3_isLabel_yes ha (by omega) (br_f (by decide) (x3_isLabel_yes hb (by omega) ⟨fun _ => x3_in_no h ⟨fun z => absurd rfl z, fun _ => br_t lc (hK _ _ _ _)⟩, fun z => absurd z (by decide)⟩))⟩
        refine ⟨fun _ => go, fun y => ⟨fun y2 => ?_, fun _ => go⟩⟩
        exfalso
        rcases h with h | h
        · exact y h
        · rw [i_lt] at h
          rw [i_le] at y2
          exact absurd h (by rw [show (60 : Int32) = nI 60 from rfl] at y2; omega)
theorem J_blocks (hI : IX pk fL fN tk fB mk mp fMM fMB fMN) {Kn : fJ → Prop} {Kb : Int32 → Int32 → fJ → Prop} (hK : ∀ a, Kn a) :
    wp_X2_blocks tk fB (fun r => wp_X3_blocks mk mp fMM fML (fun r' a => (r = r' → Kn a) ∧ (¬ r = r' → Kb r r' a))) := by
  obtain ⟨k, n, w, lab, num, hT, hL, hN, hM, hL', hN', hlab, hB⟩ := id hI
  have hT0 := hT
  have hM0 := hM
  obtain ⟨h1, h6, rfl, hw⟩ := hT
  obtain ⟨-, -, rfl, hw2, hm⟩ := hM
  have side : ∀ {post : Int32 → Prop}, post (nI (ctb (fun a => decide (lob k w a = a)) k)) → wp_X2_blocks (nI k) fB post := by
    intro post hp
    unfold wp_X2_blocks wp_X2_blocks_b4
    intro P hP
    refine rt_up (fun i (x : Int32) => P x i) k (fun i x => x = nI (ctb (fun a => decide (lob k w a = a)) i)) ?_ ?_ k 0 _ (by omega) rfl
    · intro x h
      refine hP _ _ (br_t (nI_le (Nat.le_refl _) (by omega)) ?_)
      rw [h]; exact hp
    · intro i x hi h ih
      have hl := lob_le k w i
      refine hP _ _ (br_f (nI_ge hi (by omega)) (x1_leastOfBlock hT0 hi ?_))
      by_cases q : lob k w i = i
      · refine ⟨fun z => absurd (by rw [q]) z, fun _ v27 e27 v e => ?_⟩
        rw [e, rt_inc]
        apply ih
        rw [e27, h, rt_inc, ctb]; simp [q]
      · refine ⟨fun _ v e => ?_, fun z => absurd ((nI_eq (by omega) (by omega)).mp z) q⟩
        rw [e, rt_inc]
        apply ih
        rw [h, ctb]; simp [q]
  refine side (x3_layLeads hM0 (fun f hD => ?_))
  unfold wp_X3_blocks_b8
  intro P hP
  refine rt_up (fun i (x : Int32) => P x i) k (fun i x => x = nI (ctb (fun a => decide (lob k w a = a)) i)) ?_ ?_ k 0 _ (by omega) rfl
  · intro x h
    exact hP _ _ (br_t (nI_le (Nat.le_refl _) (by omega)) (br_t h.symm (hK f)))
  · intro i x hi h ih
    have hl := lob_le k w i
    refine hP _ _ (br_f (nI_ge hi (by omega)) (x3_blockOf h1 h6 hw2 hD hi ?_))
    by_cases q : lob k w i = i
    · refine ⟨fun z => absurd (by rw [q]) z, fun _ v27 e27 v e => ?_⟩
      rw [e, rt_inc]
      apply ih
      rw [e27, h, rt_inc, ctb]; simp [q]
    · refine ⟨fun _ v27 e27 v e => ?_, fun z => absurd ((nI_eq (by omega) (by omega)).mp z) q⟩
      rw [e, rt_inc]
      apply ih
      rw [e27, rt_z, h, ctb]; simp [q]
theorem J_block (hI : IX pk fL fN tk fB mk mp fMM fMB fMN) {x : Int32} {V : Prop} (hV : V) {Kn : fJ → Prop} {Kb : Int32 → Int32 → fJ → Prop} (hK : ∀ a, Kn a) :
    wp_X2_block x tk fB (fun r => V ∧ wp_X3_block x mk mp fMM fML (fun r' a => (r = r' → Kn a) ∧ (¬ r = r' → Kb r r' a))) := by
  obtain ⟨k, n, w, lab, num, hT, hL, hN, hM, hL', hN', hlab, hB⟩ := id hI
  have hT0 := hT
  have hM0 := hM
  obtain ⟨h1, h6, rfl, hw⟩ := hT
  obtain ⟨-, -, rfl, hw2, hm⟩ := hM
  rcases pk_ix' x (show k < 2 ^ 31 by omega) with h | ⟨a, ha, rfl⟩
  · exact x1_has_no h (br_t rfl ⟨hV, x3_layLeads hM0 (fun f hD => x3_isLabel_no h1 (by omega) h (br_t rfl (br_t rfl (hK f))))⟩)
  · exact x1_has_yes ha (by omega) (br_f (by decide) (x1_leastOfBlock hT0 ha ⟨hV, x3_layLeads hM0 (fun f hD => x3_isLabel_yes ha (by omega) (br_f (by decide) (x3_blockOf h1 h6 hw2 hD ha (br_t rfl (hK f)))))⟩))
theorem J_pace (hI : IX pk fL fN tk fB mk mp fMM fMB fMN) {x : Int32} {V : Prop} (hV : V) {Kn : fI → fJ → Prop} {Kb : Int32 → fI → Int32 → fJ → Prop} (hK : ∀ a b, Kn a b) :
    wp_X2_pace x tk fB fRE (fun r b => V ∧ wp_X3_pace x mk mp fMM fML (fun r' a => (r = r' → Kn b a) ∧ (¬ r = r' → Kb r b r' a))) := by
  obtain ⟨k, n, w, lab, num, hT, hL, hN, hM, hL', hN', hlab, hB⟩ := id hI
  have hT0 := hT
  have hM0 := hM
  obtain ⟨h1, h6, rfl, hw⟩ := hT
  obtain ⟨-, -, rfl, hw2, hm⟩ := hM
  rcases pk_ix' x (show k < 2 ^ 31 by omega) with h | ⟨a, ha, rfl⟩
  · exact x1_has_no h (br_t rfl ⟨hV, x3_layLeads hM0 (fun f hD => x3_isLabel_no h1 (by omega) h (br_t rfl (br_t rfl (hK _ f))))⟩)
  · exact x1_has_yes ha (by omega) (br_f (by decide) (x1_paceOf hT0 ha (fun f2 => ⟨hV, x3_layLeads hM0 (fun f hD => x3_isLabel_yes ha (by omega) (br_f (by decide) (x3_paceOf h6 hD ha (br_t rfl (hK f2 f)))))⟩)))
theorem J_kind (hI : IX pk fL fN tk fB mk mp fMM fMB fMN) {Kn : fI → fJ → Prop} {Kb : Int32 → fI → Int32 → fJ → Prop} (hK : ∀ a b, Kn a b) :
    wp_X2_kind tk fB fRE (fun r b => wp_X3_kind mk mp fMM fML (fun r' a => (r = r' → Kn b a) ∧ (¬ r = r' → Kb r b r' a))) := by
  obtain ⟨k, n, w, lab, num, hT, hL, hN, hM, hL', hN', hlab, hB⟩ := id hI
  exact x1_kindOfTask hT (fun f2 => x3_kind hM (fun f => br_t rfl (hK f2 f)))
theorem J_sure (hI : IX pk fL fN tk fB mk mp fMM fMB fMN) {Kn : fI → fJ → Prop} {Kb : Int32 → fI → Int32 → fJ → Prop} (hK : ∀ a b, Kn a b) :
    wp_X2_sure tk fB fRE (fun r b => wp_X3_sure mk mp fMM fML (fun r' a => (r = r' → Kn b a) ∧ (¬ r = r' → Kb r b r' a))) := by
  obtain ⟨k, n, w, lab, num, hT, hL, hN, hM, hL', hN', hlab, hB⟩ := id hI
  have hT0 := hT
  have hM0 := hM
  obtain ⟨h1, h6, rfl, hw⟩ := hT
  obtain ⟨-, -, rfl, hw2, hm⟩ := hM
  have side : ∀ {post : Int32 → fJ → Prop}, (∀ f, post (if exk (fun a => decide (pace k w a = 1)) k then (if (1 : Int32) < nI (eog (fun t => exk (fun a => rl k w a t) k) 61) then nI (eog (fun t => exk (fun a => rl k w a t) k) 61) else 1) else -9) f) → wp_X3_sure (nI k) mp fMM fML post := by
    intro post hp
    refine x3_layLeads hM0 (fun f hD => ?_)
    have hp := hp f
    have hle := eog_le (fun t => exk (fun a => rl k w a t) k) 61
    unfold wp_X3_sure_b8
    intro P hP
    refine rt_up (fun i (s : Int32) => P s i) k (fun i s => s = (if exk (fun a => decide (pace k w a = 1)) i then 1 else 0)) ?_ ?_ k 0 _ (by omega) rfl
    · intro s hs
      refine hP _ _ (br_t (nI_le (Nat.le_refl _) (by omega)) (x3_behindLast h6 hD (sel := fun _ => true) (fun b _ _ => Or.inl rfl) (fun b _ z => by cases z) ?_))
      have ee : eog (fun t => exk (fun b => true && rl k w b t) k) 61 = eog (fun t => exk (fun a => rl k w a t) k) 61 := eog_cong 61 (fun t _ => by simp)
      rw [ee, hs]
      generalize eog (fun t => exk (fun a => rl k w a t) k) 61 = e at hp hle
      by_cases q : exk (fun a => decide (pace k w a = 1)) k = true
      · rw [if_pos q] at hp ⊢
        refine ⟨fun _ => ?_, fun z => absurd z (by decide)⟩
        by_cases q2 : 1 < e
        · rw [if_pos (show (1 : Int32) < nI e from nI_lt (a := 1) q2 (by omega))] at hp
          exact br_t (nI_le (a := 1) (by omega) (by omega)) hp
        · rw [if_neg (show ¬ (1 : Int32) < nI e from nI_nlt (a := 1) (by omega) (by decide))] at hp
          by_cases q3 : e = 1
          · rw [q3]; exact br_t (by decide) hp
          · have q4 : e = 0 := by omega
            rw [q4]; exact br_f (by decide) hp
      · rw [if_neg q] at hp ⊢
        exact ⟨fun z => absurd rfl z, fun _ => hp⟩
    · intro a s ha hs ih
      have hpl : pace k w a ≤ 61 := gcf_lt (rl k w a) 61
      refine hP _ _ (br_f (nI_ge ha (by omega)) ?_)
      rw [hs]
      by_cases q : exk (fun a => decide (pace k w a = 1)) a = true
      · rw [if_pos q]
        refine ⟨fun _ v e => ?_, fun z => absurd z (by decide)⟩
        rw [e, rt_inc]
        refine ih 1 ?_
        rw [exk, q]; rfl
      · have q : exk (fun a => decide (pace k w a = 1)) a = false := by simpa using q
        rw [q]
        refine ⟨fun z => absurd rfl z, fun _ => x3_paceOf h6 hD ha ?_⟩
        by_cases q2 : pace k w a = 1
        · refine ⟨fun z => absurd (by rw [q2]; rfl) z, fun _ v e => ?_⟩
          rw [e, rt_inc]
          refine ih 1 ?_
          rw [exk, q]; simp [q2]
        · refine ⟨fun _ v e => ?_, fun z => absurd ((nI_eq (b := 1) (by omega) (by decide)).mp z) q2⟩
          rw [e, rt_inc]
          refine ih 0 ?_
          rw [exk, q]; simp [q2]
  refine x1_hasPaceOne hT0 (fun f2 => ?_)
  by_cases q : exk (fun a => decide (pace k w a = 1)) k = true
  · rw [if_pos q]
    refine br_f (by decide) (x1_ringLengths hT0 (fun v hv hb f3 => x2_endOfGaps (by omega) (side (fun f => br_t ?_ (hK _ _)))))
    rw [if_pos q, eog_cong (g := fun t => exk (fun a => rl k w a t) k) 61 hb]
  · rw [if_neg q]
    refine br_t rfl (side (fun f => br_t ?_ (hK _ _)))
    rw [if_neg q]
theorem J_free (hI : IX pk fL fN tk fB mk mp fMM fMB fMN) {x : Int32} {V : Prop} (hV : V) {Kn : fI → fJ → Prop} {Kb : Int32 → fI → Int32 → fJ → Prop} (hK : ∀ a b, Kn a b) :
    wp_X2_free x tk fB fRE (fun r b => V ∧ wp_X3_free x mk mp fMM fML (fun r' a => (r = r' → Kn b a) ∧ (¬ r = r' → Kb r b r' a))) := by
  obtain ⟨k, n, w, lab, num, hT, hL, hN, hM, hL', hN', hlab, hB⟩ := id hI
  have hT0 := hT
  have hM0 := hM
  obtain ⟨h1, h6, rfl, hw⟩ := hT
  obtain ⟨-, -, rfl, hw2, hm⟩ := hM
  rcases pk_ix' x (show k < 2 ^ 31 by omega) with h | ⟨a, ha, rfl⟩
  · exact x1_has_no h ⟨fun z => absurd rfl z, fun _ => ⟨hV, x3_isLabel_no h1 (by omega) h ⟨fun z => absurd rfl z, fun _ => br_t rfl (hK _ _)⟩⟩⟩
  · have hpl : pace k w a ≤ 61 := gcf_lt (rl k w a) 61
    refine x1_has_yes ha (by omega) ⟨fun _ => x1_paceOf hT0 ha (fun f2 => ?_), fun z => absurd z (by decide)⟩
    by_cases q : pace k w a = 1
    · refine ⟨fun z => absurd (by rw [q]; rfl) z, fun _ => x1_returnLengths hT0 ha (fun v hv hb f3 => x2_endOfGaps (by omega) ⟨hV, x3_isLabel_yes ha (by omega) ⟨fun _ => x3_layLeads hM0 (fun f hD => x3_paceOf h6 hD ha ⟨fun z => absurd (by rw [q]; rfl) z, fun _ => x3_behindLast h6 hD (sel := fun b => decide (b = a)) ?_ ?_ (br_t ?_ (hK _ _))⟩), fun z => absurd z (by decide)⟩⟩)⟩
      · intro b hb2 z
        have z : b = a := by simpa using z
        right; rw [z]
      · intro b hb2 z
        have z : ¬ b = a := by simpa using z
        exact ⟨ne9' (by omega), rt_nIeq (by omega) (by omega) (fun y => z y.symm)⟩
      · congr 1
        refine eog_cong 61 (fun t ht => ?_)
        rw [hb t ht, Bool.eq_iff_iff, exk_iff]
        constructor
        · intro z; exact ⟨a, ha, by simp [z]⟩
        · rintro ⟨b, hb2, z⟩
          rw [Bool.and_eq_true] at z
          have z1 : b = a := by simpa using z.1
          rw [← z1]; exact z.2
    · exact ⟨fun _ => ⟨hV, x3_isLabel_yes ha (by omega) ⟨fun _ => x3_layLeads hM0 (fun f hD => x3_paceOf h6 hD ha ⟨fun _ => br_t rfl (hK _ _), fun z => absurd ((nI_eq (b := 1) (by omega) (by decide)).mp z) q⟩), fun z => absurd z (by decide)⟩⟩, fun z => absurd ((nI_eq (b := 1) (by omega) (by decide)).mp z) q⟩
theorem J_mirrors (hI : IX pk fL fN tk fB mk mp fMM fMB fMN) {Kn : fJ → Prop} {Kb : Int32 → Int32 → fJ → Prop} (hK : ∀ a, Kn a) :
    wp_X2_mirrors tk fB (fun r => wp_X3_mirrors mk mp fMM fML (fun r' a => (r = r' → Kn a) ∧ (¬ r = r' → Kb r r' a))) := by
  obtain ⟨k, n, w, lab, num, hT, hL, hN, hM, hL', hN', hlab, hB⟩ := id hI
  have hM0 := hM
  obtain ⟨h1, h6, rfl, hw2, hm⟩ := hM
  refine x1_isMirrored hT (fun hall => ?_) (fun hex => ?_)
  · refine x2_as (b := true) (x3_mirrors hM0 (fun f => br_t ?_ (hK f)))
    have e : exk (bad k w) 36 = false := by
      cases e : exk (bad k w) 36 with
      | false => rfl
      | true =>
        exfalso
        obtain ⟨j, hj, z⟩ := (exk_iff _ _).mp e
        unfold bad at z
        simp only [Bool.and_eq_true, decide_eq_true_eq, bne_iff_ne] at z
        obtain ⟨z1, z2, z3, z4⟩ := z
        have m1 : mb k w (j / 6) (j % 6) = (w (j / 6)).testBit (j % 6) := by simp [mb, z1]
        have m2 : mb k w (j % 6) (j / 6) = (w (j % 6)).testBit (j / 6) := by simp [mb, z2]
        rw [m1, m2] at z4
        rcases Nat.lt_trichotomy (j / 6) (j % 6) with y | y | y
        · have := hall _ _ y z2 (fun u => z4 u.symm)
          rw [ob_sy, z3] at this; cases this
        · rw [y] at z4; exact z4 rfl
        · have := hall _ _ y z1 z4
          rw [z3] at this; cases this
    rw [e]; rfl
  · refine x2_as (b := false) (x3_mirrors hM0 (fun f => br_t ?_ (hK f)))
    obtain ⟨a, b, hb, ha, hd, ho⟩ := hex
    have e : exk (bad k w) 36 = true := by
      refine (exk_iff _ _).mpr ⟨6 * a + b, by omega, ?_⟩
      unfold bad
      rw [show (6 * a + b) / 6 = a by omega, show (6 * a + b) % 6 = b by omega]
      have m1 : mb k w a b = (w a).testBit b := by simp [mb, ha]
      have m2 : mb k w b a = (w b).testBit a := by simp [mb, show b < k by omega]
      rw [m1, m2, ho]
      simp [ha, show b < k by omega, hd]
    rw [e]; rfl
theorem J_ring (hI : IX pk fL fN tk fB mk mp fMM fMB fMN) {x : Int32} {V : Prop} (hV : V) {Kn : Int32 → fI → fI → Int32 → fI → fI → Prop} {Kb : Int32 → Int32 → fI → fI → Int32 → Int32 → fI → fI → Prop}
    (hK : ∀ a b c d e f, IX a b c tk fB mk d fMM e f → Kn a b c d e f) :
    wp_X2_ring x pk fL fN (fun r a b c => V ∧ wp_X3_ring x mk mp fMB fMN (fun r' d e f => (r = r' → Kn a b c d e f) ∧ (¬ r = r' → Kb r a b c r' d e f))) := by
  obtain ⟨k, n, w, lab, num, hT, hL, hN, hM, hL', hN', hlab, hB⟩ := id hI
  have el := hL.2.2.1
  have el' := hL'.2.2.1
  rcases rt_rng x 3 60 (by decide) (by decide) with ⟨j, h1, h6, rfl⟩ | h
  · refine br_f (nI_nlt (b := 3) h1 (by omega)) (br_t (nI_le (b := 60) h6 (by decide)) (x0_restart h1 h6 (fun f f2 hf hf2 => ⟨hV, ?_⟩)))
    refine x3_in_yes (lo := 3) (hi := 60) h1 h6 (by decide) ⟨fun _ => x3_lay h1 h6 (fun g g2 hg hg2 => br_t (by rw [el, el']) (hK _ _ _ _ _ _ ⟨k, j, w, fun _ => 0, fun p => p, hT, hf, hf2, hM, hg, hg2, fun p _ => (by have := hT.1; show 0 < k; omega), fun p hp => (by show p < 1073741824; omega)⟩)), fun z => absurd z (by decide)⟩
  · have go : V ∧ wp_X3_ring x mk mp fMB fMN (fun r' d e f => ((-2 : Int32) = r' → Kn pk fL fN d e f) ∧ (¬ (-2 : Int32) = r' → Kb (-2) pk fL fN r' d e f)) :=
      ⟨hV, x3_in_no h ⟨fun z => absurd rfl z, fun _ => br_t rfl (hK _ _ _ _ _ _ hI)⟩⟩
    refine ⟨fun _ => go, fun z => ⟨fun z2 => ?_, fun _ => go⟩⟩
    exfalso
    rcases h with h | h
    · exact z h
    · rw [i_lt] at h
      rw [i_le] at z2
      exact absurd h (by rw [show (60 : Int32) = nI 60 from rfl] at z2; omega)
theorem PL_upd {n : Nat} {lab : Nat → Nat} {pk : Int32} {f : fI} (h : PL n lab pk f) (p a : Nat) : PL n (fun q => if q = p then a else lab q) pk (upd f p (nI a)) := by
  refine ⟨h.1, h.2.1, h.2.2.1, fun q hq => ?_⟩
  show upd f p (nI a) q = nI (if q = p then a else lab q)
  by_cases z : q = p
  · subst z; rw [pk_us, if_pos rfl]
  · rw [pk_un z, if_neg z]; exact h.2.2.2 q hq
theorem J_put (hI : IX pk fL fN tk fB mk mp fMM fMB fMN) {x y : Int32} {V V2 : Prop} (hV : V) (hV2 : V2) {Kn : fI → fI → Prop} {Kb : Int32 → fI → Int32 → fI → Prop}
    (hK : ∀ a b, IX pk a fN tk fB mk mp fMM b fMN → Kn a b) :
    wp_X2_put x y pk fL tk (fun r a => V ∧ (V2 ∧ wp_X3_put x y mk mp fMB (fun r' b => (r = r' → Kn a b) ∧ (¬ r = r' → Kb r a r' b)))) := by
  obtain ⟨k, n, w, lab, num, hT, hL, hN, hM, hL', hN', hlab, hB⟩ := id hI
  have et := hT.2.2.1
  have em := hM.2.2.1
  have el := hL.2.2.1
  have el' := hL'.2.2.1
  have b1 := hT.1
  have b2 := hT.2.1
  have b3 := hL.1
  have b4 := hL.2.1
  have same := hK fL fMB hI
  subst et em el el'
  rcases pk_ix' x (show n < 2 ^ 31 by omega) with h | ⟨p, hp, rfl⟩
  · exact x0_has_no h (br_t rfl ⟨hV, hV2, x3_isPost_no (by omega) (by omega) h (br_t rfl (br_t rfl same))⟩)
  · rcases pk_ix' y (show k < 2 ^ 31 by omega) with h | ⟨a, ha, rfl⟩
    · exact x0_has_yes hp (by omega) (br_f (by decide) (x1_has_no h ⟨fun z => absurd rfl z, fun _ => ⟨hV, hV2, x3_isPost_yes hp (by omega) (br_f (by decide) (x3_isLabel_no b1 (by omega) h ⟨fun z => absurd rfl z, fun _ => br_t rfl same⟩))⟩⟩))
    · refine x0_has_yes hp (by omega) (br_f (by decide) (x1_has_yes ha (by omega) ⟨fun _ => ⟨vp_in_nI (by omega) (by decide), fun v33 e33 => ⟨vp_in_nI (by omega) (by decide), fun f43 e43 => ⟨hV, hV2, x3_isPost_yes hp (by omega) (br_f (by decide) (x3_isLabel_yes ha (by omega) ⟨fun _ => ⟨vp_in_nI (by omega) (by decide), fun v24 e24 => ⟨vp_in_nI (by omega) (by decide), fun f31 e31 => br_t ?_ (hK _ _ ?_)⟩⟩, fun z => absurd z (by decide)⟩))⟩⟩⟩, fun z => absurd z (by decide)⟩))
      · rw [e33, e24, rt_cl (by omega), hL.2.2.2 p hp, hL'.2.2.2 p hp]
      · rw [rt_cl (by omega)] at e43 e31
        subst e43 e31
        refine ⟨k, n, w, fun q => if q = p then a else lab q, num, hT, PL_upd hL p a, hN, hM, PL_upd hL' p a, hN', fun q hq => ?_, hB⟩
        show (if q = p then a else lab q) < k
        by_cases z : q = p
        · rw [if_pos z]; exact ha
        · rw [if_neg z]; exact hlab q hq
theorem J_at (hI : IX pk fL fN tk fB mk mp fMM fMB fMN) {x : Int32} {V : Prop} (hV : V) {Kn : Prop} {Kb : Int32 → Int32 → Prop} (hK : Kn) :
    wp_X2_at x pk fL (fun r => V ∧ wp_X3_at x mk mp fMB (fun r' => (r = r' → Kn) ∧ (¬ r = r' → Kb r r'))) := by
  obtain ⟨k, n, w, lab, num, hT, hL, hN, hM, hL', hN', hlab, hB⟩ := id hI
  have el := hL.2.2.1
  have el' := hL'.2.2.1
  have b3 := hL.1
  have b4 := hL.2.1
  subst el el'
  rcases pk_ix' x (show n < 2 ^ 31 by omega) with h | ⟨p, hp, rfl⟩
  · exact x0_has_no h (br_t rfl ⟨hV, x3_isPost_no (by omega) (by omega) h (br_t rfl (br_t rfl hK))⟩)
  · exact x0_has_yes hp (by omega) (br_f (by decide) ⟨vp_in_nI (by omega) (by decide), hV, x3_isPost_yes hp (by omega) (br_f (by decide) ⟨vp_in_nI (by omega) (by decide), br_t (by rw [rt_cl (by omega), hL.2.2.2 p hp, hL'.2.2.2 p hp]) hK⟩)⟩)
theorem J_told (hI : IX pk fL fN tk fB mk mp fMM fMB fMN) {x : Int32} {V : Prop} (hV : V) {Kn : Prop} {Kb : Int32 → Int32 → Prop} (hK : Kn) :
    wp_X2_told x pk fN (fun r => V ∧ wp_X3_told x mk mp fMN (fun r' => (r = r' → Kn) ∧ (¬ r = r' → Kb r r'))) := by
  obtain ⟨k, n, w, lab, num, hT, hL, hN, hM, hL', hN', hlab, hB⟩ := id hI
  have el := hL.2.2.1
  have el' := hL'.2.2.1
  have b3 := hL.1
  have b4 := hL.2.1
  subst el el'
  rcases pk_ix' x (show n < 2 ^ 31 by omega) with h | ⟨p, hp, rfl⟩
  · exact x0_has_no h (br_t rfl ⟨hV, x3_isPost_no (by omega) (by omega) h (br_t rfl (br_t rfl hK))⟩)
  · exact x0_has_yes hp (by omega) (br_f (by decide) ⟨vp_in_nI (by omega) (by decide), hV, x3_isPost_yes hp (by omega) (br_f (by decide) ⟨vp_in_nI (by omega) (by decide), br_t (by rw [rt_cl (by omega), hN.2.2.2 p hp, hN'.2.2.2 p hp]) hK⟩)⟩)
theorem J_faults (hI : IX pk fL fN tk fB mk mp fMM fMB fMN) {Kn : Prop} {Kb : Int32 → Int32 → Prop} (hK : Kn) :
    wp_X2_faults pk fL tk fB (fun r => wp_X3_faults mk mp fMM fMB (fun r' => (r = r' → Kn) ∧ (¬ r = r' → Kb r r'))) := by
  obtain ⟨k, n, w, lab, num, hT, hL, hN, hM, hL', hN', hlab, hB⟩ := id hI
  exact x2_faults hT hL hlab (x3_faults hM hL' hlab (br_t rfl hK))
theorem J_fault (hI : IX pk fL fN tk fB mk mp fMM fMB fMN) {x : Int32} {V : Prop} (hV : V) {Kn : Prop} {Kb : Int32 → Int32 → Prop} (hK : Kn) :
    wp_X2_fault x pk fL tk fB (fun r => V ∧ wp_X3_fault x mk mp fMM fMB (fun r' => (r = r' → Kn) ∧ (¬ r = r' → Kb r r'))) := by
  obtain ⟨k, n, w, lab, num, hT, hL, hN, hM, hL', hN', hlab, hB⟩ := id hI
  have el := hL.2.2.1
  have el' := hL'.2.2.1
  have b3 := hL.1
  have b4 := hL.2.1
  subst el el'
  rcases pk_ix' x (show n < 2 ^ 31 by omega) with h | ⟨p, hp, rfl⟩
  · exact x0_has_no h (br_t rfl ⟨hV, x3_isPost_no (by omega) (by omega) h ⟨fun z => absurd rfl z, fun _ => br_t rfl hK⟩⟩)
  · exact x0_has_yes hp (by omega) (br_f (by decide) (x0_faultFrom hT hL hlab hp ⟨hV, x3_isPost_yes hp (by omega) ⟨fun _ => x3_faultN hM hL' hlab hp (br_t rfl hK), fun z => absurd z (by decide)⟩⟩))
end JJ
