set_option maxHeartbeats 4000000 in
theorem law_pure {L : Nat} {xs : Nat → Int32} (hL : L ≤ 2048) : lawPure L xs := by
  unfold lawPure wp_X2_init wp_X1_init
  refine x1_restart (k := 3) (by decide) (by decide) (fun fB hT => ?_)
  unfold wp_X0_init
  refine x0_restart (n := 3) (by decide) (by decide) (fun fL fN hLb hN => ?_)
  unfold wp_X3_init
  refine x3_begin (k := 3) (by decide) (by decide) (fun fMM fMB0 hM _ => ?_)
  refine x3_lay (n := 3) (by decide) (by decide) (fun fMB fMN hLb' hN' => ?_)
  have hI0 : IX (nI 3) fL fN (nI 3) fB (nI 3) (nI 3) fMM fMB fMN := ⟨3, 3, fullw 3, fun _ => 0, fun p => p, hT, hLb, hN, hM, hLb', hN', fun p _ => (by show 0 < 3; decide), fun p hp => (by show p < 1073741824; omega)⟩
  unfold wp_L_law_b18
  intro P hP
  have key : ∀ (d i : Nat) (pk : Int32) (fL fN : fI) (tk : Int32) (fB fWK fRE : fI) (fY fZ : fJ) (mk mp : Int32) (fMM : fI) (fML fMY fMT : fJ) (fMR fMB fMN : fI), L ≤ i + 4 * d + 3 → i ≤ 2048 → IX pk fL fN tk fB mk mp fMM fMB fMN → P (nI i) pk fL fN tk fB fWK fRE fY fZ mk mp fMM fML fMY fMT fMR fMB fMN := by
    intro d
    induction d with
    | zero =>
      intro i pk fL fN tk fB fWK fRE fY fZ mk mp fMM fML fMY fMT fMR fMB fMN h1 h2 hI
      apply hP
      refine br_t ?_ rfl
      show nI L - nI 4 < nI i
      rw [i_lt, pk_sub_toInt (by omega) (by omega), nI_toInt (by omega)]
      omega
    | succ d ih =>
      intro i pk fL fN tk fB fWK fRE fY fZ mk mp fMM fML fMY fMT fMR fMB fMN h1 h2 hI
      apply hP
      by_cases q : i + 4 ≤ L
      · refine br_f ?_ ⟨vp_in_nI (by omega) (by omega), ?_⟩
        · show ¬ nI L - nI 4 < nI i
          rw [i_lt, pk_sub_toInt (by omega) (by omega), nI_toInt (by omega)]
          omega
        have nxt : ∀ {pk : Int32} {fL fN : fI} {tk : Int32} {fB fWK fRE : fI} {fY fZ : fJ} {mk mp : Int32} {fMM : fI} {fML fMY fMT : fJ} {fMR fMB fMN : fI}, IX pk fL fN tk fB mk mp fMM fMB fMN → ∀ v : Int32, v = nI i + (4 : Int32) → P v pk fL fN tk fB fWK fRE fY fZ mk mp fMM fML fMY fMT fMR fMB fMN := by
          intro pk fL fN tk fB fWK fRE fY fZ mk mp fMM fML fMY fMT fMR fMB fMN hX v e
          rw [e, show (4 : Int32) = nI 4 from rfl, nI_add]
          exact ih (i + 4) pk fL fN tk fB fWK fRE fY fZ mk mp fMM fML fMY fMT fMR fMB fMN (by omega) (by omega) hX
        have v1 : vp_in (nI i + (1 : Int32)) L := by rw [rt_inc]; exact vp_in_nI (by omega) (by omega)
        have v2 : vp_in (nI i + (2 : Int32)) L := by rw [show (2 : Int32) = nI 2 from rfl, nI_add]; exact vp_in_nI (by omega) (by omega)
        have v3 : vp_in (nI i + (3 : Int32)) L := by rw [show (3 : Int32) = nI 3 from rfl, nI_add]; exact vp_in_nI (by omega) (by omega)
        refine ⟨fun _ => nxt hI, fun _ => ⟨v1, J_labels hI v1 (fun _ _ _ _ _ _ h => nxt h)⟩, fun _ => ⟨v1, v2, v3, ?_⟩, fun _ => ⟨v1, v2, J_may hI v1 v2 (nxt hI)⟩, fun _ => ⟨v1, J_rings hI v1 (fun _ _ _ _ => nxt hI)⟩, fun _ => ⟨v1, v2, J_first hI v1 v2 (fun _ _ _ _ => nxt hI)⟩, fun _ => ⟨v1, v2, v3, J_walks hI v1 v2 v3 (fun _ _ _ _ => nxt hI)⟩, fun _ => J_blocks hI (fun _ => nxt hI), fun _ => ⟨v1, J_block hI v1 (fun _ => nxt hI)⟩, fun _ => ⟨v1, J_pace hI v1 (fun _ _ => nxt hI)⟩, fun _ => J_kind hI (fun _ _ => nxt hI), fun _ => J_sure hI (fun _ _ => nxt hI), fun _ => ⟨v1, J_free hI v1 (fun _ _ => nxt hI)⟩, fun _ => J_mirrors hI (fun _ => nxt hI), fun _ => ⟨v1, J_ring hI v1 (fun _ _ _ _ _ _ h => nxt h)⟩, fun _ => ⟨v1, v2, J_put hI v1 v2 (fun _ _ h => nxt h)⟩, fun _ => ⟨v1, J_at hI v1 (nxt hI)⟩, fun _ => J_faults hI (nxt hI), fun _ => ⟨v1, J_fault hI v1 (nxt hI)⟩, fun _ => ⟨v1, J_mend hI v1 (fun _ _ _ _ _ _ h => nxt h)⟩, fun _ => J_fresh hI (fun _ _ _ _ _ _ h => nxt h), fun _ => ⟨v1, v2, J_number hI v1 v2 (fun _ _ h => nxt h)⟩, fun _ => ⟨v1, J_told hI v1 (nxt hI)⟩, fun _ => J_round hI (fun _ _ _ h => nxt h), fun _ => J_colours hI (fun _ _ _ h => nxt h), fun _ => J_take hI (fun _ _ h => nxt h), fun _ => ⟨v1, J_count hI v1 (nxt hI)⟩⟩
        refine ⟨fun hc => ?_, fun hc => ?_⟩
        · unfold wp_L_law_b199
          refine J_allow hI (Or.inl rfl) (fun r a H => ⟨v1, v2, v3, fun _ => ?_, fun hc' => absurd hc hc'⟩)
          unfold wp_L_law_b226
          exact H _ (fun b hb => br_t rfl (nxt hb))
        · unfold wp_L_law_b199
          refine J_allow hI (Or.inr rfl) (fun r a H => ⟨v1, v2, v3, fun hc' => absurd hc' hc, fun _ => ?_⟩)
          unfold wp_L_law_b226
          exact H _ (fun b hb => br_t rfl (nxt hb))
      · refine br_t ?_ rfl
        show nI L - nI 4 < nI i
        rw [i_lt, pk_sub_toInt (by omega) (by omega), nI_toInt (by omega)]
        omega
  exact key 512 0 _ _ _ _ _ _ _ _ _ _ _ _ _ _ _ _ _ _ (by omega) (by omega) hI0
