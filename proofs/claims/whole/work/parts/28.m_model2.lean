theorem x3_cut {s : Nat} (hs : s < 2 ^ 63) {post : Int64 → Prop} (hp : post (lN (min CAP s))) : wp_X3_cut (lN s) post := by
  unfold wp_X3_cut
  have h := pk_lLT (a := CAP) (b := s) (by decide) hs
  by_cases q : CAP < s
  · have e : lg_cmp (lN s) (1000000000000000000 : Int64) = 1 := by
      unfold lg_cmp
      rw [if_pos (show lN s > (1000000000000000000 : Int64) from h.mpr q)]
    rw [e]
    rw [Nat.min_eq_left (by omega)] at hp
    exact br_f (by decide) hp
  · have e : lg_cmp (lN s) (1000000000000000000 : Int64) ≤ 0 := by
      unfold lg_cmp
      rw [if_neg (show ¬ lN s > (1000000000000000000 : Int64) from fun z => q (h.mp z))]
      split <;> decide
    rw [Nat.min_eq_right (by omega)] at hp
    exact br_t e hp
theorem sm_ext {f g : Nat → Nat} {k : Nat} (h1 : ∀ c, c < k → f c = g c) (h2 : ∀ c, k ≤ c → f c = 0) : ∀ n, sm f n = sm g (min n k)
  | 0 => by rw [Nat.zero_min]; rfl
  | n + 1 => by
    rw [sm, sm_ext h1 h2 n]
    by_cases q : n < k
    · rw [Nat.min_eq_left (by omega), Nat.min_eq_left (by omega), sm, h1 n q]
    · rw [Nat.min_eq_right (by omega), Nat.min_eq_right (by omega), h2 n (by omega), Nat.add_zero]
theorem sm_mb {k : Nat} {w : Nat → Nat} (hk6 : k ≤ 6) (b : Nat) (x : Nat → Nat) : sm (fun c => if mb k w c b then x c else 0) 6 = sm (fun c => if (w c).testBit b then x c else 0) k := by
  rw [sm_ext (k := k) (g := fun c => if (w c).testBit b then x c else 0) (fun c hc => by simp [mb, hc]) (fun c hc => by simp [mb, show ¬ c < k by omega]) 6, Nat.min_eq_right hk6]
theorem x3_layMany {k : Nat} {w : Nat → Nat} {mk mp : Int32} {fMM : fI} (hM : MK k w mk fMM) {a n : Nat} (ha : a < k) (hn : n < 2 ^ 30) {fMY fMT : fJ} {post : fJ → fJ → Prop} (hp : ∀ f f2, (∀ b, b < k → f b = lN (cnt k w a n b)) → post f f2) : wp_X3_layMany (nI a) (nI n) mk mp fMM fMY fMT post := by
  obtain ⟨hk1, hk6, rfl, hw, hm⟩ := hM
  unfold wp_X3_layMany wp_X3_layMany_b2
  intro P hP
  refine rt_up (fun i f => P i f) 6 (fun i f => ∀ b, b < i → f b = lN (cnt k w a 0 b)) ?_ ?_ 6 0 fMY (by omega) (fun b h => by omega)
  · intro f h
    refine hP _ _ (br_t (by decide) ?_)
    unfold wp_X3_layMany_b32
    intro P32 hP32
    refine rt_up (fun i (s : fJ × fJ) => P32 i s.1 s.2) n (fun t s => ∀ b, b < k → s.1 b = lN (cnt k w a t b)) ?_ ?_ n 0 (f, fMT) (by omega) (fun b hb => h b (by omega))
    · intro s hs
      exact hP32 _ _ _ (br_t (nI_le (Nat.le_refl _) (by omega)) (hp _ _ hs))
    · intro t s ht hs ih
      obtain ⟨fY, fT⟩ := s
      refine hP32 _ _ _ (br_f (nI_ge ht (by omega)) ?_)
      unfold wp_X3_layMany_b40
      intro P40 hP40
      refine rt_up (fun i f => P40 i f) 6 (fun b f => ∀ b', b' < b → f b' = lN (min CAP (sm (fun c => if mb k w c b' then cnt k w a t c else 0) 6))) ?_ ?_ 6 0 fT (by omega) (fun b h => by omega)
      · intro f3 h3
        refine hP40 _ _ (br_t (by decide) ?_)
        unfold wp_X3_layMany_b131
        intro P131 hP131
        refine rt_up (fun i f => P131 i f) 6 (fun b f => ∀ b', b' < b → f b' = f3 b') ?_ ?_ 6 0 fY (by omega) (fun b h => by omega)
        · intro f4 h4
          refine hP131 _ _ (br_t (by decide) (fun v e => ?_))
          rw [e, rt_inc]
          refine ih (f4, f3) (fun b hb => ?_)
          show f4 b = _
          rw [h4 b (by omega), h3 b (by omega), sm_mb hk6]
          rfl
        · intro b f4 hb h4 ih4
          refine hP131 _ _ (br_f (nI_ge (b := 6) hb (by decide)) ⟨vp_in_nI hb (by decide), vp_in_nI hb (by decide), fun f151 e151 v e => ?_⟩)
          rw [e, rt_inc]
          refine ih4 _ (fun b' hb' => ?_)
          rw [e151, rt_cl (by omega)]
          by_cases q : b' = b
          · subst q; rw [pk_uLs]
          · rw [pk_uLn q]; exact h4 b' (by omega)
      · intro b f3 hb h3 ih3
        refine hP40 _ _ (br_f (nI_ge (b := 6) hb (by decide)) ⟨vp_in_nI hb (by decide), fun f54 e54 => ?_⟩)
        unfold wp_X3_layMany_b58
        intro P58 hP58
        refine rt_up (fun i f => P58 i f) 6 (fun c f => (∀ b', b' < b → f b' = lN (min CAP (sm (fun c => if mb k w c b' then cnt k w a t c else 0) 6))) ∧ f b = lN (min CAP (sm (fun c => if mb k w c b then cnt k w a t c else 0) c))) ?_ ?_ 6 0 f54 (by omega) ⟨fun b' hb' => ?_, ?_⟩
        · intro f4 h4
          refine hP58 _ _ (br_t (by decide) (fun v e => ?_))
          rw [e, rt_inc]
          refine ih3 _ (fun b' hb' => ?_)
          by_cases q : b' = b
          · subst q; exact h4.2
          · exact h4.1 b' (by omega)
        · intro c f4 hc h4 ih4
          obtain ⟨h5, h6⟩ := h4
          refine hP58 _ _ (br_f (nI_ge (b := 6) hc (by decide)) ?_)
          rw [e6]
          refine ⟨vp_in_nI (by omega) (by decide), ?_⟩
          rw [rt_cl (by omega), hm c b hc hb]
          by_cases q : mb k w c b = true
          · rw [if_pos q]
            have hck : c < k := by
              unfold mb at q
              rw [Bool.and_eq_true] at q
              simpa using q.1
            refine br_f (by decide) ⟨vp_in_nI hb (by decide), vp_in_nI hc (by decide), ?_⟩
            rw [rt_cl (by omega), rt_cl (by omega), h6, hs c hck, lN_add]
            have hcap := cnt_le k w a t c
            have hC : CAP = 1000000000000000000 := rfl
            refine x3_cut (by omega) ⟨vp_in_nI hb (by decide), fun f115 e115 v e => ?_⟩
            rw [e, rt_inc]
            refine ih4 _ ⟨fun b' hb' => ?_, ?_⟩
            · rw [e115, pk_uLn (by omega)]; exact h5 b' hb'
            · rw [e115, pk_uLs, sm, if_pos q]
              congr 1
              omega
          · have q : mb k w c b = false := by simpa using q
            rw [q]
            refine br_t rfl ⟨vp_in_nI hb (by decide), vp_in_nI hb (by decide), fun f115 e115 v e => ?_⟩
            rw [e, rt_inc]
            refine ih4 _ ⟨fun b' hb' => ?_, ?_⟩
            · rw [e115, rt_cl (by omega), pk_uLn (by omega)]; exact h5 b' hb'
            · rw [e115, rt_cl (by omega), pk_uLs, h6, sm, q]; rfl
        · rw [e54, rt_cl (by omega), pk_uLn (by omega)]; exact h3 b' hb'
        · rw [e54, rt_cl (by omega), pk_uLs]; rfl
  · intro i f hi h ih
    refine hP _ _ (br_f (nI_ge (b := 6) hi (by decide)) ?_)
    by_cases q : i = a
    · subst q
      refine ⟨fun z => absurd rfl z, fun _ => ⟨vp_in_nI hi (by decide), fun f23 e23 v e => ?_⟩⟩
      rw [e, rt_inc]
      refine ih _ (fun b hb => ?_)
      rw [e23, rt_cl (by omega)]
      by_cases z : b = i
      · subst z; rw [pk_uLs]; show (1 : Int64) = lN (if b = b then 1 else 0); rw [if_pos rfl]; rfl
      · rw [pk_uLn z]; exact h b (by omega)
    · refine ⟨fun _ => ⟨vp_in_nI hi (by decide), fun f23 e23 v e => ?_⟩, fun z => absurd ((nI_eq (by omega) (by omega)).mp z) q⟩
      rw [e, rt_inc]
      refine ih _ (fun b hb => ?_)
      rw [e23, rt_cl (by omega)]
      by_cases z : b = i
      · subst z; rw [pk_uLs]; show (0 : Int64) = lN (if b = a then 1 else 0); rw [if_neg q]; rfl
      · rw [pk_uLn z]; exact h b (by omega)
theorem x3_ringsN {k : Nat} {w : Nat → Nat} {mk mp : Int32} {fMM : fI} (hM : MK k w mk fMM) {n : Nat} (hn : n < 2 ^ 30) {fMY fMT : fJ} {post : Int64 → fJ → fJ → Prop} (hp : ∀ f f2, post (lN (min CAP (sm (fun a => cnt k w a n a) k))) f f2) : wp_X3_rings_b16 (nI n) (0 : Int64) (0 : Int32) mk mp fMM fMY fMT post := by
  have hM0 := hM
  obtain ⟨hk1, hk6, rfl, hw, hm⟩ := hM
  unfold wp_X3_rings_b16
  intro P hP
  refine rt_up (fun i (s : Int64 × fJ × fJ) => P s.1 i s.2.1 s.2.2) k (fun a s => s.1 = lN (min CAP (sm (fun a => cnt k w a n a) a))) ?_ ?_ k 0 ((0 : Int64), fMY, fMT) (by omega) rfl
  · intro s hs
    refine hP _ _ _ _ (br_t (nI_le (Nat.le_refl _) (by omega)) ?_)
    rw [hs]; exact hp _ _
  · intro a s ha hs ih
    refine hP _ _ _ _ (br_f (nI_ge ha (by omega)) (x3_layMany hM0 ha hn ?_))
    intro f f2 hf
    refine ⟨vp_in_nI (by omega) (by decide), ?_⟩
    have hcap := cnt_le k w a n a
    have hC : CAP = 1000000000000000000 := rfl
    rw [rt_cl (by omega), hf a ha, hs, lN_add]
    refine x3_cut (by omega) (fun v e => ?_)
    rw [e, rt_inc]
    refine ih (_, f, f2) ?_
    show lN _ = lN _
    rw [sm]
    congr 1
    omega
theorem x3_next {k : Nat} {w : Nat → Nat} {mk mp : Int32} {fMM : fI} (hM : MK k w mk fMM) {fML : fJ} (hD : LD k w fML) {a t e : Nat} (ha : a < k) (ht : t ≤ 60) (he : e < k) {post : Int32 → Prop} (hno : w a &&& lb k w e t = 0 → post (-9)) (hy : w a &&& lb k w e t ≠ 0 → post (nI (lst (w a &&& lb k w e t)))) : wp_X3_next (nI a) (nI t) (nI e) mk mp fMM fML post := by
  obtain ⟨hk1, hk6, rfl, hw, hm⟩ := hM
  have hlt : w a &&& lb k w e t < 2 ^ k := and_lt (hw a ha)
  unfold wp_X3_next wp_X3_next_b3
  intro P hP
  refine rt_up (fun i (_ : Unit) => P i) k (fun b _ => ∀ j, j < b → (w a &&& lb k w e t).testBit j = false) ?_ ?_ k 0 () (by omega) (fun j h => by omega)
  · intro _ h
    refine hP _ (br_t (nI_le (Nat.le_refl _) (by omega)) ?_)
    refine ⟨fun z => absurd rfl z, fun _ => hno ?_⟩
    apply Nat.eq_of_testBit_eq
    intro i
    rw [Nat.zero_testBit]
    by_cases q : i < k
    · exact h i q
    · cases z : (w a &&& lb k w e t).testBit i with
      | false => rfl
      | true => exact absurd (tb_lt hlt z) q
  · intro b _ hb h ih
    refine hP _ (br_f (nI_ge hb (by omega)) ?_)
    rw [e6]
    refine ⟨vp_in_nI (by omega) (by decide), ?_⟩
    rw [rt_cl (by omega), hm a b (by omega) (by omega)]
    have go : (w a &&& lb k w e t).testBit b = false → ∀ v, v = nI b + (1 : Int32) → P v := by
      intro z v e
      rw [e, rt_inc]
      refine ih () (fun j hj => ?_)
      by_cases q : j = b
      · subst q; exact z
      · exact h j (by omega)
    by_cases q : (w a).testBit b = true
    · have q1 : mb k w a b = true := by simp [mb, ha, q]
      rw [if_pos q1]
      refine br_f (by decide) (x3_isWalk hk6 hD hb he ht ?_)
      by_cases q2 : (lb k w e t).testBit b = true
      · rw [if_pos q2]
        refine ⟨fun _ => ?_, fun z => absurd z (by decide)⟩
        have hbit : (w a &&& lb k w e t).testBit b = true := by rw [Nat.testBit_and, q, q2]; rfl
        refine ⟨fun _ => ?_, fun z => absurd z (rt_nIeq (by omega) (by omega) (by omega))⟩
        have := hy (bit_ne0 hbit)
        rw [lst_is (p64 hk6 hlt) (by omega) h hbit] at this
        exact this
      · rw [if_neg q2]
        exact ⟨fun z => absurd rfl z, fun _ => go (by rw [Nat.testBit_and, q]; simpa using q2)⟩
    · have q1 : mb k w a b = false := by simp [mb]; intro _; simpa using q
      rw [q1]
      exact br_t rfl (go (by rw [Nat.testBit_and]; simp [q]))
theorem x3_layRing {k : Nat} {w : Nat → Nat} {mk mp : Int32} {fMM fMR : fI} (hM : MK k w mk fMM) {fML : fJ} {n : Nat} (hn1 : 1 ≤ n) (hn : n ≤ 60) {post : Int32 → fJ → fI → Prop}
    (hy : ∀ a, a < k → rst k w n k = a → (lb k w a n).testBit a = true → ∀ f f2, LD k w f → (∀ i, i < n → f2 i = nI (pth k w a n a i)) → post 1 f f2) (hno : rst k w n k = k → ∀ f, LD k w f → post 0 f fMR) : wp_X3_layRing (nI n) mk mp fMM fML fMR post := by
  have hM0 := hM
  obtain ⟨hk1, hk6, rfl, hw, hm⟩ := hM
  refine x3_layLeads hM0 (fun f hD => ?_)
  unfold wp_X3_layRing_b6
  intro P hP
  have est : ∀ a, a < k → rst k w n (k - a) = if (lb k w a n).testBit a then a else rst k w n (k - (a + 1)) := by
    intro a ha
    obtain ⟨d, hd⟩ : ∃ d, k - a = d + 1 := ⟨k - a - 1, by omega⟩
    rw [hd, rst, show k - (d + 1) = a by omega, show k - (a + 1) = d by omega]
  refine rt_up (fun i (_ : Unit) => P i) k (fun a _ => rst k w n k = rst k w n (k - a)) ?_ ?_ k 0 () (by omega) rfl
  · intro _ h
    refine hP _ (br_t (nI_le (Nat.le_refl _) (by omega)) ⟨fun z => absurd rfl z, fun _ => hno ?_ f hD⟩)
    rw [h, Nat.sub_self]; rfl
  · intro a _ ha h ih
    refine hP _ (br_f (nI_ge ha (by omega)) (x3_isWalk hk6 hD ha ha hn ?_))
    by_cases q : (lb k w a n).testBit a = true
    · rw [if_pos q]
      refine ⟨fun _ => ?_, fun z => absurd z (by decide)⟩
      refine ⟨fun _ => ⟨vp_in_nI (n := 0) (by decide) (by decide), fun f46 e46 => ?_⟩, fun z => absurd z (rt_nIeq (by omega) (by omega) (by omega))⟩
      unfold wp_X3_layRing_b49
      intro P49 hP49
      refine rt_up (fun i f => P49 i f) n (fun i f => 1 ≤ i ∧ ∀ j, j < i → f j = nI (pth k w a n a j)) ?_ ?_ (n - 1) 1 f46 (by omega) ⟨Nat.le_refl _, fun j hj => ?_⟩
      · intro f2 h2
        exact hP49 _ _ (br_t (nI_le (Nat.le_refl _) (by omega)) (hy a ha (by rw [h, est a ha, if_pos q]) q f f2 hD h2.2))
      · intro i f2 hi h2 ih2
        obtain ⟨h3, h4⟩ := h2
        refine hP49 _ _ (br_f (nI_ge hi (by omega)) ?_)
        have ei : nI i - (1 : Int32) = nI (i - 1) := pk_sub (b := 1) h3
        have en : nI n - nI i = nI (n - i) := pk_sub (by omega)
        rw [ei, en]
        have hlt := pth_lt hk6 hw q ha (i := i - 1) (by omega)
        refine ⟨vp_in_nI (by omega) (by decide), ?_⟩
        rw [rt_cl (by omega), h4 (i - 1) (by omega)]
        have ho := pth_ok hk6 hw q ha (i - 1) (by omega)
        rw [show n - (i - 1) = (n - i) + 1 by omega] at ho
        have hne := (lb_back ho).2
        refine x3_next hM0 hD hlt (by omega) ha (fun z => absurd z hne) (fun _ => ⟨vp_in_nI (by omega) (by decide), fun f75 e75 v e => ?_⟩)
        rw [e, rt_inc]
        refine ih2 _ ⟨by omega, fun j hj => ?_⟩
        rw [e75, rt_cl (by omega)]
        by_cases z : j = i
        · subst z
          rw [pk_us]
          obtain ⟨j', rfl⟩ : ∃ j', j = j' + 1 := ⟨j - 1, by omega⟩
          rfl
        · rw [pk_un z]; exact h4 j (by omega)
      · have ej : j = 0 := by omega
        subst ej
        rw [e46]; rfl
    · rw [if_neg q]
      refine ⟨fun z => absurd rfl z, fun _ v e => ?_⟩
      rw [e, rt_inc]
      refine ih () ?_
      rw [h, est a ha, if_neg q]
theorem x3_isOneBlock {k : Nat} {w : Nat → Nat} (hk1 : 1 ≤ k) (hk6 : k ≤ 6) (hw : ∀ a, a < k → w a < 2 ^ k) {mk mp : Int32} {fML : fJ} (hD : LD k w fML) {a b : Nat} (ha : a < k) (hb : b < k) {post : Int32 → Prop} (hp : post (if ob k w a b then 1 else 0)) : wp_X3_isOneBlock (nI a) (nI b) mk mp fML post := by
  have ex1 : exk (fun t => (lb k w b t).testBit a) 6 = (rch k w a (k - 1)).testBit b := by
    rw [Bool.eq_iff_iff, exk_iff, ← WK_six hk1 hk6 hw ha hb]
    constructor
    · rintro ⟨t, ht, z⟩; exact ⟨t, ht, (lb_iff hw hb t ha).mp z⟩
    · rintro ⟨t, ht, z⟩; exact ⟨t, ht, (lb_iff hw hb t ha).mpr z⟩
  have ex2 : exk (fun t => (lb k w a t).testBit b) 6 = (rch k w b (k - 1)).testBit a := by
    rw [Bool.eq_iff_iff, exk_iff, ← WK_six hk1 hk6 hw hb ha]
    constructor
    · rintro ⟨t, ht, z⟩; exact ⟨t, ht, (lb_iff hw ha t hb).mp z⟩
    · rintro ⟨t, ht, z⟩; exact ⟨t, ht, (lb_iff hw ha t hb).mpr z⟩
  unfold wp_X3_isOneBlock wp_X3_isOneBlock_b8
  intro P hP
  refine rt_up (fun i (s : Int32 × Int32) => P s.1 s.2 i) 6 (fun i s => s.1 = (if exk (fun t => (lb k w b t).testBit a) i then 1 else 0) ∧ s.2 = (if exk (fun t => (lb k w a t).testBit b) i then 1 else 0)) ?_ ?_ 6 0 ((0 : Int32), (0 : Int32)) (by omega) ⟨rfl, rfl⟩
  · intro s hs
    obtain ⟨s1, s2⟩ := s
    obtain ⟨h1, h2⟩ := hs
    simp only at h1 h2
    rw [ex1] at h1
    rw [ex2] at h2
    refine hP _ _ _ (br_t (by decide) ?_)
    show (s1 = 0 → _) ∧ (¬ s1 = 0 → _)
    rw [h1, h2]
    unfold ob at hp
    by_cases q1 : (rch k w a (k - 1)).testBit b = true
    · rw [q1] at hp ⊢
      refine br_f (by decide) ?_
      by_cases q2 : (rch k w b (k - 1)).testBit a = true
      · rw [q2] at hp ⊢
        exact br_f (by decide) hp
      · have q2 : (rch k w b (k - 1)).testBit a = false := by simpa using q2
        rw [q2] at hp ⊢
        exact br_t rfl hp
    · have q1 : (rch k w a (k - 1)).testBit b = false := by simpa using q1
      rw [q1] at hp ⊢
      exact br_t rfl hp
  · intro t s ht hs ih
    obtain ⟨s1, s2⟩ := s
    obtain ⟨h1, h2⟩ := hs
    simp only at h1 h2
    refine hP _ _ _ (br_f (nI_ge (b := 6) ht (by decide)) ?_)
    show (¬ s1 = 0 → _) ∧ (s1 = 0 → _)
    have back : ∀ z : Int32, z = (if exk (fun t => (lb k w b t).testBit a) (t + 1) then 1 else 0) → wp_X3_isOneBlock_b35 (nI a) (nI b) s2 (nI t) z mk mp fML post P := by
      intro z hz
      unfold wp_X3_isOneBlock_b35
      rw [h2]
      by_cases q : exk (fun t => (lb k w a t).testBit b) t = true
      · rw [if_pos q]
        refine ⟨fun _ v e => ?_, fun y => absurd y (by decide)⟩
        rw [e, rt_inc]
        refine ih (z, 1) ⟨hz, ?_⟩
        show (1 : Int32) = _
        rw [exk, q]; rfl
      · have q : exk (fun t => (lb k w a t).testBit b) t = false := by simpa using q
        rw [q]
        refine ⟨fun y => absurd rfl y, fun _ => x3_isWalk hk6 hD hb ha (by omega) ?_⟩
        by_cases q2 : (lb k w a t).testBit b = true
        · rw [if_pos q2]
          refine br_f (by decide) (fun v e => ?_)
          rw [e, rt_inc]
          refine ih (z, 1) ⟨hz, ?_⟩
          show (1 : Int32) = _
          rw [exk, q, q2]; rfl
        · have q2 : (lb k w a t).testBit b = false := by simpa using q2
          rw [q2]
          refine br_t rfl (fun v e => ?_)
          rw [e, rt_inc]
          refine ih (z, 0) ⟨hz, ?_⟩
          show (0 : Int32) = _
          rw [exk, q, q2]; rfl
    rw [h1]
    by_cases q : exk (fun t => (lb k w b t).testBit a) t = true
    · rw [if_pos q]
      exact ⟨fun _ => back 1 (by rw [exk, q]; rfl), fun y => absurd y (by decide)⟩
    · have q : exk (fun t => (lb k w b t).testBit a) t = false := by simpa using q
      rw [q]
      refine ⟨fun y => absurd rfl y, fun _ => x3_isWalk hk6 hD ha hb (by omega) ?_⟩
      by_cases q2 : (lb k w b t).testBit a = true
      · rw [if_pos q2]
        exact br_f (by decide) (back 1 (by rw [exk, q, q2]; rfl))
      · have q2 : (lb k w b t).testBit a = false := by simpa using q2
        rw [q2]
        exact br_t rfl (back 0 (by rw [exk, q, q2]; rfl))
theorem x3_blockOf {k : Nat} {w : Nat → Nat} (hk1 : 1 ≤ k) (hk6 : k ≤ 6) (hw : ∀ a, a < k → w a < 2 ^ k) {mk mp : Int32} {fML : fJ} (hD : LD k w fML) {a : Nat} (ha : a < k) {post : Int32 → Prop} (hp : post (nI (lob k w a))) : wp_X3_blockOf (nI a) mk mp fML post := by
  unfold wp_X3_blockOf wp_X3_blockOf_b2
  intro P hP
  have h1 := lobf_ok (ob_rf hk1 hk6 hw ha) a (Nat.le_refl _)
  have l1 := lob_le k w a
  have key : ∀ d b, b + d = lob k w a → P (nI b) := by
    intro d
    induction d with
    | zero =>
      intro b hb
      have e : b = lob k w a := by omega
      subst e
      apply hP
      refine x3_isOneBlock hk1 hk6 hw hD ha (by omega) ?_
      have z : ob k w a (lob k w a) = true := h1.1
      rw [z]
      exact ⟨fun _ => hp, fun y => absurd y (by decide)⟩
    | succ d ih =>
      intro b hb
      apply hP
      refine x3_isOneBlock hk1 hk6 hw hD ha (by omega) ?_
      have z : ob k w a b = false := h1.2 b (by omega) (by show b < lob k w a; omega)
      rw [z]
      refine ⟨fun y => absurd rfl y, fun _ v e => ?_⟩
      rw [e, rt_inc]
      exact ih (b + 1) (by omega)
  exact key (lob k w a) 0 (by omega)
theorem x3_common {x y : Nat} (hx : x < 2 ^ 31) (hy : y < 2 ^ 31) {post : Int32 → Prop} (hp : post (nI (Nat.gcd x y))) : wp_X3_common (nI x) (nI y) post := by
  unfold wp_X3_common wp_X3_common_b4
  intro P hP
  have key : ∀ m x y, y ≤ m → x < 2 ^ 31 → y < 2 ^ 31 → post (nI (Nat.gcd x y)) → P (nI x) (nI y) := by
    intro m
    induction m with
    | zero =>
      intro x y h1 h2 h3 h4
      have e : y = 0 := Nat.eq_zero_of_le_zero h1
      subst e
      rw [Nat.gcd_zero_right] at h4
      exact hP _ _ (br_t (by decide) h4)
    | succ m ih =>
      intro x y h1 h2 h3 h4
      apply hP
      by_cases q : y = 0
      · subst q
        rw [Nat.gcd_zero_right] at h4
        exact br_t (by decide) h4
      · refine br_f (nI_nle (by omega) h3) ⟨nI_ne0 (by omega) h3, fun v e => ?_⟩
        rw [e, pk_rem h2 (by omega) h3]
        have hm := Nat.mod_lt x (show 0 < y by omega)
        refine ih y (x % y) (by omega) h3 (by omega) ?_
        rw [Nat.gcd_comm y, ← Nat.gcd_rec, Nat.gcd_comm]
        exact h4
  exact key y x y (Nat.le_refl _) hx hy hp
theorem gcf_lt (f : Nat → Bool) : ∀ n, gcf f n ≤ n
  | 0 => Nat.le_refl _
  | n + 1 => by
    have ih := gcf_lt f n
    rw [gcf]
    by_cases q : n ≠ 0 ∧ f n = true
    · rw [if_pos q]
      have := Nat.gcd_le_left (gcf f n) (show 0 < n by omega)
      omega
    · rw [if_neg q]; omega
theorem x3_paceOf {k : Nat} {w : Nat → Nat} (hk6 : k ≤ 6) {mk mp : Int32} {fML : fJ} (hD : LD k w fML) {a : Nat} (ha : a < k) {post : Int32 → Prop} (hp : post (nI (pace k w a))) : wp_X3_paceOf (nI a) mk mp fML post := by
  unfold wp_X3_paceOf wp_X3_paceOf_b4
  intro P hP
  refine rt_up (fun i (g : Int32) => P g i) 61 (fun t g => 1 ≤ t ∧ g = nI (gcf (rl k w a) t)) ?_ ?_ 60 1 _ (by omega) ⟨Nat.le_refl _, rfl⟩
  · intro g h
    refine hP _ _ (br_t (by decide) ?_)
    rw [h.2]; exact hp
  · intro t g ht h ih
    obtain ⟨h1, h2⟩ := h
    subst h2
    have hl := gcf_lt (rl k w a) t
    refine hP _ _ (br_f (nI_nlt (a := 60) (by omega) (by decide)) (x3_isWalk hk6 hD ha ha (by omega) ?_))
    by_cases q : (lb k w a t).testBit a = true
    · rw [if_pos q]
      refine br_f (by decide) (x3_common (by omega) (by omega) (fun v e => ?_))
      rw [e, rt_inc]
      refine ih _ ⟨by omega, ?_⟩
      rw [gcf, if_pos ⟨by omega, q⟩]
    · rw [if_neg q]
      refine br_t rfl (fun v e => ?_)
      rw [e, rt_inc]
      refine ih _ ⟨by omega, ?_⟩
      rw [gcf, if_neg (fun z => q z.2)]
