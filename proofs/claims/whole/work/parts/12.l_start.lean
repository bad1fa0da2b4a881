/-! THE CLAIM OUT OF ONE WALK OF THE LAW'S BODY. Your part is whole_start (and what it stands on); all else here is the same for every law, but numbers. -/
def R_law : String := "RingTasksLaw"
def lw_P (b : Addr) (xs : List Int32) (args : Array Value) (s : State) : Prop := args = #[.ref b] ∧ s.IntsAt b xs ∧ xs.length ≤ 2048 ∧ (Jvm.Cond.and given_1 narrow_1).before args s = true
def lw_Q (_ : Array Value) (s : State) (o : Outcome) (t : State) : Prop := o = .returned (some (.int 1)) ∧ Framed s o t [] 18 569
def lw_Z (below : List Frame) (a : Array Value) (s : State) : State → Prop := fun t => ∃ o, t.status = .running ∧ Ended t below o ∧ lw_Q a s o t
/-- the law's own end, with 1 on the stack, nothing written that was there before, its room as the claim has it -/
theorem lw_ret {p : Program} {l : Launch} {e : Env} {s : State} {m : MethodId} {below : List Frame} {meth : Method} {c : Code} {b : Nat} (hx : p.tables.exec = Jvm.exec) (hb : c.code = code) (hr : meth.sig.returnType = ret) (hlocks : meth.locks = false) {pc : Nat} {H : Heap} {ls : Array Slot} (hdg : decode code pc = .ok (.ireturn, 1)) : W p l e room_1 s m #[Value.ref b] below meth c H [] 18 569 (lw_Z below #[Value.ref b] s) (F0 m pc ls [.int 1]) := by
  intro T hT X
  obtain ⟨fs, hret, hrun, hended, hW, hframe⟩ := X.leave (v := some (.int 1)) (hlocks := hlocks) (fun h => by rw [hr] at h; cases h)
  have hmeth' : T.vm.method? m = some meth := X.method'
  refine ⟨T.setFrames fs, ?_, .returned (some (.int 1)), hrun, hended, rfl, ⟨_, rfl⟩, hW, hframe⟩
  jvm_step X.here [X.here.top, hx, hb, hdg, hmeth', hr, ret, narrow_b1]
  (try refine ⟨rfl, ?_⟩); (try refine ⟨rfl, ?_⟩)
  first | (intro acts; rw [hret _ acts rfl rfl rfl]) | rw [hret _ _ rfl rfl rfl]
  exact Steps.refl _
/-- what holds at the law's entry: the machine, the code, the tables' words (any of lw_tbl by 'hts w (by decide +kernel)'), the script of L ints xs at the cell b, what the Statement gives of the start (any of its parts by flat_of_before) -/
def lw_At (p : Program) (s : State) (m : MethodId) (meth : Method) (c : Code) (b L : Nat) (xs : Nat → Int32) : Prop :=
  p.tables.exec = Jvm.exec ∧ c.code = code ∧ meth.sig.returnType = ret ∧ c.maxLocals = 4 ∧ s.vm.findClass R_law = some m.cls ∧ (∀ w ∈ lw_tbl, w.before #[Value.ref b] s = true) ∧ va_X b L xs s s.heap ∧ b < s.heap.size ∧ meth.locks = false ∧ (Jvm.Cond.and given_1 narrow_1).before #[Value.ref b] s = true
/-- what is left of the law when its code is walked: a statement on numbers alone -/
def lawPure (L : Nat) (xs : Nat → Int32) : Prop := wp_X2_init (fun (pk : Int32) (fL : (Nat → Int32)) (fN : (Nat → Int32)) (tk : Int32) (fB : (Nat → Int32)) => wp_X3_init (fun (mk : Int32) (mp : Int32) (fMM : (Nat → Int32)) (fMB : (Nat → Int32)) (fMN : (Nat → Int32)) => wp_L_law_b18 (0 : Int32) L xs pk fL fN tk fB (fun _ => (0 : Int32)) (fun _ => (0 : Int32)) (fun _ => (0 : Int64)) (fun _ => (0 : Int64)) mk mp fMM (fun _ => (0 : Int64)) (fun _ => (0 : Int64)) (fun _ => (0 : Int64)) (fun _ => (0 : Int32)) fMB fMN (fun (r : Int32) _ _ _ _ _ _ _ _ _ _ _ _ _ _ _ _ _ _ => r = 1)))
theorem m_arr {ty : FieldType} {args : Array Value} {s : State} (h : (Cond.arrayClass ty).before args s = true) (hr : ∀ cA, s.vm.findClass ("[" ++ ty.toString) = some cA → va_RA s cA ty) : ∃ cA : ClassId, ArrOfT s cA ty ∧ va_RA s cA ty := by
  obtain ⟨cA, kA, comp, h1, h2, h3⟩ := Cond.arrayClass_spec h
  exact ⟨cA, fun n z => ⟨fun k h => (by cases h), kA, h2, comp, h3⟩, hr cA h1⟩
set_option maxHeartbeats 1000000 in
set_option maxRecDepth 100000 in
theorem whole_start_of {p : Program} {e : Env} {s : State} {m : MethodId} {below : List Frame} {meth : Method} {c : Code} (l : Launch) {b L : Nat} {xs : Nat → Int32} (h : lawPure L xs) (C0 : lw_At p s m meth c b L xs) : W p l e room_1 s m #[Value.ref b] below meth c s.heap [] 0 0 (lw_Z below #[Value.ref b] s) (entryFrame m ([Value.ref b] : List Value).toArray 4) := by
  obtain ⟨hx, hb, hr, hml, hown, hts, hX, hbl, hlocks, hgv⟩ := C0
  have htsL : ∀ w ∈ wsL_law, w.before #[Value.ref b] s = true := fun w hw => hts w (wsL_law_in w hw)
  have hA : ∀ q : Nat, s.heap.size ≤ q → (fun q : Nat => s.heap.size ≤ q) q := fun _ h => h
  have hbA : ¬ (fun q : Nat => s.heap.size ≤ q) b := Nat.not_le.mpr hbl
  obtain ⟨c0, iS0, hKn0⟩ := u_known (C := RX0) (T := TX0) (N := 3) (n := 3) hts inX0 (htsL (.instantiable RX0 3) (List.mem_of_getElem? (i := 17) rfl))
  obtain ⟨c1, iS1, hKn1⟩ := u_known (C := RX1) (T := TX1) (N := 6) (n := 6) hts inX1 (htsL (.instantiable RX1 6) (List.mem_of_getElem? (i := 13) rfl))
  obtain ⟨c2, iS2, hKn2⟩ := u_known (C := RX2) (T := TX2) (N := 2) (n := 2) hts inX2 (htsL (.instantiable RX2 2) (List.mem_of_getElem? (i := 1) rfl))
  obtain ⟨c3, iS3, hKn3⟩ := u_known (C := RX3) (T := TX3) (N := 9) (n := 9) hts inX3 (htsL (.instantiable RX3 9) (List.mem_of_getElem? (i := 4) rfl))
  obtain ⟨dC, dI, hKc⟩ : ∃ (dC : Nat → ClassId) (dI : Nat → Nat → Nat), ∀ (k : Nat) (q : vw_C), vwCl[k]? = some q → u_Kn s q.1 q.2.1 q.2.2 (dC k) (dI k) := by
    refine ⟨fun k => if k = 0 then c0 else if k = 1 then c1 else if k = 2 then c2 else c3, fun k => if k = 0 then iS0 else if k = 1 then iS1 else if k = 2 then iS2 else iS3, ?_⟩
    intro k q hq
    match k, hq with
    | 0, hq => cases hq; exact hKn0
    | 1, hq => cases hq; exact hKn1
    | 2, hq => cases hq; exact hKn2
    | 3, hq => cases hq; exact hKn3
    | k + 4, hq => simp [vwCl] at hq
  obtain ⟨cI, hcI⟩ := m_arr (htsL (.arrayClass .int) (List.mem_of_getElem? (i := 24) rfl)) (fun cA q => q)
  obtain ⟨cJ, hcJ⟩ := m_arr (htsL (.arrayClass .long) (List.mem_of_getElem? (i := 28) rfl)) (fun cA q => q)
  obtain ⟨cZ, hcZ⟩ := m_arr (htsL (.arrayClass .boolean) (List.mem_of_getElem? (i := 64) rfl)) (fun cA q => q)
  have hK : va_K (dC, dI) vwCl (mTy cI cJ cZ) s := ⟨hKc, fun k q hq => by
    match k, hq with
    | 0, hq => cases hq; exact hcI
    | 1, hq => cases hq; exact hcJ
    | 2, hq => cases hq; exact hcZ
    | k + 3, hq => simp [mTy] at hq⟩
  have hS : va_S (fun q : Nat => s.heap.size ≤ q) s.heap s.heap [] := va_S.rf
  have hP : va_P (dC, dI) vwCl [] s.heap := fun k q h => by simp at h
  have hD : va_D (fun q : Nat => s.heap.size ≤ q) [] := ⟨fun i j p q h => by simp at h, fun k q h => by simp at h⟩
  have hl := lv_entry ([.ref b]) (n := 4) (Nat.le_of_ble_eq_true rfl)
  rw [lg_entry_eq]
  generalize (lg_sl ([.ref b]) ++ List.replicate (4 - (lg_sl ([.ref b])).length) Slot.unset).toArray = ls at hl ⊢
  have hl : lv_has ls 4 [(0, .ref b)] := hl
  unfold lawPure at h
  refine va_new (ci := 2) (fs := [.null, .null]) (C := RX2) (T := TX2) (N := 2) hx hb hts inX2 tyX2 tyX2_ok hown (htsL (.classLink RL 7 RX2) (List.mem_of_getElem? (i := 0) rfl)) (htsL (.instantiable RX2 2) (List.mem_of_getElem? (i := 1) rfl)) (htsL (.initialized RX2) (List.mem_of_getElem? (i := 2) rfl)) hK hP hD hS hA rfl (fun j hj => by rcases (show j = 0 ∨ j = 1 by omega) with rfl | rfl <;> rfl) (Nat.le_of_ble_eq_true rfl) (Nat.le_of_ble_eq_true rfl) dL_law_0 (fun aR H hP hD hS => ?_)
  have hP : va_P (dC, dI) vwCl [(aR, .inr (2, [.null, .null]))] H := hP
  have hD : va_D (fun q : Nat => s.heap.size ≤ q) [(aR, .inr (2, [.null, .null]))] := hD
  refine W.widen (k := 1) (n := 2) (Nat.le_of_ble_eq_true rfl) (Nat.le_of_ble_eq_true rfl) ?_
  refine lv_dup hx hb dL_law_3 rfl ?_
  refine mIv (wr := []) (As := []) (rest := [.ref aR]) ⟨hx, hb, hml, hown, htsL⟩ (c_X2_init (l := l) (dC := dC) (dI := dI) (cI := cI) (cJ := cJ) (cZ := cZ) (aR := aR) h) (cwI 0 htsL gL_law_X2_init rfl rfl rfl (htsL (.initialized RX2) (List.mem_of_getElem? (i := 2) rfl)) (htsL (.methodLink RL 9 yX2_init) (List.mem_of_getElem? (i := 6) rfl)) (htsL (.instanceMethod yX2_init) (List.mem_of_getElem? (i := 7) rfl)) rfl hv_X2_init ⟨Nat.le_of_ble_eq_true rfl, Nat.le_of_ble_eq_true rfl⟩) hK hP hD hS hA [0] [] rfl rfl rfl rfl (by decide) rfl hl.1 rfl (Nat.le_of_ble_eq_true rfl) ⟨Nat.le_of_ble_eq_true rfl, Nat.le_of_ble_eq_true rfl⟩ dL_law_4 (fun u H locs h hP hD hS => ?_)
  obtain ⟨⟨aT, aB, aWK, aRE, aY, aZ, aP, aL, aN⟩, pk, fL, fN, tk, fB⟩ := u
  have hP : va_P (dC, dI) vwCl [oR aR aT aP, oP aP aL aN pk, aI aL cI 60 fL, aI aN cI 60 fN, oT aT aB aWK aRE aY aZ tk, aI aB cI 6 fB, aI aWK cI 61 (fun _ => (0 : Int32)), aI aRE cI 61 (fun _ => (0 : Int32)), aJ aY cJ 6 (fun _ => (0 : Int64)), aJ aZ cJ 6 (fun _ => (0 : Int64))] H := hP
  have hD : va_D (fun q : Nat => s.heap.size ≤ q) [oR aR aT aP, oP aP aL aN pk, aI aL cI 60 fL, aI aN cI 60 fN, oT aT aB aWK aRE aY aZ tk, aI aB cI 6 fB, aI aWK cI 61 (fun _ => (0 : Int32)), aI aRE cI 61 (fun _ => (0 : Int32)), aJ aY cJ 6 (fun _ => (0 : Int64)), aJ aZ cJ 6 (fun _ => (0 : Int64))] := hD
  refine W.widen (k := 10) (n := 271) (Nat.le_of_ble_eq_true rfl) (Nat.le_of_ble_eq_true rfl) ?_
  refine lv_astore_n (lv' := [(1, .ref aR), (0, .ref b)]) hx hb dL_law_7 rfl hl (by decide) rfl (fun ls hl => ?_)
  refine va_new (ci := 3) (fs := [.int 0, .null, .null, .null, .null, .null, .int 0, .null, .null]) (C := RX3) (T := TX3) (N := 9) hx hb hts inX3 tyX3 tyX3_ok hown (htsL (.classLink RL 10 RX3) (List.mem_of_getElem? (i := 3) rfl)) (htsL (.instantiable RX3 9) (List.mem_of_getElem? (i := 4) rfl)) (htsL (.initialized RX3) (List.mem_of_getElem? (i := 5) rfl)) hK hP hD hS hA rfl (fun j hj => by rcases (show j = 0 ∨ j = 1 ∨ j = 2 ∨ j = 3 ∨ j = 4 ∨ j = 5 ∨ j = 6 ∨ j = 7 ∨ j = 8 by omega) with rfl | rfl | rfl | rfl | rfl | rfl | rfl | rfl | rfl <;> rfl) (Nat.le_of_ble_eq_true rfl) (Nat.le_of_ble_eq_true rfl) dL_law_8 (fun aM H hP hD hS => ?_)
  have hP : va_P (dC, dI) vwCl [oR aR aT aP, oP aP aL aN pk, aI aL cI 60 fL, aI aN cI 60 fN, oT aT aB aWK aRE aY aZ tk, aI aB cI 6 fB, aI aWK cI 61 (fun _ => (0 : Int32)), aI aRE cI 61 (fun _ => (0 : Int32)), aJ aY cJ 6 (fun _ => (0 : Int64)), aJ aZ cJ 6 (fun _ => (0 : Int64)), (aM, .inr (3, [.int 0, .null, .null, .null, .null, .null, .int 0, .null, .null]))] H := hP
  have hD : va_D (fun q : Nat => s.heap.size ≤ q) [oR aR aT aP, oP aP aL aN pk, aI aL cI 60 fL, aI aN cI 60 fN, oT aT aB aWK aRE aY aZ tk, aI aB cI 6 fB, aI aWK cI 61 (fun _ => (0 : Int32)), aI aRE cI 61 (fun _ => (0 : Int32)), aJ aY cJ 6 (fun _ => (0 : Int64)), aJ aZ cJ 6 (fun _ => (0 : Int64)), (aM, .inr (3, [.int 0, .null, .null, .null, .null, .null, .int 0, .null, .null]))] := hD
  refine W.widen (k := 11) (n := 280) (Nat.le_of_ble_eq_true rfl) (Nat.le_of_ble_eq_true rfl) ?_
  refine lv_dup hx hb dL_law_11 rfl ?_
  refine mIv (wr := [oR aR aT aP, oP aP aL aN pk, aI aL cI 60 fL, aI aN cI 60 fN, oT aT aB aWK aRE aY aZ tk, aI aB cI 6 fB, aI aWK cI 61 (fun _ => (0 : Int32)), aI aRE cI 61 (fun _ => (0 : Int32)), aJ aY cJ 6 (fun _ => (0 : Int64)), aJ aZ cJ 6 (fun _ => (0 : Int64))]) (As := []) (rest := [.ref aM]) ⟨hx, hb, hml, hown, htsL⟩ (c_X3_init (l := l) (dC := dC) (dI := dI) (cI := cI) (cJ := cJ) (cZ := cZ) (aM := aM) h) (cwI 0 htsL gL_law_X3_init rfl rfl rfl (htsL (.initialized RX3) (List.mem_of_getElem? (i := 5) rfl)) (htsL (.methodLink RL 12 yX3_init) (List.mem_of_getElem? (i := 60) rfl)) (htsL (.instanceMethod yX3_init) (List.mem_of_getElem? (i := 61) rfl)) rfl hv_X3_init ⟨Nat.le_of_ble_eq_true rfl, Nat.le_of_ble_eq_true rfl⟩) hK hP hD hS hA [10] [0, 1, 2, 3, 4, 5, 6, 7, 8, 9] rfl rfl rfl rfl (by decide) rfl hl.1 rfl (Nat.le_of_ble_eq_true rfl) ⟨Nat.le_of_ble_eq_true rfl, Nat.le_of_ble_eq_true rfl⟩ dL_law_12 (fun u H locs h hP hD hS => ?_)
  obtain ⟨⟨aMM, aML, aMY, aMT, aMR, aMB, aMN⟩, mk, mp, fMM, fMB, fMN⟩ := u
  have hP : va_P (dC, dI) vwCl [oR aR aT aP, oP aP aL aN pk, aI aL cI 60 fL, aI aN cI 60 fN, oT aT aB aWK aRE aY aZ tk, aI aB cI 6 fB, aI aWK cI 61 (fun _ => (0 : Int32)), aI aRE cI 61 (fun _ => (0 : Int32)), aJ aY cJ 6 (fun _ => (0 : Int64)), aJ aZ cJ 6 (fun _ => (0 : Int64)), oM aM aMM aML aMY aMT aMR aMB aMN mk mp, aI aMM cZ 36 fMM, aJ aML cJ 61 (fun _ => (0 : Int64)), aJ aMY cJ 6 (fun _ => (0 : Int64)), aJ aMT cJ 6 (fun _ => (0 : Int64)), aI aMR cI 60 (fun _ => (0 : Int32)), aI aMB cI 60 fMB, aI aMN cI 60 fMN] H := hP
  have hD : va_D (fun q : Nat => s.heap.size ≤ q) [oR aR aT aP, oP aP aL aN pk, aI aL cI 60 fL, aI aN cI 60 fN, oT aT aB aWK aRE aY aZ tk, aI aB cI 6 fB, aI aWK cI 61 (fun _ => (0 : Int32)), aI aRE cI 61 (fun _ => (0 : Int32)), aJ aY cJ 6 (fun _ => (0 : Int64)), aJ aZ cJ 6 (fun _ => (0 : Int64)), oM aM aMM aML aMY aMT aMR aMB aMN mk mp, aI aMM cZ 36 fMM, aJ aML cJ 61 (fun _ => (0 : Int64)), aJ aMY cJ 6 (fun _ => (0 : Int64)), aJ aMT cJ 6 (fun _ => (0 : Int64)), aI aMR cI 60 (fun _ => (0 : Int32)), aI aMB cI 60 fMB, aI aMN cI 60 fMN] := hD
  refine W.widen (k := 18) (n := 569) (Nat.le_of_ble_eq_true rfl) (Nat.le_of_ble_eq_true rfl) ?_
  refine lv_astore_n (lv' := [(2, .ref aM), (1, .ref aR), (0, .ref b)]) hx hb dL_law_15 rfl hl (by decide) rfl (fun ls hl => ?_)
  refine lv_iconst (v := 0) hx hb dL_law_16 (by decide) ?_
  refine lv_istore_n (lv' := [(3, .int 0), (2, .ref aM), (1, .ref aR), (0, .ref b)]) hx hb dL_law_17 rfl hl (by decide) rfl (fun ls hl => ?_)
  refine k_law (aS := b) (dC := dC) (dI := dI) (cI := cI) (cJ := cJ) (cZ := cZ) (aR := aR) (aT := aT) (aP := aP) (aL := aL) (aN := aN) (aB := aB) (aWK := aWK) (aRE := aRE) (aY := aY) (aZ := aZ) (aM := aM) (aMM := aMM) (aML := aML) (aMY := aMY) (aMT := aMT) (aMR := aMR) (aMB := aMB) (aMN := aMN) hx hb hml hown htsL hK hA hX hbl hbA (fun r _ _ _ _ _ _ _ _ _ _ _ _ _ _ _ _ _ _ H locs ls pc hd _ hr1 hP hD hS => ?_) h H locs ls hP hD hS (lv_sub hl [3, 2, 1, 0] rfl)
  subst hr1
  refine va_forget (fun q hq => hS.2.2 q hq) ?_
  exact lw_ret hx hb hr hlocks hd
