def wp_X2_labels (x1 : Int32) (pk : Int32) (fL : (Nat → Int32)) (tk : Int32) (fB : (Nat → Int32)) (post : Int32 → (Nat → Int32) → Int32 → (Nat → Int32) → Prop) : Prop := ((x1 < (1 : Int32) → post (-2 : Int32) fL tk fB) ∧ (¬ x1 < (1 : Int32) → ((x1 ≤ (6 : Int32) → wp_X1_restart x1 tk fB (fun (tk_27 : Int32) (fB_27 : (Nat → Int32)) => wp_X0_clearLabels pk fL (fun (fL_34 : (Nat → Int32)) => post tk fL_34 tk_27 fB_27))) ∧ (¬ x1 ≤ (6 : Int32) → post (-2 : Int32) fL tk fB))))
abbrev rm_X2_labels : Room := { frames := 2, cells := 0, slots := 0, locals := 49 }
theorem hv_X2_labels : yX2_labels.cls = RX2 ∧ yX2_labels.cls ≠ "java/lang/invoke/MethodHandle" ∧ yX2_labels.cls ≠ "java/lang/invoke/VarHandle" ∧ (parseMethodDescriptor yX2_labels.desc).map (fun d => d.parameters.length) = some 1 := by decide +kernel
set_option maxHeartbeats 4000000 in
set_option maxRecDepth 100000 in
theorem k_X2_labels {p : Program} {l : Launch} {e : Env} {s : State} {m : MethodId} {args : Array Value} {below : List Frame} {meth : Method} {c : Code} {Q : State → Prop} {A : Nat → Prop} {dC : Nat → ClassId} {dI : Nat → Nat → Nat} {cI cJ cZ : ClassId} (hx : p.tables.exec = Jvm.exec) (hb : c.code = cX2_labels) (hml : c.maxLocals = 3) (hown : s.vm.findClass RX2 = some m.cls) (hts : ∀ w ∈ wsX2_labels, w.before args s = true) (hK : va_K (dC, dI) vwCl (mTy cI cJ cZ) s) (hA : ∀ q, s.heap.size ≤ q → A q) {aR aT aP aL aN aB aWK aRE aY aZ : Nat} {pk : Int32} {fL : (Nat → Int32)} {tk : Int32} {fB : (Nat → Int32)} {x1 : Int32} {post : Int32 → (Nat → Int32) → Int32 → (Nat → Int32) → Prop} (ret : ∀ (r : Int32) (fL' : (Nat → Int32)) (tk' : Int32) (fB' : (Nat → Int32)) (H : Heap) (locs : List Loc) (ls : Array Slot) (pc : Nat), decode cX2_labels pc = .ok (.ireturn, 1) → post r fL' tk' fB' → va_P (dC, dI) vwCl [oR aR aT aP, oP aP aL aN pk, aI aL cI 60 fL', oT aT aB aWK aRE aY aZ tk', aI aB cI 6 fB'] H → va_D A [oR aR aT aP, oP aP aL aN pk, aI aL cI 60 fL', oT aT aB aWK aRE aY aZ tk', aI aB cI 6 fB'] → va_S A s.heap H locs → W p l e rm_X2_labels s m args below meth c H locs 0 0 Q (F0 m pc ls [.int r])) (h : wp_X2_labels x1 pk fL tk fB post) : mW p l e rm_X2_labels s m args below meth c 0 0 Q A (dC, dI) 3 [oR aR aT aP, oP aP aL aN pk, aI aL cI 60 fL, oT aT aB aWK aRE aY aZ tk, aI aB cI 6 fB] [(0, .ref aR), (1, .int x1)] 0 [] := by
  have in_X1 : ∀ w ∈ wsX10, w ∈ wsX2_labels := fun w hw => List.mem_cons_of_mem _ (List.mem_append_left _ (List.mem_append_right _ hw))
  have in_X2 : ∀ w ∈ wsX20, w ∈ wsX2_labels := fun w hw => List.mem_cons_of_mem _ (List.mem_append_left _ (List.mem_append_left _ (List.mem_append_right _ hw)))
  have k_12 := hts (.fieldLink RX2 12 "RingTasks" "task" "LRingTasks$Task;") (List.mem_of_getElem? (i := 1) rfl)
  have k_21 := hts (.fieldLink RX2 21 "RingTasks" "posts" "LRingTasks$Posts;") (List.mem_of_getElem? (i := 3) rfl)
  have k_25 := hts (.fieldLink RX2 25 "RingTasks$Task" "size" "I") (List.mem_of_getElem? (i := 2) rfl)
  unfold wp_X2_labels at h
  intro H locs ls hP hD hS hl
  refine lv_iload_n hx hb dX2_labels_0 rfl (lv_at hl 1 rfl) ?_
  refine lv_iconst (v := 1) hx hb dX2_labels_1 (by decide) ?_
  refine lv_icmp_lt (tgt := 11) hx hb dX2_labels_2 (by decide) (fun q2 => ?_) (fun q2 => ?_)
  · have h := h.1 q2
    refine lv_bipush (v := -2) hx hb dX2_labels_11 (by decide) ?_
    exact ret _ _ _ _ H locs ls _ dX2_labels_13 h hP hD hS
  · have h := h.2 q2
    refine lv_iload_n hx hb dX2_labels_5 rfl (lv_at hl 1 rfl) ?_
    refine lv_bipush (v := 6) hx hb dX2_labels_6 (by decide) ?_
    refine lv_icmp_le (tgt := 14) hx hb dX2_labels_8 (by decide) (fun q8 => ?_) (fun q8 => ?_)
    · have h := h.1 q8
      refine lv_aload_n hx hb dX2_labels_14 rfl (lv_at hl 0 rfl) ?_
      refine va_get (D := (dC, dI)) (ci := 2) (v := .ref aT) (C := RX2) (T := TX2) (N := 2) hx hb hts in_X2 hown hK hP 0 rfl rfl 0 (by decide) k_12 (fun _ h9 => h9) rfl dX2_labels_15 ?_
      refine va_get (D := (dC, dI)) (ci := 1) (v := .int tk) (C := RX1) (T := TX1) (N := 6) hx hb hts in_X1 hown hK hP 3 rfl rfl 0 (by decide) k_25 (fun _ h9 => h9) rfl dX2_labels_18 ?_
      refine lv_istore_n (lv' := [(2, .int tk), (0, .ref aR), (1, .int x1)]) hx hb dX2_labels_21 rfl hl (by decide) rfl (fun ls hl => ?_)
      refine lv_aload_n hx hb dX2_labels_22 rfl (lv_at hl 1 rfl) ?_
      refine va_get (D := (dC, dI)) (ci := 2) (v := .ref aT) (C := RX2) (T := TX2) (N := 2) hx hb hts in_X2 hown hK hP 0 rfl rfl 0 (by decide) k_12 (fun _ h9 => h9) rfl dX2_labels_23 ?_
      refine lv_iload_n hx hb dX2_labels_26 rfl (lv_at hl 2 rfl) ?_
      refine mVv (wr := [oR aR aT aP, oP aP aL aN pk, aI aL cI 60 fL]) (As := [.int x1]) (rest := []) ⟨hx, hb, hml, hown, hts⟩ (c_X1_restart (l := l) (dC := dC) (dI := dI) (cI := cI) (cJ := cJ) (cZ := cZ) (aT := aT) (aB := aB) (aWK := aWK) (aRE := aRE) (aY := aY) (aZ := aZ) h) (cwV 1 hts gX2_labels_X1_restart rfl rfl rfl hv_X1_restart ⟨Nat.le_of_ble_eq_true rfl, Nat.le_of_ble_eq_true rfl⟩) hK hP hD hS hA [3, 4] [0, 1, 2] rfl rfl rfl rfl (by decide) 1 rfl rfl rfl rfl hl.1 rfl (Nat.le_of_ble_eq_true rfl) ⟨Nat.zero_le _, Nat.zero_le _⟩ dX2_labels_27 (fun u27 H locs h hP hD hS => ?_)
      obtain ⟨tk_27, fB_27⟩ := u27
      have hP : va_P (dC, dI) vwCl [oR aR aT aP, oP aP aL aN pk, aI aL cI 60 fL, oT aT aB aWK aRE aY aZ tk_27, aI aB cI 6 fB_27] H := hP.sub [0, 1, 2, 3, 4] rfl
      have hD : va_D A [oR aR aT aP, oP aP aL aN pk, aI aL cI 60 fL, oT aT aB aWK aRE aY aZ tk_27, aI aB cI 6 fB_27] := hD.sub [0, 1, 2, 3, 4] rfl rfl
      refine lv_aload_n hx hb dX2_labels_30 rfl (lv_at hl 1 rfl) ?_
      refine va_get (D := (dC, dI)) (ci := 2) (v := .ref aP) (C := RX2) (T := TX2) (N := 2) hx hb hts in_X2 hown hK hP 0 rfl rfl 1 (by decide) k_21 (fun _ h9 => h9) rfl dX2_labels_31 ?_
      refine mVv (wr := [oR aR aT aP, oT aT aB aWK aRE aY aZ tk_27, aI aB cI 6 fB_27]) (As := []) (rest := []) ⟨hx, hb, hml, hown, hts⟩ (c_X0_clearLabels (l := l) (dC := dC) (dI := dI) (cI := cI) (cJ := cJ) (cZ := cZ) (aP := aP) (aL := aL) (aN := aN) h) (cwV 0 hts gX2_labels_X0_clearLabels rfl rfl rfl hv_X0_clearLabels ⟨Nat.le_of_ble_eq_true rfl, Nat.le_of_ble_eq_true rfl⟩) hK hP hD hS hA [1, 2] [0, 3, 4] rfl rfl rfl rfl (by decide) 0 rfl rfl rfl rfl hl.1 rfl (Nat.le_of_ble_eq_true rfl) ⟨Nat.zero_le _, Nat.zero_le _⟩ dX2_labels_34 (fun fL_34 H locs h hP hD hS => ?_)
      have hP : va_P (dC, dI) vwCl [oR aR aT aP, oP aP aL aN pk, aI aL cI 60 fL_34, oT aT aB aWK aRE aY aZ tk_27, aI aB cI 6 fB_27] H := hP.sub [0, 3, 4, 1, 2] rfl
      have hD : va_D A [oR aR aT aP, oP aP aL aN pk, aI aL cI 60 fL_34, oT aT aB aWK aRE aY aZ tk_27, aI aB cI 6 fB_27] := hD.sub [0, 3, 4, 1, 2] rfl rfl
      refine lv_iload_n hx hb dX2_labels_37 rfl (lv_at hl 0 rfl) ?_
      exact ret _ _ _ _ H locs ls _ dX2_labels_38 h hP hD hS
    · have h := h.2 q8
      refine lv_bipush (v := -2) hx hb dX2_labels_11 (by decide) ?_
      exact ret _ _ _ _ H locs ls _ dX2_labels_13 h hP hD hS
set_option maxHeartbeats 4000000 in
set_option maxRecDepth 100000 in
theorem c_X2_labels {l : Launch} {dC : Nat → ClassId} {dI : Nat → Nat → Nat} {cI cJ cZ : ClassId} {aR aT aP aL aN aB aWK aRE aY aZ : Nat} {pk : Int32} {fL : (Nat → Int32)} {tk : Int32} {fB : (Nat → Int32)} {x1 : Int32} {post : Int32 → (Nat → Int32) → Int32 → (Nat → Int32) → Prop} (h : wp_X2_labels x1 pk fL tk fB post) : ∀ sz, Met l yX2_labels wsX2_labels rm_X2_labels (mP (dC, dI) (mTy cI cJ cZ) [.ref aR, .int x1] [oR aR aT aP, oP aP aL aN pk, aI aL cI 60 fL, oT aT aB aWK aRE aY aZ tk, aI aB cI 6 fB] sz) (va_Qi (fun (r : Int32) (u : (Nat → Int32) × Int32 × (Nat → Int32)) => post r (u.1) (u.2.1) (u.2.2)) (mB (dC, dI) (va_A [oR aR aT aP, oP aP aL aN pk, aI aL cI 60 fL, oT aT aB aWK aRE aY aZ tk, aI aB cI 6 fB] sz) (fun u => [oR aR aT aP, oP aP aL aN pk, aI aL cI 60 (u.1), oT aT aB aWK aRE aY aZ (u.2.1), aI aB cI 6 (u.2.2)])) (va_A [oR aR aT aP, oP aP aL aN pk, aI aL cI 60 fL, oT aT aB aWK aRE aY aZ tk, aI aB cI 6 fB] sz)) 0 0 (va_A [oR aR aT aP, oP aP aL aN pk, aI aL cI 60 fL, oT aT aB aWK aRE aY aZ tk, aI aB cI 6 fB] sz) := by
  intro sz
  refine Met.ofW (cc := cX2_labels) (maxL := 3) (ret := (some .int)) (by decide) rfl ?_
  intro p e s m args below meth c s₁ B hml hv
  obtain ⟨rfl, hsz, hP, hK, hD0⟩ := hv
  have hlocks := B.notSynchronized
  subst hsz
  have hD := hD0.self (sz := s.heap.size)
  have hl := lv_entry ([.ref aR, .int x1]) (n := 3) (Nat.le_of_ble_eq_true rfl)
  rw [lg_entry_eq]
  exact k_X2_labels B.exec B.bytes hml (findClass_of_methodNamed B.named) (atoms_spec (ws := wsX2_labels) B.pre) hK (fun q hq => Or.inr hq) (fun r fL' tk' fB' H locs ls pc hd hp hP hD hS => W.iret B.exec B.bytes B.returns (fun t ht hW => ⟨⟨r, (fL', tk', fB'), rfl, hp, by rw [ht]; exact hP, hD⟩, hS.F ht⟩) hS.2.2 hd) h s.heap [] _ hP hD va_S.rf hl

def wp_X2_asNumber (x0 : Int32)  (post : Int32 → Prop) : Prop := ((x0 = (0 : Int32) → post (0 : Int32)) ∧ (¬ x0 = (0 : Int32) → post (1 : Int32)))
abbrev rm_X2_asNumber : Room := { frames := 0, cells := 0, slots := 0, locals := 0 }
theorem hv_X2_asNumber : yX2_asNumber.cls ≠ "java/lang/invoke/MethodHandle" ∧ yX2_asNumber.cls ≠ "java/lang/invoke/VarHandle" ∧ (parseMethodDescriptor yX2_asNumber.desc).map (fun d => d.parameters.length) = some 1 := by decide +kernel
set_option maxHeartbeats 4000000 in
set_option maxRecDepth 100000 in
theorem k_X2_asNumber {p : Program} {l : Launch} {e : Env} {s : State} {m : MethodId} {args : Array Value} {below : List Frame} {meth : Method} {c : Code} {Q : State → Prop} {A : Nat → Prop} {dC : Nat → ClassId} {dI : Nat → Nat → Nat} {cI cJ cZ : ClassId} (hx : p.tables.exec = Jvm.exec) (hb : c.code = cX2_asNumber) (hml : c.maxLocals = 1) (hown : s.vm.findClass RX2 = some m.cls) (hts : ∀ w ∈ wsX2_asNumber, w.before args s = true) (hK : va_K (dC, dI) vwCl (mTy cI cJ cZ) s) (hA : ∀ q, s.heap.size ≤ q → A q)  {x0 : Int32} {post : Int32 → Prop} (ret : ∀ (r : Int32) (H : Heap) (locs : List Loc) (ls : Array Slot) (pc : Nat), decode cX2_asNumber pc = .ok (.ireturn, 1) → post r → va_P (dC, dI) vwCl [] H → va_D A [] → va_S A s.heap H locs → W p l e rm_X2_asNumber s m args below meth c H locs 0 0 Q (F0 m pc ls [.int r])) (h : wp_X2_asNumber x0  post) : mW p l e rm_X2_asNumber s m args below meth c 0 0 Q A (dC, dI) 1 [] [(0, .int x0)] 0 [] := by
  unfold wp_X2_asNumber at h
  intro H locs ls hP hD hS hl
  refine lv_iload_n hx hb dX2_asNumber_0 rfl (lv_at hl 0 rfl) ?_
  refine lv_if_eq (tgt := 8) hx hb dX2_asNumber_1 (by decide) (fun q1 => ?_) (fun q1 => ?_)
  · have h := h.1 q1
    refine lv_iconst (v := 0) hx hb dX2_asNumber_8 (by decide) ?_
    exact ret _  H locs ls _ dX2_asNumber_9 h hP hD hS
  · have h := h.2 q1
    refine lv_iconst (v := 1) hx hb dX2_asNumber_4 (by decide) ?_
    refine lv_goto (tgt := 9) hx hb dX2_asNumber_5 (by decide) ?_
    exact ret _  H locs ls _ dX2_asNumber_9 h hP hD hS
set_option maxHeartbeats 4000000 in
set_option maxRecDepth 100000 in
theorem c_X2_asNumber {l : Launch} {dC : Nat → ClassId} {dI : Nat → Nat → Nat} {cI cJ cZ : ClassId}  {x0 : Int32} {post : Int32 → Prop} (h : wp_X2_asNumber x0  post) : ∀ sz, Met l yX2_asNumber wsX2_asNumber rm_X2_asNumber (mP (dC, dI) (mTy cI cJ cZ) [.int x0] [] sz) (va_Qi (fun (r : Int32) (u : Unit) => post r ) (mB (dC, dI) (va_A [] sz) (fun u => [])) (va_A [] sz)) 0 0 (va_A [] sz) := by
  intro sz
  refine Met.ofW (cc := cX2_asNumber) (maxL := 1) (ret := (some .int)) (by decide) rfl ?_
  intro p e s m args below meth c s₁ B hml hv
  obtain ⟨rfl, hsz, hP, hK, hD0⟩ := hv
  have hlocks := B.notSynchronized
  subst hsz
  have hD := hD0.self (sz := s.heap.size)
  have hl := lv_entry ([.int x0]) (n := 1) (Nat.le_of_ble_eq_true rfl)
  rw [lg_entry_eq]
  exact k_X2_asNumber B.exec B.bytes hml (findClass_of_methodNamed B.named) (atoms_spec (ws := wsX2_asNumber) B.pre) hK (fun q hq => Or.inr hq) (fun r H locs ls pc hd hp hP hD hS => W.iret B.exec B.bytes B.returns (fun t ht hW => ⟨⟨r, (), rfl, hp, by rw [ht]; exact hP, hD⟩, hS.F ht⟩) hS.2.2 hd) h s.heap [] _ hP hD va_S.rf hl

def wp_X2_allow (x1 : Int32) (x2 : Int32) (x3 : Int32) (tk : Int32) (fB : (Nat → Int32)) (post : Int32 → (Nat → Int32) → Prop) : Prop := wp_X1_has x1 tk (fun (r5 : Int32) => ((r5 = (0 : Int32) → post (-1 : Int32) fB) ∧ (¬ r5 = (0 : Int32) → wp_X1_has x2 tk (fun (r16 : Int32) => ((¬ r16 = (0 : Int32) → wp_X1_mayFollow x1 x2 tk fB (fun (r30 : Int32) => wp_X2_asNumber r30 (fun (r33 : Int32) => wp_X1_decide x1 x2 x3 tk fB (fun (fB_45 : (Nat → Int32)) => post r33 fB_45)))) ∧ (r16 = (0 : Int32) → post (-1 : Int32) fB))))))
abbrev rm_X2_allow : Room := { frames := 2, cells := 0, slots := 0, locals := 44 }
theorem hv_X2_allow : yX2_allow.cls = RX2 ∧ yX2_allow.cls ≠ "java/lang/invoke/MethodHandle" ∧ yX2_allow.cls ≠ "java/lang/invoke/VarHandle" ∧ (parseMethodDescriptor yX2_allow.desc).map (fun d => d.parameters.length) = some 3 := by decide +kernel
set_option maxHeartbeats 4000000 in
set_option maxRecDepth 100000 in
theorem k_X2_allow {p : Program} {l : Launch} {e : Env} {s : State} {m : MethodId} {args : Array Value} {below : List Frame} {meth : Method} {c : Code} {Q : State → Prop} {A : Nat → Prop} {dC : Nat → ClassId} {dI : Nat → Nat → Nat} {cI cJ cZ : ClassId} (hx : p.tables.exec = Jvm.exec) (hb : c.code = cX2_allow) (hml : c.maxLocals = 5) (hown : s.vm.findClass RX2 = some m.cls) (hts : ∀ w ∈ wsX2_allow, w.before args s = true) (hK : va_K (dC, dI) vwCl (mTy cI cJ cZ) s) (hA : ∀ q, s.heap.size ≤ q → A q) {aR aT aP aB aWK aRE aY aZ : Nat} {tk : Int32} {fB : (Nat → Int32)} {x1 : Int32} {x2 : Int32} {x3 : Int32} {post : Int32 → (Nat → Int32) → Prop} (ret : ∀ (r : Int32) (fB' : (Nat → Int32)) (H : Heap) (locs : List Loc) (ls : Array Slot) (pc : Nat), decode cX2_allow pc = .ok (.ireturn, 1) → post r fB' → va_P (dC, dI) vwCl [oR aR aT aP, oT aT aB aWK aRE aY aZ tk, aI aB cI 6 fB'] H → va_D A [oR aR aT aP, oT aT aB aWK aRE aY aZ tk, aI aB cI 6 fB'] → va_S A s.heap H locs → W p l e rm_X2_allow s m args below meth c H locs 0 0 Q (F0 m pc ls [.int r])) (h : wp_X2_allow x1 x2 x3 tk fB post) : mW p l e rm_X2_allow s m args below meth c 0 0 Q A (dC, dI) 5 [oR aR aT aP, oT aT aB aWK aRE aY aZ tk, aI aB cI 6 fB] [(0, .ref aR), (1, .int x1), (2, .int x2), (3, .int x3)] 0 [] := by
  have in_X2 : ∀ w ∈ wsX20, w ∈ wsX2_allow := fun w hw => List.mem_cons_of_mem _ (List.mem_append_left _ (List.mem_append_right _ hw))
  have k_12 := hts (.fieldLink RX2 12 "RingTasks" "task" "LRingTasks$Task;") (List.mem_of_getElem? (i := 1) rfl)
  unfold wp_X2_allow at h
  intro H locs ls hP hD hS hl
  refine lv_aload_n hx hb dX2_allow_0 rfl (lv_at hl 0 rfl) ?_
  refine va_get (D := (dC, dI)) (ci := 2) (v := .ref aT) (C := RX2) (T := TX2) (N := 2) hx hb hts in_X2 hown hK hP 0 rfl rfl 0 (by decide) k_12 (fun _ h9 => h9) rfl dX2_allow_1 ?_
  refine lv_iload_n hx hb dX2_allow_4 rfl (lv_at hl 1 rfl) ?_
  refine mVi (wr := [oR aR aT aP, aI aB cI 6 fB]) (As := [.int x1]) (rest := []) ⟨hx, hb, hml, hown, hts⟩ (c_X1_has (l := l) (dC := dC) (dI := dI) (cI := cI) (cJ := cJ) (cZ := cZ) (aT := aT) (aB := aB) (aWK := aWK) (aRE := aRE) (aY := aY) (aZ := aZ) h) (cwV 1 hts gX2_allow_X1_has rfl rfl rfl hv_X1_has ⟨Nat.le_of_ble_eq_true rfl, Nat.le_of_ble_eq_true rfl⟩) hK hP hD hS hA [1] [0, 2] rfl rfl rfl rfl (by decide) 1 rfl rfl rfl rfl hl.1 rfl (Nat.le_of_ble_eq_true rfl) ⟨Nat.zero_le _, Nat.zero_le _⟩ dX2_allow_5 (fun r5 u5 H locs h hP hD hS => ?_)
  have hP : va_P (dC, dI) vwCl [oR aR aT aP, oT aT aB aWK aRE aY aZ tk, aI aB cI 6 fB] H := hP.sub [0, 2, 1] rfl
  have hD : va_D A [oR aR aT aP, oT aT aB aWK aRE aY aZ tk, aI aB cI 6 fB] := hD.sub [0, 2, 1] rfl rfl
  refine lv_if_eq (tgt := 22) hx hb dX2_allow_8 (by decide) (fun q8 => ?_) (fun q8 => ?_)
  · have h := h.1 q8
    refine lv_iconst (v := -1) hx hb dX2_allow_22 (by decide) ?_
    exact ret _ _ H locs ls _ dX2_allow_23 h hP hD hS
  · have h := h.2 q8
    refine lv_aload_n hx hb dX2_allow_11 rfl (lv_at hl 0 rfl) ?_
    refine va_get (D := (dC, dI)) (ci := 2) (v := .ref aT) (C := RX2) (T := TX2) (N := 2) hx hb hts in_X2 hown hK hP 0 rfl rfl 0 (by decide) k_12 (fun _ h9 => h9) rfl dX2_allow_12 ?_
    refine lv_iload_n hx hb dX2_allow_15 rfl (lv_at hl 2 rfl) ?_
    refine mVi (wr := [oR aR aT aP, aI aB cI 6 fB]) (As := [.int x2]) (rest := []) ⟨hx, hb, hml, hown, hts⟩ (c_X1_has (l := l) (dC := dC) (dI := dI) (cI := cI) (cJ := cJ) (cZ := cZ) (aT := aT) (aB := aB) (aWK := aWK) (aRE := aRE) (aY := aY) (aZ := aZ) h) (cwV 1 hts gX2_allow_X1_has rfl rfl rfl hv_X1_has ⟨Nat.le_of_ble_eq_true rfl, Nat.le_of_ble_eq_true rfl⟩) hK hP hD hS hA [1] [0, 2] rfl rfl rfl rfl (by decide) 1 rfl rfl rfl rfl hl.1 rfl (Nat.le_of_ble_eq_true rfl) ⟨Nat.zero_le _, Nat.zero_le _⟩ dX2_allow_16 (fun r16 u16 H locs h hP hD hS => ?_)
    have hP : va_P (dC, dI) vwCl [oR aR aT aP, oT aT aB aWK aRE aY aZ tk, aI aB cI 6 fB] H := hP.sub [0, 2, 1] rfl
    have hD : va_D A [oR aR aT aP, oT aT aB aWK aRE aY aZ tk, aI aB cI 6 fB] := hD.sub [0, 2, 1] rfl rfl
    refine lv_if_ne (tgt := 24) hx hb dX2_allow_19 (by decide) (fun q19 => ?_) (fun q19 => ?_)
    · have h := h.1 q19
      refine lv_aload_n hx hb dX2_allow_24 rfl (lv_at hl 0 rfl) ?_
      refine va_get (D := (dC, dI)) (ci := 2) (v := .ref aT) (C := RX2) (T := TX2) (N := 2) hx hb hts in_X2 hown hK hP 0 rfl rfl 0 (by decide) k_12 (fun _ h9 => h9) rfl dX2_allow_25 ?_
      refine lv_iload_n hx hb dX2_allow_28 rfl (lv_at hl 1 rfl) ?_
      refine lv_iload_n hx hb dX2_allow_29 rfl (lv_at hl 2 rfl) ?_
      refine mVi (wr := [oR aR aT aP]) (As := [.int x1, .int x2]) (rest := []) ⟨hx, hb, hml, hown, hts⟩ (c_X1_mayFollow (l := l) (dC := dC) (dI := dI) (cI := cI) (cJ := cJ) (cZ := cZ) (aT := aT) (aB := aB) (aWK := aWK) (aRE := aRE) (aY := aY) (aZ := aZ) h) (cwV 2 hts gX2_allow_X1_mayFollow rfl rfl rfl hv_X1_mayFollow ⟨Nat.le_of_ble_eq_true rfl, Nat.le_of_ble_eq_true rfl⟩) hK hP hD hS hA [1, 2] [0] rfl rfl rfl rfl (by decide) 1 rfl rfl rfl rfl hl.1 rfl (Nat.le_of_ble_eq_true rfl) ⟨Nat.zero_le _, Nat.zero_le _⟩ dX2_allow_30 (fun r30 u30 H locs h hP hD hS => ?_)
      have hP : va_P (dC, dI) vwCl [oR aR aT aP, oT aT aB aWK aRE aY aZ tk, aI aB cI 6 fB] H := hP.sub [0, 1, 2] rfl
      have hD : va_D A [oR aR aT aP, oT aT aB aWK aRE aY aZ tk, aI aB cI 6 fB] := hD.sub [0, 1, 2] rfl rfl
      refine mSi (wr := [oR aR aT aP, oT aT aB aWK aRE aY aZ tk, aI aB cI 6 fB]) (As := [.int r30]) (rest := []) ⟨hx, hb, hml, hown, hts⟩ (c_X2_asNumber (l := l) (dC := dC) (dI := dI) (cI := cI) (cJ := cJ) (cZ := cZ)  h) (va_cwS 1 hts gX2_allow_X2_asNumber rfl rfl rfl hv_X2_asNumber ⟨Nat.le_of_ble_eq_true rfl, Nat.le_of_ble_eq_true rfl⟩) hK hP hD hS hA [] [0, 1, 2] rfl rfl rfl rfl (by decide) rfl hl.1 rfl (Nat.le_of_ble_eq_true rfl) ⟨Nat.zero_le _, Nat.zero_le _⟩ dX2_allow_33 (fun r33 u33 H locs h hP hD hS => ?_)
      have hP : va_P (dC, dI) vwCl [oR aR aT aP, oT aT aB aWK aRE aY aZ tk, aI aB cI 6 fB] H := hP.sub [0, 1, 2] rfl
      have hD : va_D A [oR aR aT aP, oT aT aB aWK aRE aY aZ tk, aI aB cI 6 fB] := hD.sub [0, 1, 2] rfl rfl
      refine lv_istore (lv' := [(4, .int r33), (0, .ref aR), (1, .int x1), (2, .int x2), (3, .int x3)]) hx hb dX2_allow_36 hl (by decide) rfl (fun ls hl => ?_)
      refine lv_aload_n hx hb dX2_allow_38 rfl (lv_at hl 1 rfl) ?_
      refine va_get (D := (dC, dI)) (ci := 2) (v := .ref aT) (C := RX2) (T := TX2) (N := 2) hx hb hts in_X2 hown hK hP 0 rfl rfl 0 (by decide) k_12 (fun _ h9 => h9) rfl dX2_allow_39 ?_
      refine lv_iload_n hx hb dX2_allow_42 rfl (lv_at hl 2 rfl) ?_
      refine lv_iload_n hx hb dX2_allow_43 rfl (lv_at hl 3 rfl) ?_
      refine lv_iload_n hx hb dX2_allow_44 rfl (lv_at hl 4 rfl) ?_
      refine mVv (wr := [oR aR aT aP]) (As := [.int x1, .int x2, .int x3]) (rest := []) ⟨hx, hb, hml, hown, hts⟩ (c_X1_decide (l := l) (dC := dC) (dI := dI) (cI := cI) (cJ := cJ) (cZ := cZ) (aT := aT) (aB := aB) (aWK := aWK) (aRE := aRE) (aY := aY) (aZ := aZ) h) (cwV 3 hts gX2_allow_X1_decide rfl rfl rfl hv_X1_decide ⟨Nat.le_of_ble_eq_true rfl, Nat.le_of_ble_eq_true rfl⟩) hK hP hD hS hA [1, 2] [0] rfl rfl rfl rfl (by decide) 1 rfl rfl rfl rfl hl.1 rfl (Nat.le_of_ble_eq_true rfl) ⟨Nat.zero_le _, Nat.zero_le _⟩ dX2_allow_45 (fun fB_45 H locs h hP hD hS => ?_)
      have hP : va_P (dC, dI) vwCl [oR aR aT aP, oT aT aB aWK aRE aY aZ tk, aI aB cI 6 fB_45] H := hP.sub [0, 1, 2] rfl
      have hD : va_D A [oR aR aT aP, oT aT aB aWK aRE aY aZ tk, aI aB cI 6 fB_45] := hD.sub [0, 1, 2] rfl rfl
      refine lv_iload hx hb dX2_allow_48 (lv_at hl 0 rfl) ?_
      exact ret _ _ H locs ls _ dX2_allow_50 h hP hD hS
    · have h := h.2 q19
      refine lv_iconst (v := -1) hx hb dX2_allow_22 (by decide) ?_
      exact ret _ _ H locs ls _ dX2_allow_23 h hP hD hS
set_option maxHeartbeats 4000000 in
set_option maxRecDepth 100000 in
theorem c_X2_allow {l : Launch} {dC : Nat → ClassId} {dI : Nat → Nat → Nat} {cI cJ cZ : ClassId} {aR aT aP aB aWK aRE aY aZ : Nat} {tk : Int32} {fB : (Nat → Int32)} {x1 : Int32} {x2 : Int32} {x3 : Int32} {post : Int32 → (Nat → Int32) → Prop} (h : wp_X2_allow x1 x2 x3 tk fB post) : ∀ sz, Met l yX2_allow wsX2_allow rm_X2_allow (mP (dC, dI) (mTy cI cJ cZ) [.ref aR, .int x1, .int x2, .int x3] [oR aR aT aP, oT aT aB aWK aRE aY aZ tk, aI aB cI 6 fB] sz) (va_Qi (fun (r : Int32) (u : (Nat → Int32)) => post r u) (mB (dC, dI) (va_A [oR aR aT aP, oT aT aB aWK aRE aY aZ tk, aI aB cI 6 fB] sz) (fun u => [oR aR aT aP, oT aT aB aWK aRE aY aZ tk, aI aB cI 6 u])) (va_A [oR aR aT aP, oT aT aB aWK aRE aY aZ tk, aI aB cI 6 fB] sz)) 0 0 (va_A [oR aR aT aP, oT aT aB aWK aRE aY aZ tk, aI aB cI 6 fB] sz) := by
  intro sz
  refine Met.ofW (cc := cX2_allow) (maxL := 5) (ret := (some .int)) (by decide) rfl ?_
  intro p e s m args below meth c s₁ B hml hv
  obtain ⟨rfl, hsz, hP, hK, hD0⟩ := hv
  have hlocks := B.notSynchronized
  subst hsz
  have hD := hD0.self (sz := s.heap.size)
  have hl := lv_entry ([.ref aR, .int x1, .int x2, .int x3]) (n := 5) (Nat.le_of_ble_eq_true rfl)
  rw [lg_entry_eq]
  exact k_X2_allow B.exec B.bytes hml (findClass_of_methodNamed B.named) (atoms_spec (ws := wsX2_allow) B.pre) hK (fun q hq => Or.inr hq) (fun r fB' H locs ls pc hd hp hP hD hS => W.iret B.exec B.bytes B.returns (fun t ht hW => ⟨⟨r, fB', rfl, hp, by rw [ht]; exact hP, hD⟩, hS.F ht⟩) hS.2.2 hd) h s.heap [] _ hP hD va_S.rf hl

def wp_X2_may (x1 : Int32) (x2 : Int32) (tk : Int32) (fB : (Nat → Int32)) (post : Int32 → Prop) : Prop := wp_X1_has x1 tk (fun (r5 : Int32) => ((r5 = (0 : Int32) → post (-1 : Int32)) ∧ (¬ r5 = (0 : Int32) → wp_X1_has x2 tk (fun (r16 : Int32) => ((¬ r16 = (0 : Int32) → wp_X1_mayFollow x1 x2 tk fB (fun (r30 : Int32) => wp_X2_asNumber r30 (fun (r33 : Int32) => post r33))) ∧ (r16 = (0 : Int32) → post (-1 : Int32)))))))
abbrev rm_X2_may : Room := { frames := 2, cells := 0, slots := 0, locals := 43 }
theorem hv_X2_may : yX2_may.cls = RX2 ∧ yX2_may.cls ≠ "java/lang/invoke/MethodHandle" ∧ yX2_may.cls ≠ "java/lang/invoke/VarHandle" ∧ (parseMethodDescriptor yX2_may.desc).map (fun d => d.parameters.length) = some 2 := by decide +kernel
set_option maxHeartbeats 4000000 in
set_option maxRecDepth 100000 in
theorem k_X2_may {p : Program} {l : Launch} {e : Env} {s : State} {m : MethodId} {args : Array Value} {below : List Frame} {meth : Method} {c : Code} {Q : State → Prop} {A : Nat → Prop} {dC : Nat → ClassId} {dI : Nat → Nat → Nat} {cI cJ cZ : ClassId} (hx : p.tables.exec = Jvm.exec) (hb : c.code = cX2_may) (hml : c.maxLocals = 3) (hown : s.vm.findClass RX2 = some m.cls) (hts : ∀ w ∈ wsX2_may, w.before args s = true) (hK : va_K (dC, dI) vwCl (mTy cI cJ cZ) s) (hA : ∀ q, s.heap.size ≤ q → A q) {aR aT aP aB aWK aRE aY aZ : Nat} {tk : Int32} {fB : (Nat → Int32)} {x1 : Int32} {x2 : Int32} {post : Int32 → Prop} (ret : ∀ (r : Int32) (H : Heap) (locs : List Loc) (ls : Array Slot) (pc : Nat), decode cX2_may pc = .ok (.ireturn, 1) → post r → va_P (dC, dI) vwCl [oR aR aT aP, oT aT aB aWK aRE aY aZ tk, aI aB cI 6 fB] H → va_D A [oR aR aT aP, oT aT aB aWK aRE aY aZ tk, aI aB cI 6 fB] → va_S A s.heap H locs → W p l e rm_X2_may s m args below meth c H locs 0 0 Q (F0 m pc ls [.int r])) (h : wp_X2_may x1 x2 tk fB post) : mW p l e rm_X2_may s m args below meth c 0 0 Q A (dC, dI) 3 [oR aR aT aP, oT aT aB aWK aRE aY aZ tk, aI aB cI 6 fB] [(0, .ref aR), (1, .int x1), (2, .int x2)] 0 [] := by
  have in_X2 : ∀ w ∈ wsX20, w ∈ wsX2_may := fun w hw => List.mem_cons_of_mem _ (List.mem_append_left _ (List.mem_append_right _ hw))
  have k_12 := hts (.fieldLink RX2 12 "RingTasks" "task" "LRingTasks$Task;") (List.mem_of_getElem? (i := 1) rfl)
  unfold wp_X2_may at h
  intro H locs ls hP hD hS hl
  refine lv_aload_n hx hb dX2_may_0 rfl (lv_at hl 0 rfl) ?_
  refine va_get (D := (dC, dI)) (ci := 2) (v := .ref aT) (C := RX2) (T := TX2) (N := 2) hx hb hts in_X2 hown hK hP 0 rfl rfl 0 (by decide) k_12 (fun _ h9 => h9) rfl dX2_may_1 ?_
  refine lv_iload_n hx hb dX2_may_4 rfl (lv_at hl 1 rfl) ?_
  refine mVi (wr := [oR aR aT aP, aI aB cI 6 fB]) (As := [.int x1]) (rest := []) ⟨hx, hb, hml, hown, hts⟩ (c_X1_has (l := l) (dC := dC) (dI := dI) (cI := cI) (cJ := cJ) (cZ := cZ) (aT := aT) (aB := aB) (aWK := aWK) (aRE := aRE) (aY := aY) (aZ := aZ) h) (cwV 1 hts gX2_may_X1_has rfl rfl rfl hv_X1_has ⟨Nat.le_of_ble_eq_true rfl, Nat.le_of_ble_eq_true rfl⟩) hK hP hD hS hA [1] [0, 2] rfl rfl rfl rfl (by decide) 1 rfl rfl rfl rfl hl.1 rfl (Nat.le_of_ble_eq_true rfl) ⟨Nat.zero_le _, Nat.zero_le _⟩ dX2_may_5 (fun r5 u5 H locs h hP hD hS => ?_)
  have hP : va_P (dC, dI) vwCl [oR aR aT aP, oT aT aB aWK aRE aY aZ tk, aI aB cI 6 fB] H := hP.sub [0, 2, 1] rfl
  have hD : va_D A [oR aR aT aP, oT aT aB aWK aRE aY aZ tk, aI aB cI 6 fB] := hD.sub [0, 2, 1] rfl rfl
  refine lv_if_eq (tgt := 22) hx hb dX2_may_8 (by decide) (fun q8 => ?_) (fun q8 => ?_)
  · have h := h.1 q8
    refine lv_iconst (v := -1) hx hb dX2_may_22 (by decide) ?_
    exact ret _  H locs ls _ dX2_may_23 h hP hD hS
  · have h := h.2 q8
    refine lv_aload_n hx hb dX2_may_11 rfl (lv_at hl 0 rfl) ?_
    refine va_get (D := (dC, dI)) (ci := 2) (v := .ref aT) (C := RX2) (T := TX2) (N := 2) hx hb hts in_X2 hown hK hP 0 rfl rfl 0 (by decide) k_12 (fun _ h9 => h9) rfl dX2_may_12 ?_
    refine lv_iload_n hx hb dX2_may_15 rfl (lv_at hl 2 rfl) ?_
    refine mVi (wr := [oR aR aT aP, aI aB cI 6 fB]) (As := [.int x2]) (rest := []) ⟨hx, hb, hml, hown, hts⟩ (c_X1_has (l := l) (dC := dC) (dI := dI) (cI := cI) (cJ := cJ) (cZ := cZ) (aT := aT) (aB := aB) (aWK := aWK) (aRE := aRE) (aY := aY) (aZ := aZ) h) (cwV 1 hts gX2_may_X1_has rfl rfl rfl hv_X1_has ⟨Nat.le_of_ble_eq_true rfl, Nat.le_of_ble_eq_true rfl⟩) hK hP hD hS hA [1] [0, 2] rfl rfl rfl rfl (by decide) 1 rfl rfl rfl rfl hl.1 rfl (Nat.le_of_ble_eq_true rfl) ⟨Nat.zero_le _, Nat.zero_le _⟩ dX2_may_16 (fun r16 u16 H locs h hP hD hS => ?_)
    have hP : va_P (dC, dI) vwCl [oR aR aT aP, oT aT aB aWK aRE aY aZ tk, aI aB cI 6 fB] H := hP.sub [0, 2, 1] rfl
    have hD : va_D A [oR aR aT aP, oT aT aB aWK aRE aY aZ tk, aI aB cI 6 fB] := hD.sub [0, 2, 1] rfl rfl
    refine lv_if_ne (tgt := 24) hx hb dX2_may_19 (by decide) (fun q19 => ?_) (fun q19 => ?_)
    · have h := h.1 q19
      refine lv_aload_n hx hb dX2_may_24 rfl (lv_at hl 0 rfl) ?_
      refine va_get (D := (dC, dI)) (ci := 2) (v := .ref aT) (C := RX2) (T := TX2) (N := 2) hx hb hts in_X2 hown hK hP 0 rfl rfl 0 (by decide) k_12 (fun _ h9 => h9) rfl dX2_may_25 ?_
      refine lv_iload_n hx hb dX2_may_28 rfl (lv_at hl 1 rfl) ?_
      refine lv_iload_n hx hb dX2_may_29 rfl (lv_at hl 2 rfl) ?_
      refine mVi (wr := [oR aR aT aP]) (As := [.int x1, .int x2]) (rest := []) ⟨hx, hb, hml, hown, hts⟩ (c_X1_mayFollow (l := l) (dC := dC) (dI := dI) (cI := cI) (cJ := cJ) (cZ := cZ) (aT := aT) (aB := aB) (aWK := aWK) (aRE := aRE) (aY := aY) (aZ := aZ) h) (cwV 2 hts gX2_may_X1_mayFollow rfl rfl rfl hv_X1_mayFollow ⟨Nat.le_of_ble_eq_true rfl, Nat.le_of_ble_eq_true rfl⟩) hK hP hD hS hA [1, 2] [0] rfl rfl rfl rfl (by decide) 1 rfl rfl rfl rfl hl.1 rfl (Nat.le_of_ble_eq_true rfl) ⟨Nat.zero_le _, Nat.zero_le _⟩ dX2_may_30 (fun r30 u30 H locs h hP hD hS => ?_)
      have hP : va_P (dC, dI) vwCl [oR aR aT aP, oT aT aB aWK aRE aY aZ tk, aI aB cI 6 fB] H := hP.sub [0, 1, 2] rfl
      have hD : va_D A [oR aR aT aP, oT aT aB aWK aRE aY aZ tk, aI aB cI 6 fB] := hD.sub [0, 1, 2] rfl rfl
      refine mSi (wr := [oR aR aT aP, oT aT aB aWK aRE aY aZ tk, aI aB cI 6 fB]) (As := [.int r30]) (rest := []) ⟨hx, hb, hml, hown, hts⟩ (c_X2_asNumber (l := l) (dC := dC) (dI := dI) (cI := cI) (cJ := cJ) (cZ := cZ)  h) (va_cwS 1 hts gX2_may_X2_asNumber rfl rfl rfl hv_X2_asNumber ⟨Nat.le_of_ble_eq_true rfl, Nat.le_of_ble_eq_true rfl⟩) hK hP hD hS hA [] [0, 1, 2] rfl rfl rfl rfl (by decide) rfl hl.1 rfl (Nat.le_of_ble_eq_true rfl) ⟨Nat.zero_le _, Nat.zero_le _⟩ dX2_may_33 (fun r33 u33 H locs h hP hD hS => ?_)
      have hP : va_P (dC, dI) vwCl [oR aR aT aP, oT aT aB aWK aRE aY aZ tk, aI aB cI 6 fB] H := hP.sub [0, 1, 2] rfl
      have hD : va_D A [oR aR aT aP, oT aT aB aWK aRE aY aZ tk, aI aB cI 6 fB] := hD.sub [0, 1, 2] rfl rfl
      exact ret _  H locs ls _ dX2_may_36 h hP hD hS
    · have h := h.2 q19
      refine lv_iconst (v := -1) hx hb dX2_may_22 (by decide) ?_
      exact ret _  H locs ls _ dX2_may_23 h hP hD hS
set_option maxHeartbeats 4000000 in
set_option maxRecDepth 100000 in
theorem c_X2_may {l : Launch} {dC : Nat → ClassId} {dI : Nat → Nat → Nat} {cI cJ cZ : ClassId} {aR aT aP aB aWK aRE aY aZ : Nat} {tk : Int32} {fB : (Nat → Int32)} {x1 : Int32} {x2 : Int32} {post : Int32 → Prop} (h : wp_X2_may x1 x2 tk fB post) : ∀ sz, Met l yX2_may wsX2_may rm_X2_may (mP (dC, dI) (mTy cI cJ cZ) [.ref aR, .int x1, .int x2] [oR aR aT aP, oT aT aB aWK aRE aY aZ tk, aI aB cI 6 fB] sz) (va_Qi (fun (r : Int32) (u : Unit) => post r ) (mB (dC, dI) (va_A [oR aR aT aP, oT aT aB aWK aRE aY aZ tk, aI aB cI 6 fB] sz) (fun u => [oR aR aT aP, oT aT aB aWK aRE aY aZ tk, aI aB cI 6 fB])) (va_A [oR aR aT aP, oT aT aB aWK aRE aY aZ tk, aI aB cI 6 fB] sz)) 0 0 (va_A [oR aR aT aP, oT aT aB aWK aRE aY aZ tk, aI aB cI 6 fB] sz) := by
  intro sz
  refine Met.ofW (cc := cX2_may) (maxL := 3) (ret := (some .int)) (by decide) rfl ?_
  intro p e s m args below meth c s₁ B hml hv
  obtain ⟨rfl, hsz, hP, hK, hD0⟩ := hv
  have hlocks := B.notSynchronized
  subst hsz
  have hD := hD0.self (sz := s.heap.size)
  have hl := lv_entry ([.ref aR, .int x1, .int x2]) (n := 3) (Nat.le_of_ble_eq_true rfl)
  rw [lg_entry_eq]
  exact k_X2_may B.exec B.bytes hml (findClass_of_methodNamed B.named) (atoms_spec (ws := wsX2_may) B.pre) hK (fun q hq => Or.inr hq) (fun r H locs ls pc hd hp hP hD hS => W.iret B.exec B.bytes B.returns (fun t ht hW => ⟨⟨r, (), rfl, hp, by rw [ht]; exact hP, hD⟩, hS.F ht⟩) hS.2.2 hd) h s.heap [] _ hP hD va_S.rf hl

def wp_X2_isRingSize (x0 : Int32)  (post : Int32 → Prop) : Prop := ((x0 < (1 : Int32) → post (0 : Int32)) ∧ (¬ x0 < (1 : Int32) → (((60 : Int32) < x0 → post (0 : Int32)) ∧ (¬ (60 : Int32) < x0 → post (1 : Int32)))))
abbrev rm_X2_isRingSize : Room := { frames := 0, cells := 0, slots := 0, locals := 0 }
theorem hv_X2_isRingSize : yX2_isRingSize.cls ≠ "java/lang/invoke/MethodHandle" ∧ yX2_isRingSize.cls ≠ "java/lang/invoke/VarHandle" ∧ (parseMethodDescriptor yX2_isRingSize.desc).map (fun d => d.parameters.length) = some 1 := by decide +kernel
set_option maxHeartbeats 4000000 in
set_option maxRecDepth 100000 in
theorem k_X2_isRingSize {p : Program} {l : Launch} {e : Env} {s : State} {m : MethodId} {args : Array Value} {below : List Frame} {meth : Method} {c : Code} {Q : State → Prop} {A : Nat → Prop} {dC : Nat → ClassId} {dI : Nat → Nat → Nat} {cI cJ cZ : ClassId} (hx : p.tables.exec = Jvm.exec) (hb : c.code = cX2_isRingSize) (hml : c.maxLocals = 1) (hown : s.vm.findClass RX2 = some m.cls) (hts : ∀ w ∈ wsX2_isRingSize, w.before args s = true) (hK : va_K (dC, dI) vwCl (mTy cI cJ cZ) s) (hA : ∀ q, s.heap.size ≤ q → A q)  {x0 : Int32} {post : Int32 → Prop} (ret : ∀ (r : Int32) (H : Heap) (locs : List Loc) (ls : Array Slot) (pc : Nat), decode cX2_isRingSize pc = .ok (.ireturn, 1) → (r = 0 ∨ r = 1) → post r → va_P (dC, dI) vwCl [] H → va_D A [] → va_S A s.heap H locs → W p l e rm_X2_isRingSize s m args below meth c H locs 0 0 Q (F0 m pc ls [.int r])) (h : wp_X2_isRingSize x0  post) : mW p l e rm_X2_isRingSize s m args below meth c 0 0 Q A (dC, dI) 1 [] [(0, .int x0)] 0 [] := by
  unfold wp_X2_isRingSize at h
  intro H locs ls hP hD hS hl
  refine lv_iload_n hx hb dX2_isRingSize_0 rfl (lv_at hl 0 rfl) ?_
  refine lv_iconst (v := 1) hx hb dX2_isRingSize_1 (by decide) ?_
  refine lv_icmp_lt (tgt := 15) hx hb dX2_isRingSize_2 (by decide) (fun q2 => ?_) (fun q2 => ?_)
  · have h := h.1 q2
    refine lv_iconst (v := 0) hx hb dX2_isRingSize_15 (by decide) ?_
    exact ret _  H locs ls _ dX2_isRingSize_16 (Or.inl rfl) h hP hD hS
  · have h := h.2 q2
    refine lv_iload_n hx hb dX2_isRingSize_5 rfl (lv_at hl 0 rfl) ?_
    refine lv_bipush (v := 60) hx hb dX2_isRingSize_6 (by decide) ?_
    refine lv_icmp_gt (tgt := 15) hx hb dX2_isRingSize_8 (by decide) (fun q8 => ?_) (fun q8 => ?_)
    · have h := h.1 q8
      refine lv_iconst (v := 0) hx hb dX2_isRingSize_15 (by decide) ?_
      exact ret _  H locs ls _ dX2_isRingSize_16 (Or.inl rfl) h hP hD hS
    · have h := h.2 q8
      refine lv_iconst (v := 1) hx hb dX2_isRingSize_11 (by decide) ?_
      refine lv_goto (tgt := 16) hx hb dX2_isRingSize_12 (by decide) ?_
      exact ret _  H locs ls _ dX2_isRingSize_16 (Or.inr rfl) h hP hD hS
set_option maxHeartbeats 4000000 in
set_option maxRecDepth 100000 in
theorem c_X2_isRingSize {l : Launch} {dC : Nat → ClassId} {dI : Nat → Nat → Nat} {cI cJ cZ : ClassId}  {x0 : Int32} {post : Int32 → Prop} (h : wp_X2_isRingSize x0  post) : ∀ sz, Met l yX2_isRingSize wsX2_isRingSize rm_X2_isRingSize (mP (dC, dI) (mTy cI cJ cZ) [.int x0] [] sz) (va_Qi (fun (r : Int32) (u : Unit) => post r ) (mB (dC, dI) (va_A [] sz) (fun u => [])) (va_A [] sz)) 0 0 (va_A [] sz) := by
  intro sz
  refine Met.ofW (cc := cX2_isRingSize) (maxL := 1) (ret := (some .boolean)) (by decide) rfl ?_
  intro p e s m args below meth c s₁ B hml hv
  obtain ⟨rfl, hsz, hP, hK, hD0⟩ := hv
  have hlocks := B.notSynchronized
  subst hsz
  have hD := hD0.self (sz := s.heap.size)
  have hl := lv_entry ([.int x0]) (n := 1) (Nat.le_of_ble_eq_true rfl)
  rw [lg_entry_eq]
  exact k_X2_isRingSize B.exec B.bytes hml (findClass_of_methodNamed B.named) (atoms_spec (ws := wsX2_isRingSize) B.pre) hK (fun q hq => Or.inr hq) (fun r H locs ls pc hd hz hp hP hD hS => W.zret B.exec B.bytes B.returns (m_bz hz) (fun t ht hW => ⟨⟨r, (), rfl, hp, by rw [ht]; exact hP, hD⟩, hS.F ht⟩) hS.2.2 hd) h s.heap [] _ hP hD va_S.rf hl

def wp_X2_rings (x1 : Int32) (tk : Int32) (fB : (Nat → Int32)) (fY : (Nat → Int64)) (fZ : (Nat → Int64)) (post : Int64 → (Nat → Int64) → (Nat → Int64) → Prop) : Prop := wp_X2_isRingSize x1 (fun (r1 : Int32) => ((¬ r1 = (0 : Int32) → wp_X1_ringCount x1 tk fB fY fZ (fun (r16 : Int64) (fY_16 : (Nat → Int64)) (fZ_16 : (Nat → Int64)) => post r16 fY_16 fZ_16)) ∧ (r1 = (0 : Int32) → post (-2 : Int64) fY fZ)))
abbrev rm_X2_rings : Room := { frames := 5, cells := 0, slots := 0, locals := 115 }
theorem hv_X2_rings : yX2_rings.cls = RX2 ∧ yX2_rings.cls ≠ "java/lang/invoke/MethodHandle" ∧ yX2_rings.cls ≠ "java/lang/invoke/VarHandle" ∧ (parseMethodDescriptor yX2_rings.desc).map (fun d => d.parameters.length) = some 1 := by decide +kernel
set_option maxHeartbeats 4000000 in
set_option maxRecDepth 100000 in
theorem k_X2_rings {p : Program} {l : Launch} {e : Env} {s : State} {m : MethodId} {args : Array Value} {below : List Frame} {meth : Method} {c : Code} {Q : State → Prop} {A : Nat → Prop} {dC : Nat → ClassId} {dI : Nat → Nat → Nat} {cI cJ cZ : ClassId} (hx : p.tables.exec = Jvm.exec) (hb : c.code = cX2_rings) (hml : c.maxLocals = 2) (hown : s.vm.findClass RX2 = some m.cls) (hts : ∀ w ∈ wsX2_rings, w.before args s = true) (hK : va_K (dC, dI) vwCl (mTy cI cJ cZ) s) (hA : ∀ q, s.heap.size ≤ q → A q) {aR aT aP aB aWK aRE aY aZ : Nat} {tk : Int32} {fB : (Nat → Int32)} {fY : (Nat → Int64)} {fZ : (Nat → Int64)} {x1 : Int32} {post : Int64 → (Nat → Int64) → (Nat → Int64) → Prop} (ret : ∀ (r : Int64) (fY' : (Nat → Int64)) (fZ' : (Nat → Int64)) (H : Heap) (locs : List Loc) (ls : Array Slot) (pc : Nat), decode cX2_rings pc = .ok (.lreturn, 1) → post r fY' fZ' → va_P (dC, dI) vwCl [oR aR aT aP, oT aT aB aWK aRE aY aZ tk, aI aB cI 6 fB, aJ aY cJ 6 fY', aJ aZ cJ 6 fZ'] H → va_D A [oR aR aT aP, oT aT aB aWK aRE aY aZ tk, aI aB cI 6 fB, aJ aY cJ 6 fY', aJ aZ cJ 6 fZ'] → va_S A s.heap H locs → W p l e rm_X2_rings s m args below meth c H locs 0 0 Q (F0 m pc ls [.long r])) (h : wp_X2_rings x1 tk fB fY fZ post) : mW p l e rm_X2_rings s m args below meth c 0 0 Q A (dC, dI) 2 [oR aR aT aP, oT aT aB aWK aRE aY aZ tk, aI aB cI 6 fB, aJ aY cJ 6 fY, aJ aZ cJ 6 fZ] [(0, .ref aR), (1, .int x1)] 0 [] := by
  have in_X2 : ∀ w ∈ wsX20, w ∈ wsX2_rings := fun w hw => List.mem_cons_of_mem _ (List.mem_append_left _ (List.mem_append_right _ hw))
  have k_54 := hts (.constantLong RX2 54 (-2)) (List.mem_of_getElem? (i := 1) rfl)
  have k_12 := hts (.fieldLink RX2 12 "RingTasks" "task" "LRingTasks$Task;") (List.mem_of_getElem? (i := 2) rfl)
  unfold wp_X2_rings at h
  intro H locs ls hP hD hS hl
  refine lv_iload_n hx hb dX2_rings_0 rfl (lv_at hl 1 rfl) ?_
  refine mSi (wr := [oR aR aT aP, oT aT aB aWK aRE aY aZ tk, aI aB cI 6 fB, aJ aY cJ 6 fY, aJ aZ cJ 6 fZ]) (As := [.int x1]) (rest := []) ⟨hx, hb, hml, hown, hts⟩ (c_X2_isRingSize (l := l) (dC := dC) (dI := dI) (cI := cI) (cJ := cJ) (cZ := cZ)  h) (va_cwS 1 hts gX2_rings_X2_isRingSize rfl rfl rfl hv_X2_isRingSize ⟨Nat.le_of_ble_eq_true rfl, Nat.le_of_ble_eq_true rfl⟩) hK hP hD hS hA [] [0, 1, 2, 3, 4] rfl rfl rfl rfl (by decide) rfl hl.1 rfl (Nat.le_of_ble_eq_true rfl) ⟨Nat.zero_le _, Nat.zero_le _⟩ dX2_rings_1 (fun r1 u1 H locs h hP hD hS => ?_)
  have hP : va_P (dC, dI) vwCl [oR aR aT aP, oT aT aB aWK aRE aY aZ tk, aI aB cI 6 fB, aJ aY cJ 6 fY, aJ aZ cJ 6 fZ] H := hP.sub [0, 1, 2, 3, 4] rfl
  have hD : va_D A [oR aR aT aP, oT aT aB aWK aRE aY aZ tk, aI aB cI 6 fB, aJ aY cJ 6 fY, aJ aZ cJ 6 fZ] := hD.sub [0, 1, 2, 3, 4] rfl rfl
  refine lv_if_ne (tgt := 11) hx hb dX2_rings_4 (by decide) (fun q4 => ?_) (fun q4 => ?_)
  · have h := h.1 q4
    refine lv_aload_n hx hb dX2_rings_11 rfl (lv_at hl 0 rfl) ?_
    refine va_get (D := (dC, dI)) (ci := 2) (v := .ref aT) (C := RX2) (T := TX2) (N := 2) hx hb hts in_X2 hown hK hP 0 rfl rfl 0 (by decide) k_12 (fun _ h9 => h9) rfl dX2_rings_12 ?_
    refine lv_iload_n hx hb dX2_rings_15 rfl (lv_at hl 1 rfl) ?_
    refine mVl (wr := [oR aR aT aP]) (As := [.int x1]) (rest := []) ⟨hx, hb, hml, hown, hts⟩ (c_X1_ringCount (l := l) (dC := dC) (dI := dI) (cI := cI) (cJ := cJ) (cZ := cZ) (aT := aT) (aB := aB) (aWK := aWK) (aRE := aRE) (aY := aY) (aZ := aZ) h) (cwV 1 hts gX2_rings_X1_ringCount rfl rfl rfl hv_X1_ringCount ⟨Nat.le_of_ble_eq_true rfl, Nat.le_of_ble_eq_true rfl⟩) hK hP hD hS hA [1, 2, 3, 4] [0] rfl rfl rfl rfl (by decide) 1 rfl rfl rfl rfl hl.1 rfl (Nat.le_of_ble_eq_true rfl) ⟨Nat.zero_le _, Nat.zero_le _⟩ dX2_rings_16 (fun r16 u16 H locs h hP hD hS => ?_)
    obtain ⟨fY_16, fZ_16⟩ := u16
    have hP : va_P (dC, dI) vwCl [oR aR aT aP, oT aT aB aWK aRE aY aZ tk, aI aB cI 6 fB, aJ aY cJ 6 fY_16, aJ aZ cJ 6 fZ_16] H := hP.sub [0, 1, 2, 3, 4] rfl
    have hD : va_D A [oR aR aT aP, oT aT aB aWK aRE aY aZ tk, aI aB cI 6 fB, aJ aY cJ 6 fY_16, aJ aZ cJ 6 fZ_16] := hD.sub [0, 1, 2, 3, 4] rfl rfl
    exact ret _ _ _ H locs ls _ dX2_rings_19 h hP hD hS
  · have h := h.2 q4
    refine lv_ldc2 (v := -2) hx hb hown k_54 dX2_rings_7 ?_
    exact ret _ _ _ H locs ls _ dX2_rings_10 h hP hD hS
set_option maxHeartbeats 4000000 in
set_option maxRecDepth 100000 in
theorem c_X2_rings {l : Launch} {dC : Nat → ClassId} {dI : Nat → Nat → Nat} {cI cJ cZ : ClassId} {aR aT aP aB aWK aRE aY aZ : Nat} {tk : Int32} {fB : (Nat → Int32)} {fY : (Nat → Int64)} {fZ : (Nat → Int64)} {x1 : Int32} {post : Int64 → (Nat → Int64) → (Nat → Int64) → Prop} (h : wp_X2_rings x1 tk fB fY fZ post) : ∀ sz, Met l yX2_rings wsX2_rings rm_X2_rings (mP (dC, dI) (mTy cI cJ cZ) [.ref aR, .int x1] [oR aR aT aP, oT aT aB aWK aRE aY aZ tk, aI aB cI 6 fB, aJ aY cJ 6 fY, aJ aZ cJ 6 fZ] sz) (va_Ql (fun (r : Int64) (u : (Nat → Int64) × (Nat → Int64)) => post r (u.1) (u.2)) (mB (dC, dI) (va_A [oR aR aT aP, oT aT aB aWK aRE aY aZ tk, aI aB cI 6 fB, aJ aY cJ 6 fY, aJ aZ cJ 6 fZ] sz) (fun u => [oR aR aT aP, oT aT aB aWK aRE aY aZ tk, aI aB cI 6 fB, aJ aY cJ 6 (u.1), aJ aZ cJ 6 (u.2)])) (va_A [oR aR aT aP, oT aT aB aWK aRE aY aZ tk, aI aB cI 6 fB, aJ aY cJ 6 fY, aJ aZ cJ 6 fZ] sz)) 0 0 (va_A [oR aR aT aP, oT aT aB aWK aRE aY aZ tk, aI aB cI 6 fB, aJ aY cJ 6 fY, aJ aZ cJ 6 fZ] sz) := by
  intro sz
  refine Met.ofW (cc := cX2_rings) (maxL := 2) (ret := (some .long)) (by decide) rfl ?_
  intro p e s m args below meth c s₁ B hml hv
  obtain ⟨rfl, hsz, hP, hK, hD0⟩ := hv
  have hlocks := B.notSynchronized
  subst hsz
  have hD := hD0.self (sz := s.heap.size)
  have hl := lv_entry ([.ref aR, .int x1]) (n := 2) (Nat.le_of_ble_eq_true rfl)
  rw [lg_entry_eq]
  exact k_X2_rings B.exec B.bytes hml (findClass_of_methodNamed B.named) (atoms_spec (ws := wsX2_rings) B.pre) hK (fun q hq => Or.inr hq) (fun r fY' fZ' H locs ls pc hd hp hP hD hS => W.lret B.exec B.bytes B.returns (fun t ht hW => ⟨⟨r, (fY', fZ'), rfl, hp, by rw [ht]; exact hP, hD⟩, hS.F ht⟩) hS.2.2 hd) h s.heap [] _ hP hD va_S.rf hl

def wp_X2_first (x1 : Int32) (x2 : Int32) (tk : Int32) (fB : (Nat → Int32)) (fWK : (Nat → Int32)) (fRE : (Nat → Int32)) (post : Int32 → (Nat → Int32) → (Nat → Int32) → Prop) : Prop := wp_X2_isRingSize x1 (fun (r1 : Int32) => ((¬ r1 = (0 : Int32) → ((x2 < (0 : Int32) → post (-1 : Int32) fWK fRE) ∧ (¬ x2 < (0 : Int32) → ((x2 < x1 → wp_X1_findRing x1 tk fB fWK fRE (fun (r26 : Int32) (fWK_26 : (Nat → Int32)) (fRE_26 : (Nat → Int32)) => ((r26 = (0 : Int32) → post (-9 : Int32) fWK_26 fRE_26) ∧ (¬ r26 = (0 : Int32) → (vp_in x2 61 ∧ post (fWK_26 x2.toNatClampNeg) fWK_26 fRE_26))))) ∧ (¬ x2 < x1 → post (-1 : Int32) fWK fRE))))) ∧ (r1 = (0 : Int32) → post (-2 : Int32) fWK fRE)))
abbrev rm_X2_first : Room := { frames := 4, cells := 0, slots := 0, locals := 89 }
theorem hv_X2_first : yX2_first.cls = RX2 ∧ yX2_first.cls ≠ "java/lang/invoke/MethodHandle" ∧ yX2_first.cls ≠ "java/lang/invoke/VarHandle" ∧ (parseMethodDescriptor yX2_first.desc).map (fun d => d.parameters.length) = some 2 := by decide +kernel
set_option maxHeartbeats 4000000 in
set_option maxRecDepth 100000 in
theorem k_X2_first {p : Program} {l : Launch} {e : Env} {s : State} {m : MethodId} {args : Array Value} {below : List Frame} {meth : Method} {c : Code} {Q : State → Prop} {A : Nat → Prop} {dC : Nat → ClassId} {dI : Nat → Nat → Nat} {cI cJ cZ : ClassId} (hx : p.tables.exec = Jvm.exec) (hb : c.code = cX2_first) (hml : c.maxLocals = 3) (hown : s.vm.findClass RX2 = some m.cls) (hts : ∀ w ∈ wsX2_first, w.before args s = true) (hK : va_K (dC, dI) vwCl (mTy cI cJ cZ) s) (hA : ∀ q, s.heap.size ≤ q → A q) {aR aT aP aB aWK aRE aY aZ : Nat} {tk : Int32} {fB : (Nat → Int32)} {fWK : (Nat → Int32)} {fRE : (Nat → Int32)} {x1 : Int32} {x2 : Int32} {post : Int32 → (Nat → Int32) → (Nat → Int32) → Prop} (ret : ∀ (r : Int32) (fWK' : (Nat → Int32)) (fRE' : (Nat → Int32)) (H : Heap) (locs : List Loc) (ls : Array Slot) (pc : Nat), decode cX2_first pc = .ok (.ireturn, 1) → post r fWK' fRE' → va_P (dC, dI) vwCl [oR aR aT aP, oT aT aB aWK aRE aY aZ tk, aI aB cI 6 fB, aI aWK cI 61 fWK', aI aRE cI 61 fRE'] H → va_D A [oR aR aT aP, oT aT aB aWK aRE aY aZ tk, aI aB cI 6 fB, aI aWK cI 61 fWK', aI aRE cI 61 fRE'] → va_S A s.heap H locs → W p l e rm_X2_first s m args below meth c H locs 0 0 Q (F0 m pc ls [.int r])) (h : wp_X2_first x1 x2 tk fB fWK fRE post) : mW p l e rm_X2_first s m args below meth c 0 0 Q A (dC, dI) 3 [oR aR aT aP, oT aT aB aWK aRE aY aZ tk, aI aB cI 6 fB, aI aWK cI 61 fWK, aI aRE cI 61 fRE] [(0, .ref aR), (1, .int x1), (2, .int x2)] 0 [] := by
  have in_X1 : ∀ w ∈ wsX10, w ∈ wsX2_first := fun w hw => List.mem_cons_of_mem _ (List.mem_append_right _ hw)
  have in_X2 : ∀ w ∈ wsX20, w ∈ wsX2_first := fun w hw => List.mem_cons_of_mem _ (List.mem_append_left _ (List.mem_append_right _ hw))
  have k_12 := hts (.fieldLink RX2 12 "RingTasks" "task" "LRingTasks$Task;") (List.mem_of_getElem? (i := 1) rfl)
  have k_63 := hts (.fieldLink RX2 63 "RingTasks$Task" "walk" "[I") (List.mem_of_getElem? (i := 2) rfl)
  unfold wp_X2_first at h
  intro H locs ls hP hD hS hl
  refine lv_iload_n hx hb dX2_first_0 rfl (lv_at hl 1 rfl) ?_
  refine mSi (wr := [oR aR aT aP, oT aT aB aWK aRE aY aZ tk, aI aB cI 6 fB, aI aWK cI 61 fWK, aI aRE cI 61 fRE]) (As := [.int x1]) (rest := []) ⟨hx, hb, hml, hown, hts⟩ (c_X2_isRingSize (l := l) (dC := dC) (dI := dI) (cI := cI) (cJ := cJ) (cZ := cZ)  h) (va_cwS 1 hts gX2_first_X2_isRingSize rfl rfl rfl hv_X2_isRingSize ⟨Nat.le_of_ble_eq_true rfl, Nat.le_of_ble_eq_true rfl⟩) hK hP hD hS hA [] [0, 1, 2, 3, 4] rfl rfl rfl rfl (by decide) rfl hl.1 rfl (Nat.le_of_ble_eq_true rfl) ⟨Nat.zero_le _, Nat.zero_le _⟩ dX2_first_1 (fun r1 u1 H locs h hP hD hS => ?_)
  have hP : va_P (dC, dI) vwCl [oR aR aT aP, oT aT aB aWK aRE aY aZ tk, aI aB cI 6 fB, aI aWK cI 61 fWK, aI aRE cI 61 fRE] H := hP.sub [0, 1, 2, 3, 4] rfl
  have hD : va_D A [oR aR aT aP, oT aT aB aWK aRE aY aZ tk, aI aB cI 6 fB, aI aWK cI 61 fWK, aI aRE cI 61 fRE] := hD.sub [0, 1, 2, 3, 4] rfl rfl
  refine lv_if_ne (tgt := 10) hx hb dX2_first_4 (by decide) (fun q4 => ?_) (fun q4 => ?_)
  · have h := h.1 q4
    refine lv_iload_n hx hb dX2_first_10 rfl (lv_at hl 2 rfl) ?_
    refine lv_if_lt (tgt := 19) hx hb dX2_first_11 (by decide) (fun q11 => ?_) (fun q11 => ?_)
    · have h := h.1 q11
      refine lv_iconst (v := -1) hx hb dX2_first_19 (by decide) ?_
      exact ret _ _ _ H locs ls _ dX2_first_20 h hP hD hS
    · have h := h.2 q11
      refine lv_iload_n hx hb dX2_first_14 rfl (lv_at hl 2 rfl) ?_
      refine lv_iload_n hx hb dX2_first_15 rfl (lv_at hl 1 rfl) ?_
      refine lv_icmp_lt (tgt := 21) hx hb dX2_first_16 (by decide) (fun q16 => ?_) (fun q16 => ?_)
      · have h := h.1 q16
        refine lv_aload_n hx hb dX2_first_21 rfl (lv_at hl 0 rfl) ?_
        refine va_get (D := (dC, dI)) (ci := 2) (v := .ref aT) (C := RX2) (T := TX2) (N := 2) hx hb hts in_X2 hown hK hP 0 rfl rfl 0 (by decide) k_12 (fun _ h9 => h9) rfl dX2_first_22 ?_
        refine lv_iload_n hx hb dX2_first_25 rfl (lv_at hl 1 rfl) ?_
        refine mVi (wr := [oR aR aT aP]) (As := [.int x1]) (rest := []) ⟨hx, hb, hml, hown, hts⟩ (c_X1_findRing (l := l) (dC := dC) (dI := dI) (cI := cI) (cJ := cJ) (cZ := cZ) (aT := aT) (aB := aB) (aWK := aWK) (aRE := aRE) (aY := aY) (aZ := aZ) h) (cwV 1 hts gX2_first_X1_findRing rfl rfl rfl hv_X1_findRing ⟨Nat.le_of_ble_eq_true rfl, Nat.le_of_ble_eq_true rfl⟩) hK hP hD hS hA [1, 2, 3, 4] [0] rfl rfl rfl rfl (by decide) 1 rfl rfl rfl rfl hl.1 rfl (Nat.le_of_ble_eq_true rfl) ⟨Nat.zero_le _, Nat.zero_le _⟩ dX2_first_26 (fun r26 u26 H locs h hP hD hS => ?_)
        obtain ⟨fWK_26, fRE_26⟩ := u26
        have hP : va_P (dC, dI) vwCl [oR aR aT aP, oT aT aB aWK aRE aY aZ tk, aI aB cI 6 fB, aI aWK cI 61 fWK_26, aI aRE cI 61 fRE_26] H := hP.sub [0, 1, 2, 3, 4] rfl
        have hD : va_D A [oR aR aT aP, oT aT aB aWK aRE aY aZ tk, aI aB cI 6 fB, aI aWK cI 61 fWK_26, aI aRE cI 61 fRE_26] := hD.sub [0, 1, 2, 3, 4] rfl rfl
        refine lv_if_eq (tgt := 44) hx hb dX2_first_29 (by decide) (fun q29 => ?_) (fun q29 => ?_)
        · have h := h.1 q29
          refine lv_bipush (v := -9) hx hb dX2_first_44 (by decide) ?_
          exact ret _ _ _ H locs ls _ dX2_first_46 h hP hD hS
        · have h := h.2 q29
          refine lv_aload_n hx hb dX2_first_32 rfl (lv_at hl 0 rfl) ?_
          refine va_get (D := (dC, dI)) (ci := 2) (v := .ref aT) (C := RX2) (T := TX2) (N := 2) hx hb hts in_X2 hown hK hP 0 rfl rfl 0 (by decide) k_12 (fun _ h9 => h9) rfl dX2_first_33 ?_
          refine va_get (D := (dC, dI)) (ci := 1) (v := .ref aWK) (C := RX1) (T := TX1) (N := 6) hx hb hts in_X1 hown hK hP 1 rfl rfl 2 (by decide) k_63 (fun _ h9 => h9) rfl dX2_first_36 ?_
          refine lv_iload_n hx hb dX2_first_39 rfl (lv_at hl 2 rfl) ?_
          refine va_iald (D := (dC, dI)) hx hb hK hP 3 0 rfl rfl h.1 dX2_first_40 ?_
          have h := h.2
          refine lv_goto (tgt := 46) hx hb dX2_first_41 (by decide) ?_
          exact ret _ _ _ H locs ls _ dX2_first_46 h hP hD hS
      · have h := h.2 q16
        refine lv_iconst (v := -1) hx hb dX2_first_19 (by decide) ?_
        exact ret _ _ _ H locs ls _ dX2_first_20 h hP hD hS
  · have h := h.2 q4
    refine lv_bipush (v := -2) hx hb dX2_first_7 (by decide) ?_
    exact ret _ _ _ H locs ls _ dX2_first_9 h hP hD hS
set_option maxHeartbeats 4000000 in
set_option maxRecDepth 100000 in
theorem c_X2_first {l : Launch} {dC : Nat → ClassId} {dI : Nat → Nat → Nat} {cI cJ cZ : ClassId} {aR aT aP aB aWK aRE aY aZ : Nat} {tk : Int32} {fB : (Nat → Int32)} {fWK : (Nat → Int32)} {fRE : (Nat → Int32)} {x1 : Int32} {x2 : Int32} {post : Int32 → (Nat → Int32) → (Nat → Int32) → Prop} (h : wp_X2_first x1 x2 tk fB fWK fRE post) : ∀ sz, Met l yX2_first wsX2_first rm_X2_first (mP (dC, dI) (mTy cI cJ cZ) [.ref aR, .int x1, .int x2] [oR aR aT aP, oT aT aB aWK aRE aY aZ tk, aI aB cI 6 fB, aI aWK cI 61 fWK, aI aRE cI 61 fRE] sz) (va_Qi (fun (r : Int32) (u : (Nat → Int32) × (Nat → Int32)) => post r (u.1) (u.2)) (mB (dC, dI) (va_A [oR aR aT aP, oT aT aB aWK aRE aY aZ tk, aI aB cI 6 fB, aI aWK cI 61 fWK, aI aRE cI 61 fRE] sz) (fun u => [oR aR aT aP, oT aT aB aWK aRE aY aZ tk, aI aB cI 6 fB, aI aWK cI 61 (u.1), aI aRE cI 61 (u.2)])) (va_A [oR aR aT aP, oT aT aB aWK aRE aY aZ tk, aI aB cI 6 fB, aI aWK cI 61 fWK, aI aRE cI 61 fRE] sz)) 0 0 (va_A [oR aR aT aP, oT aT aB aWK aRE aY aZ tk, aI aB cI 6 fB, aI aWK cI 61 fWK, aI aRE cI 61 fRE] sz) := by
  intro sz
  refine Met.ofW (cc := cX2_first) (maxL := 3) (ret := (some .int)) (by decide) rfl ?_
  intro p e s m args below meth c s₁ B hml hv
  obtain ⟨rfl, hsz, hP, hK, hD0⟩ := hv
  have hlocks := B.notSynchronized
  subst hsz
  have hD := hD0.self (sz := s.heap.size)
  have hl := lv_entry ([.ref aR, .int x1, .int x2]) (n := 3) (Nat.le_of_ble_eq_true rfl)
  rw [lg_entry_eq]
  exact k_X2_first B.exec B.bytes hml (findClass_of_methodNamed B.named) (atoms_spec (ws := wsX2_first) B.pre) hK (fun q hq => Or.inr hq) (fun r fWK' fRE' H locs ls pc hd hp hP hD hS => W.iret B.exec B.bytes B.returns (fun t ht hW => ⟨⟨r, (fWK', fRE'), rfl, hp, by rw [ht]; exact hP, hD⟩, hS.F ht⟩) hS.2.2 hd) h s.heap [] _ hP hD va_S.rf hl

def wp_X2_walks (x1 : Int32) (x2 : Int32) (x3 : Int32) (tk : Int32) (fB : (Nat → Int32)) (fY : (Nat → Int64)) (fZ : (Nat → Int64)) (post : Int64 → (Nat → Int64) → (Nat → Int64) → Prop) : Prop := wp_X1_has x1 tk (fun (r5 : Int32) => ((r5 = (0 : Int32) → post (-1 : Int64) fY fZ) ∧ (¬ r5 = (0 : Int32) → wp_X1_has x2 tk (fun (r16 : Int32) => ((¬ r16 = (0 : Int32) → ((x3 < (0 : Int32) → post (-2 : Int64) fY fZ) ∧ (¬ x3 < (0 : Int32) → ((x3 ≤ (60 : Int32) → wp_X1_walkCount x1 x2 x3 tk fB fY fZ (fun (r47 : Int64) (fY_47 : (Nat → Int64)) (fZ_47 : (Nat → Int64)) => post r47 fY_47 fZ_47)) ∧ (¬ x3 ≤ (60 : Int32) → post (-2 : Int64) fY fZ))))) ∧ (r16 = (0 : Int32) → post (-1 : Int64) fY fZ))))))
abbrev rm_X2_walks : Room := { frames := 4, cells := 0, slots := 0, locals := 91 }
theorem hv_X2_walks : yX2_walks.cls = RX2 ∧ yX2_walks.cls ≠ "java/lang/invoke/MethodHandle" ∧ yX2_walks.cls ≠ "java/lang/invoke/VarHandle" ∧ (parseMethodDescriptor yX2_walks.desc).map (fun d => d.parameters.length) = some 3 := by decide +kernel
set_option maxHeartbeats 4000000 in
set_option maxRecDepth 100000 in
theorem k_X2_walks {p : Program} {l : Launch} {e : Env} {s : State} {m : MethodId} {args : Array Value} {below : List Frame} {meth : Method} {c : Code} {Q : State → Prop} {A : Nat → Prop} {dC : Nat → ClassId} {dI : Nat → Nat → Nat} {cI cJ cZ : ClassId} (hx : p.tables.exec = Jvm.exec) (hb : c.code = cX2_walks) (hml : c.maxLocals = 4) (hown : s.vm.findClass RX2 = some m.cls) (hts : ∀ w ∈ wsX2_walks, w.before args s = true) (hK : va_K (dC, dI) vwCl (mTy cI cJ cZ) s) (hA : ∀ q, s.heap.size ≤ q → A q) {aR aT aP aB aWK aRE aY aZ : Nat} {tk : Int32} {fB : (Nat → Int32)} {fY : (Nat → Int64)} {fZ : (Nat → Int64)} {x1 : Int32} {x2 : Int32} {x3 : Int32} {post : Int64 → (Nat → Int64) → (Nat → Int64) → Prop} (ret : ∀ (r : Int64) (fY' : (Nat → Int64)) (fZ' : (Nat → Int64)) (H : Heap) (locs : List Loc) (ls : Array Slot) (pc : Nat), decode cX2_walks pc = .ok (.lreturn, 1) → post r fY' fZ' → va_P (dC, dI) vwCl [oR aR aT aP, oT aT aB aWK aRE aY aZ tk, aI aB cI 6 fB, aJ aY cJ 6 fY', aJ aZ cJ 6 fZ'] H → va_D A [oR aR aT aP, oT aT aB aWK aRE aY aZ tk, aI aB cI 6 fB, aJ aY cJ 6 fY', aJ aZ cJ 6 fZ'] → va_S A s.heap H locs → W p l e rm_X2_walks s m args below meth c H locs 0 0 Q (F0 m pc ls [.long r])) (h : wp_X2_walks x1 x2 x3 tk fB fY fZ post) : mW p l e rm_X2_walks s m args below meth c 0 0 Q A (dC, dI) 4 [oR aR aT aP, oT aT aB aWK aRE aY aZ tk, aI aB cI 6 fB, aJ aY cJ 6 fY, aJ aZ cJ 6 fZ] [(0, .ref aR), (1, .int x1), (2, .int x2), (3, .int x3)] 0 [] := by
  have in_X2 : ∀ w ∈ wsX20, w ∈ wsX2_walks := fun w hw => List.mem_cons_of_mem _ (List.mem_append_left _ (List.mem_append_right _ hw))
  have k_54 := hts (.constantLong RX2 54 (-2)) (List.mem_of_getElem? (i := 3) rfl)
  have k_67 := hts (.constantLong RX2 67 (-1)) (List.mem_of_getElem? (i := 2) rfl)
  have k_12 := hts (.fieldLink RX2 12 "RingTasks" "task" "LRingTasks$Task;") (List.mem_of_getElem? (i := 1) rfl)
  unfold wp_X2_walks at h
  intro H locs ls hP hD hS hl
  refine lv_aload_n hx hb dX2_walks_0 rfl (lv_at hl 0 rfl) ?_
  refine va_get (D := (dC, dI)) (ci := 2) (v := .ref aT) (C := RX2) (T := TX2) (N := 2) hx hb hts in_X2 hown hK hP 0 rfl rfl 0 (by decide) k_12 (fun _ h9 => h9) rfl dX2_walks_1 ?_
  refine lv_iload_n hx hb dX2_walks_4 rfl (lv_at hl 1 rfl) ?_
  refine mVi (wr := [oR aR aT aP, aI aB cI 6 fB, aJ aY cJ 6 fY, aJ aZ cJ 6 fZ]) (As := [.int x1]) (rest := []) ⟨hx, hb, hml, hown, hts⟩ (c_X1_has (l := l) (dC := dC) (dI := dI) (cI := cI) (cJ := cJ) (cZ := cZ) (aT := aT) (aB := aB) (aWK := aWK) (aRE := aRE) (aY := aY) (aZ := aZ) h) (cwV 1 hts gX2_walks_X1_has rfl rfl rfl hv_X1_has ⟨Nat.le_of_ble_eq_true rfl, Nat.le_of_ble_eq_true rfl⟩) hK hP hD hS hA [1] [0, 2, 3, 4] rfl rfl rfl rfl (by decide) 1 rfl rfl rfl rfl hl.1 rfl (Nat.le_of_ble_eq_true rfl) ⟨Nat.zero_le _, Nat.zero_le _⟩ dX2_walks_5 (fun r5 u5 H locs h hP hD hS => ?_)
  have hP : va_P (dC, dI) vwCl [oR aR aT aP, oT aT aB aWK aRE aY aZ tk, aI aB cI 6 fB, aJ aY cJ 6 fY, aJ aZ cJ 6 fZ] H := hP.sub [0, 4, 1, 2, 3] rfl
  have hD : va_D A [oR aR aT aP, oT aT aB aWK aRE aY aZ tk, aI aB cI 6 fB, aJ aY cJ 6 fY, aJ aZ cJ 6 fZ] := hD.sub [0, 4, 1, 2, 3] rfl rfl
  refine lv_if_eq (tgt := 22) hx hb dX2_walks_8 (by decide) (fun q8 => ?_) (fun q8 => ?_)
  · have h := h.1 q8
    refine lv_ldc2 (v := -1) hx hb hown k_67 dX2_walks_22 ?_
    exact ret _ _ _ H locs ls _ dX2_walks_25 h hP hD hS
  · have h := h.2 q8
    refine lv_aload_n hx hb dX2_walks_11 rfl (lv_at hl 0 rfl) ?_
    refine va_get (D := (dC, dI)) (ci := 2) (v := .ref aT) (C := RX2) (T := TX2) (N := 2) hx hb hts in_X2 hown hK hP 0 rfl rfl 0 (by decide) k_12 (fun _ h9 => h9) rfl dX2_walks_12 ?_
    refine lv_iload_n hx hb dX2_walks_15 rfl (lv_at hl 2 rfl) ?_
    refine mVi (wr := [oR aR aT aP, aI aB cI 6 fB, aJ aY cJ 6 fY, aJ aZ cJ 6 fZ]) (As := [.int x2]) (rest := []) ⟨hx, hb, hml, hown, hts⟩ (c_X1_has (l := l) (dC := dC) (dI := dI) (cI := cI) (cJ := cJ) (cZ := cZ) (aT := aT) (aB := aB) (aWK := aWK) (aRE := aRE) (aY := aY) (aZ := aZ) h) (cwV 1 hts gX2_walks_X1_has rfl rfl rfl hv_X1_has ⟨Nat.le_of_ble_eq_true rfl, Nat.le_of_ble_eq_true rfl⟩) hK hP hD hS hA [1] [0, 2, 3, 4] rfl rfl rfl rfl (by decide) 1 rfl rfl rfl rfl hl.1 rfl (Nat.le_of_ble_eq_true rfl) ⟨Nat.zero_le _, Nat.zero_le _⟩ dX2_walks_16 (fun r16 u16 H locs h hP hD hS => ?_)
    have hP : va_P (dC, dI) vwCl [oR aR aT aP, oT aT aB aWK aRE aY aZ tk, aI aB cI 6 fB, aJ aY cJ 6 fY, aJ aZ cJ 6 fZ] H := hP.sub [0, 4, 1, 2, 3] rfl
    have hD : va_D A [oR aR aT aP, oT aT aB aWK aRE aY aZ tk, aI aB cI 6 fB, aJ aY cJ 6 fY, aJ aZ cJ 6 fZ] := hD.sub [0, 4, 1, 2, 3] rfl rfl
    refine lv_if_ne (tgt := 26) hx hb dX2_walks_19 (by decide) (fun q19 => ?_) (fun q19 => ?_)
    · have h := h.1 q19
      refine lv_iload_n hx hb dX2_walks_26 rfl (lv_at hl 3 rfl) ?_
      refine lv_if_lt (tgt := 36) hx hb dX2_walks_27 (by decide) (fun q27 => ?_) (fun q27 => ?_)
      · have h := h.1 q27
        refine lv_ldc2 (v := -2) hx hb hown k_54 dX2_walks_36 ?_
        exact ret _ _ _ H locs ls _ dX2_walks_39 h hP hD hS
      · have h := h.2 q27
        refine lv_iload_n hx hb dX2_walks_30 rfl (lv_at hl 3 rfl) ?_
        refine lv_bipush (v := 60) hx hb dX2_walks_31 (by decide) ?_
        refine lv_icmp_le (tgt := 40) hx hb dX2_walks_33 (by decide) (fun q33 => ?_) (fun q33 => ?_)
        · have h := h.1 q33
          refine lv_aload_n hx hb dX2_walks_40 rfl (lv_at hl 0 rfl) ?_
          refine va_get (D := (dC, dI)) (ci := 2) (v := .ref aT) (C := RX2) (T := TX2) (N := 2) hx hb hts in_X2 hown hK hP 0 rfl rfl 0 (by decide) k_12 (fun _ h9 => h9) rfl dX2_walks_41 ?_
          refine lv_iload_n hx hb dX2_walks_44 rfl (lv_at hl 1 rfl) ?_
          refine lv_iload_n hx hb dX2_walks_45 rfl (lv_at hl 2 rfl) ?_
          refine lv_iload_n hx hb dX2_walks_46 rfl (lv_at hl 3 rfl) ?_
          refine mVl (wr := [oR aR aT aP]) (As := [.int x1, .int x2, .int x3]) (rest := []) ⟨hx, hb, hml, hown, hts⟩ (c_X1_walkCount (l := l) (dC := dC) (dI := dI) (cI := cI) (cJ := cJ) (cZ := cZ) (aT := aT) (aB := aB) (aWK := aWK) (aRE := aRE) (aY := aY) (aZ := aZ) h) (cwV 3 hts gX2_walks_X1_walkCount rfl rfl rfl hv_X1_walkCount ⟨Nat.le_of_ble_eq_true rfl, Nat.le_of_ble_eq_true rfl⟩) hK hP hD hS hA [1, 2, 3, 4] [0] rfl rfl rfl rfl (by decide) 1 rfl rfl rfl rfl hl.1 rfl (Nat.le_of_ble_eq_true rfl) ⟨Nat.zero_le _, Nat.zero_le _⟩ dX2_walks_47 (fun r47 u47 H locs h hP hD hS => ?_)
          obtain ⟨fY_47, fZ_47⟩ := u47
          have hP : va_P (dC, dI) vwCl [oR aR aT aP, oT aT aB aWK aRE aY aZ tk, aI aB cI 6 fB, aJ aY cJ 6 fY_47, aJ aZ cJ 6 fZ_47] H := hP.sub [0, 1, 2, 3, 4] rfl
          have hD : va_D A [oR aR aT aP, oT aT aB aWK aRE aY aZ tk, aI aB cI 6 fB, aJ aY cJ 6 fY_47, aJ aZ cJ 6 fZ_47] := hD.sub [0, 1, 2, 3, 4] rfl rfl
          exact ret _ _ _ H locs ls _ dX2_walks_50 h hP hD hS
        · have h := h.2 q33
          refine lv_ldc2 (v := -2) hx hb hown k_54 dX2_walks_36 ?_
          exact ret _ _ _ H locs ls _ dX2_walks_39 h hP hD hS
    · have h := h.2 q19
      refine lv_ldc2 (v := -1) hx hb hown k_67 dX2_walks_22 ?_
      exact ret _ _ _ H locs ls _ dX2_walks_25 h hP hD hS
set_option maxHeartbeats 4000000 in
set_option maxRecDepth 100000 in
theorem c_X2_walks {l : Launch} {dC : Nat → ClassId} {dI : Nat → Nat → Nat} {cI cJ cZ : ClassId} {aR aT aP aB aWK aRE aY aZ : Nat} {tk : Int32} {fB : (Nat → Int32)} {fY : (Nat → Int64)} {fZ : (Nat → Int64)} {x1 : Int32} {x2 : Int32} {x3 : Int32} {post : Int64 → (Nat → Int64) → (Nat → Int64) → Prop} (h : wp_X2_walks x1 x2 x3 tk fB fY fZ post) : ∀ sz, Met l yX2_walks wsX2_walks rm_X2_walks (mP (dC, dI) (mTy cI cJ cZ) [.ref aR, .int x1, .int x2, .int x3] [oR aR aT aP, oT aT aB aWK aRE aY aZ tk, aI aB cI 6 fB, aJ aY cJ 6 fY, aJ aZ cJ 6 fZ] sz) (va_Ql (fun (r : Int64) (u : (Nat → Int64) × (Nat → Int64)) => post r (u.1) (u.2)) (mB (dC, dI) (va_A [oR aR aT aP, oT aT aB aWK aRE aY aZ tk, aI aB cI 6 fB, aJ aY cJ 6 fY, aJ aZ cJ 6 fZ] sz) (fun u => [oR aR aT aP, oT aT aB aWK aRE aY aZ tk, aI aB cI 6 fB, aJ aY cJ 6 (u.1), aJ aZ cJ 6 (u.2)])) (va_A [oR aR aT aP, oT aT aB aWK aRE aY aZ tk, aI aB cI 6 fB, aJ aY cJ 6 fY, aJ aZ cJ 6 fZ] sz)) 0 0 (va_A [oR aR aT aP, oT aT aB aWK aRE aY aZ tk, aI aB cI 6 fB, aJ aY cJ 6 fY, aJ aZ cJ 6 fZ] sz) := by
  intro sz
  refine Met.ofW (cc := cX2_walks) (maxL := 4) (ret := (some .long)) (by decide) rfl ?_
  intro p e s m args below meth c s₁ B hml hv
  obtain ⟨rfl, hsz, hP, hK, hD0⟩ := hv
  have hlocks := B.notSynchronized
  subst hsz
  have hD := hD0.self (sz := s.heap.size)
  have hl := lv_entry ([.ref aR, .int x1, .int x2, .int x3]) (n := 4) (Nat.le_of_ble_eq_true rfl)
  rw [lg_entry_eq]
  exact k_X2_walks B.exec B.bytes hml (findClass_of_methodNamed B.named) (atoms_spec (ws := wsX2_walks) B.pre) hK (fun q hq => Or.inr hq) (fun r fY' fZ' H locs ls pc hd hp hP hD hS => W.lret B.exec B.bytes B.returns (fun t ht hW => ⟨⟨r, (fY', fZ'), rfl, hp, by rw [ht]; exact hP, hD⟩, hS.F ht⟩) hS.2.2 hd) h s.heap [] _ hP hD va_S.rf hl

def wp_X2_blocks_b4 (x1 : Int32) (x2 : Int32) (tk : Int32) (fB : (Nat → Int32)) (post : Int32 → Prop)  : Prop := ∀ P4 : Int32 → Int32 → Prop, (∀ (x1 : Int32) (x2 : Int32), ((tk ≤ x2 → post x1) ∧ (¬ tk ≤ x2 → wp_X1_leastOfBlock x2 tk fB (fun (r20 : Int32) => ((¬ r20 = x2 → (∀ v30 : Int32, v30 = x2 + (1 : Int32) → P4 x1 v30)) ∧ (r20 = x2 → (∀ v27 : Int32, v27 = x1 + (1 : Int32) → (∀ v30 : Int32, v30 = x2 + (1 : Int32) → P4 v27 v30))))))) → P4 x1 x2) → P4 x1 x2
def wp_X2_blocks  (tk : Int32) (fB : (Nat → Int32)) (post : Int32 → Prop) : Prop := wp_X2_blocks_b4 (0 : Int32) (0 : Int32) tk fB post
abbrev rm_X2_blocks : Room := { frames := 3, cells := 0, slots := 0, locals := 69 }
theorem hv_X2_blocks : yX2_blocks.cls = RX2 ∧ yX2_blocks.cls ≠ "java/lang/invoke/MethodHandle" ∧ yX2_blocks.cls ≠ "java/lang/invoke/VarHandle" ∧ (parseMethodDescriptor yX2_blocks.desc).map (fun d => d.parameters.length) = some 0 := by decide +kernel
set_option maxHeartbeats 4000000 in
set_option maxRecDepth 100000 in
theorem k_X2_blocks {p : Program} {l : Launch} {e : Env} {s : State} {m : MethodId} {args : Array Value} {below : List Frame} {meth : Method} {c : Code} {Q : State → Prop} {A : Nat → Prop} {dC : Nat → ClassId} {dI : Nat → Nat → Nat} {cI cJ cZ : ClassId} (hx : p.tables.exec = Jvm.exec) (hb : c.code = cX2_blocks) (hml : c.maxLocals = 3) (hown : s.vm.findClass RX2 = some m.cls) (hts : ∀ w ∈ wsX2_blocks, w.before args s = true) (hK : va_K (dC, dI) vwCl (mTy cI cJ cZ) s) (hA : ∀ q, s.heap.size ≤ q → A q) {aR aT aP aB aWK aRE aY aZ : Nat} {tk : Int32} {fB : (Nat → Int32)}  {post : Int32 → Prop} (ret : ∀ (r : Int32) (H : Heap) (locs : List Loc) (ls : Array Slot) (pc : Nat), decode cX2_blocks pc = .ok (.ireturn, 1) → post r → va_P (dC, dI) vwCl [oR aR aT aP, oT aT aB aWK aRE aY aZ tk, aI aB cI 6 fB] H → va_D A [oR aR aT aP, oT aT aB aWK aRE aY aZ tk, aI aB cI 6 fB] → va_S A s.heap H locs → W p l e rm_X2_blocks s m args below meth c H locs 0 0 Q (F0 m pc ls [.int r])) (h : wp_X2_blocks  tk fB post) : mW p l e rm_X2_blocks s m args below meth c 0 0 Q A (dC, dI) 3 [oR aR aT aP, oT aT aB aWK aRE aY aZ tk, aI aB cI 6 fB] [(0, .ref aR)] 0 [] := by
  have in_X1 : ∀ w ∈ wsX10, w ∈ wsX2_blocks := fun w hw => List.mem_cons_of_mem _ (List.mem_append_right _ hw)
  have in_X2 : ∀ w ∈ wsX20, w ∈ wsX2_blocks := fun w hw => List.mem_cons_of_mem _ (List.mem_append_left _ (List.mem_append_right _ hw))
  have k_12 := hts (.fieldLink RX2 12 "RingTasks" "task" "LRingTasks$Task;") (List.mem_of_getElem? (i := 1) rfl)
  have k_25 := hts (.fieldLink RX2 25 "RingTasks$Task" "size" "I") (List.mem_of_getElem? (i := 2) rfl)
  have B4 : ∀ (x1 : Int32) (x2 : Int32), wp_X2_blocks_b4 x1 x2 tk fB post → mW p l e rm_X2_blocks s m args below meth c 0 0 Q A (dC, dI) 3 [oR aR aT aP, oT aT aB aWK aRE aY aZ tk, aI aB cI 6 fB] [(0, .ref aR), (1, .int x1), (2, .int x2)] 4 [] := by
    intro x1 x2 h
    unfold wp_X2_blocks_b4 at h
    refine h (fun (x1 : Int32) (x2 : Int32) => mW p l e rm_X2_blocks s m args below meth c 0 0 Q A (dC, dI) 3 [oR aR aT aP, oT aT aB aWK aRE aY aZ tk, aI aB cI 6 fB] [(0, .ref aR), (1, .int x1), (2, .int x2)] 4 []) ?_
    intro x1 x2 h
    intro H locs ls hP hD hS hl
    refine lv_iload_n hx hb dX2_blocks_4 rfl (lv_at hl 2 rfl) ?_
    refine lv_aload_n hx hb dX2_blocks_5 rfl (lv_at hl 0 rfl) ?_
    refine va_get (D := (dC, dI)) (ci := 2) (v := .ref aT) (C := RX2) (T := TX2) (N := 2) hx hb hts in_X2 hown hK hP 0 rfl rfl 0 (by decide) k_12 (fun _ h9 => h9) rfl dX2_blocks_6 ?_
    refine va_get (D := (dC, dI)) (ci := 1) (v := .int tk) (C := RX1) (T := TX1) (N := 6) hx hb hts in_X1 hown hK hP 1 rfl rfl 0 (by decide) k_25 (fun _ h9 => h9) rfl dX2_blocks_9 ?_
    refine lv_icmp_ge (tgt := 36) hx hb dX2_blocks_12 (by decide) (fun q12 => ?_) (fun q12 => ?_)
    · have h := h.1 q12
      refine lv_iload_n hx hb dX2_blocks_36 rfl (lv_at hl 1 rfl) ?_
      exact ret _  H locs ls _ dX2_blocks_37 h hP hD hS
    · have h := h.2 q12
      refine lv_aload_n hx hb dX2_blocks_15 rfl (lv_at hl 0 rfl) ?_
      refine va_get (D := (dC, dI)) (ci := 2) (v := .ref aT) (C := RX2) (T := TX2) (N := 2) hx hb hts in_X2 hown hK hP 0 rfl rfl 0 (by decide) k_12 (fun _ h9 => h9) rfl dX2_blocks_16 ?_
      refine lv_iload_n hx hb dX2_blocks_19 rfl (lv_at hl 2 rfl) ?_
      refine mVi (wr := [oR aR aT aP]) (As := [.int x2]) (rest := []) ⟨hx, hb, hml, hown, hts⟩ (c_X1_leastOfBlock (l := l) (dC := dC) (dI := dI) (cI := cI) (cJ := cJ) (cZ := cZ) (aT := aT) (aB := aB) (aWK := aWK) (aRE := aRE) (aY := aY) (aZ := aZ) h) (cwV 1 hts gX2_blocks_X1_leastOfBlock rfl rfl rfl hv_X1_leastOfBlock ⟨Nat.le_of_ble_eq_true rfl, Nat.le_of_ble_eq_true rfl⟩) hK hP hD hS hA [1, 2] [0] rfl rfl rfl rfl (by decide) 1 rfl rfl rfl rfl hl.1 rfl (Nat.le_of_ble_eq_true rfl) ⟨Nat.zero_le _, Nat.zero_le _⟩ dX2_blocks_20 (fun r20 u20 H locs h hP hD hS => ?_)
      have hP : va_P (dC, dI) vwCl [oR aR aT aP, oT aT aB aWK aRE aY aZ tk, aI aB cI 6 fB] H := hP.sub [0, 1, 2] rfl
      have hD : va_D A [oR aR aT aP, oT aT aB aWK aRE aY aZ tk, aI aB cI 6 fB] := hD.sub [0, 1, 2] rfl rfl
      refine lv_iload_n hx hb dX2_blocks_23 rfl (lv_at hl 2 rfl) ?_
      refine lv_icmp_ne (tgt := 30) hx hb dX2_blocks_24 (by decide) (fun q24 => ?_) (fun q24 => ?_)
      · have h := h.1 q24
        obtain ⟨v30, ev30⟩ : ∃ y : Int32, y = x2 + (1 : Int32) := ⟨_, rfl⟩
        have h := h v30 ev30
        refine lv_iinc (v := v30) (lv' := [(2, .int v30), (0, .ref aR), (1, .int x1)]) hx hb dX2_blocks_30 hl (k := 2) rfl (by rw [ev30]; rfl) (by decide) rfl (fun ls hl => ?_)
        refine lv_goto (tgt := 4) hx hb dX2_blocks_33 (by decide) ?_
        exact h H locs ls hP hD hS (lv_sub hl [1, 2, 0] rfl)
      · have h := h.2 q24
        obtain ⟨v27, ev27⟩ : ∃ y : Int32, y = x1 + (1 : Int32) := ⟨_, rfl⟩
        have h := h v27 ev27
        refine lv_iinc (v := v27) (lv' := [(1, .int v27), (0, .ref aR), (2, .int x2)]) hx hb dX2_blocks_27 hl (k := 1) rfl (by rw [ev27]; rfl) (by decide) rfl (fun ls hl => ?_)
        obtain ⟨v30, ev30⟩ : ∃ y : Int32, y = x2 + (1 : Int32) := ⟨_, rfl⟩
        have h := h v30 ev30
        refine lv_iinc (v := v30) (lv' := [(2, .int v30), (1, .int v27), (0, .ref aR)]) hx hb dX2_blocks_30 hl (k := 2) rfl (by rw [ev30]; rfl) (by decide) rfl (fun ls hl => ?_)
        refine lv_goto (tgt := 4) hx hb dX2_blocks_33 (by decide) ?_
        exact h H locs ls hP hD hS (lv_sub hl [2, 1, 0] rfl)
  unfold wp_X2_blocks at h
  intro H locs ls hP hD hS hl
  refine lv_iconst (v := 0) hx hb dX2_blocks_0 (by decide) ?_
  refine lv_istore_n (lv' := [(1, .int (0 : Int32)), (0, .ref aR)]) hx hb dX2_blocks_1 rfl hl (by decide) rfl (fun ls hl => ?_)
  refine lv_iconst (v := 0) hx hb dX2_blocks_2 (by decide) ?_
  refine lv_istore_n (lv' := [(2, .int (0 : Int32)), (1, .int (0 : Int32)), (0, .ref aR)]) hx hb dX2_blocks_3 rfl hl (by decide) rfl (fun ls hl => ?_)
  exact B4 _ _ h H locs ls hP hD hS (lv_sub hl [2, 1, 0] rfl)
set_option maxHeartbeats 4000000 in
set_option maxRecDepth 100000 in
theorem c_X2_blocks {l : Launch} {dC : Nat → ClassId} {dI : Nat → Nat → Nat} {cI cJ cZ : ClassId} {aR aT aP aB aWK aRE aY aZ : Nat} {tk : Int32} {fB : (Nat → Int32)}  {post : Int32 → Prop} (h : wp_X2_blocks  tk fB post) : ∀ sz, Met l yX2_blocks wsX2_blocks rm_X2_blocks (mP (dC, dI) (mTy cI cJ cZ) [.ref aR] [oR aR aT aP, oT aT aB aWK aRE aY aZ tk, aI aB cI 6 fB] sz) (va_Qi (fun (r : Int32) (u : Unit) => post r ) (mB (dC, dI) (va_A [oR aR aT aP, oT aT aB aWK aRE aY aZ tk, aI aB cI 6 fB] sz) (fun u => [oR aR aT aP, oT aT aB aWK aRE aY aZ tk, aI aB cI 6 fB])) (va_A [oR aR aT aP, oT aT aB aWK aRE aY aZ tk, aI aB cI 6 fB] sz)) 0 0 (va_A [oR aR aT aP, oT aT aB aWK aRE aY aZ tk, aI aB cI 6 fB] sz) := by
  intro sz
  refine Met.ofW (cc := cX2_blocks) (maxL := 3) (ret := (some .int)) (by decide) rfl ?_
  intro p e s m args below meth c s₁ B hml hv
  obtain ⟨rfl, hsz, hP, hK, hD0⟩ := hv
  have hlocks := B.notSynchronized
  subst hsz
  have hD := hD0.self (sz := s.heap.size)
  have hl := lv_entry ([.ref aR]) (n := 3) (Nat.le_of_ble_eq_true rfl)
  rw [lg_entry_eq]
  exact k_X2_blocks B.exec B.bytes hml (findClass_of_methodNamed B.named) (atoms_spec (ws := wsX2_blocks) B.pre) hK (fun q hq => Or.inr hq) (fun r H locs ls pc hd hp hP hD hS => W.iret B.exec B.bytes B.returns (fun t ht hW => ⟨⟨r, (), rfl, hp, by rw [ht]; exact hP, hD⟩, hS.F ht⟩) hS.2.2 hd) h s.heap [] _ hP hD va_S.rf hl

def wp_X2_block (x1 : Int32) (tk : Int32) (fB : (Nat → Int32)) (post : Int32 → Prop) : Prop := wp_X1_has x1 tk (fun (r5 : Int32) => ((r5 = (0 : Int32) → post (-1 : Int32)) ∧ (¬ r5 = (0 : Int32) → wp_X1_leastOfBlock x1 tk fB (fun (r16 : Int32) => post r16))))
abbrev rm_X2_block : Room := { frames := 3, cells := 0, slots := 0, locals := 69 }
theorem hv_X2_block : yX2_block.cls = RX2 ∧ yX2_block.cls ≠ "java/lang/invoke/MethodHandle" ∧ yX2_block.cls ≠ "java/lang/invoke/VarHandle" ∧ (parseMethodDescriptor yX2_block.desc).map (fun d => d.parameters.length) = some 1 := by decide +kernel
set_option maxHeartbeats 4000000 in
set_option maxRecDepth 100000 in
theorem k_X2_block {p : Program} {l : Launch} {e : Env} {s : State} {m : MethodId} {args : Array Value} {below : List Frame} {meth : Method} {c : Code} {Q : State → Prop} {A : Nat → Prop} {dC : Nat → ClassId} {dI : Nat → Nat → Nat} {cI cJ cZ : ClassId} (hx : p.tables.exec = Jvm.exec) (hb : c.code = cX2_block) (hml : c.maxLocals = 2) (hown : s.vm.findClass RX2 = some m.cls) (hts : ∀ w ∈ wsX2_block, w.before args s = true) (hK : va_K (dC, dI) vwCl (mTy cI cJ cZ) s) (hA : ∀ q, s.heap.size ≤ q → A q) {aR aT aP aB aWK aRE aY aZ : Nat} {tk : Int32} {fB : (Nat → Int32)} {x1 : Int32} {post : Int32 → Prop} (ret : ∀ (r : Int32) (H : Heap) (locs : List Loc) (ls : Array Slot) (pc : Nat), decode cX2_block pc = .ok (.ireturn, 1) → post r → va_P (dC, dI) vwCl [oR aR aT aP, oT aT aB aWK aRE aY aZ tk, aI aB cI 6 fB] H → va_D A [oR aR aT aP, oT aT aB aWK aRE aY aZ tk, aI aB cI 6 fB] → va_S A s.heap H locs → W p l e rm_X2_block s m args below meth c H locs 0 0 Q (F0 m pc ls [.int r])) (h : wp_X2_block x1 tk fB post) : mW p l e rm_X2_block s m args below meth c 0 0 Q A (dC, dI) 2 [oR aR aT aP, oT aT aB aWK aRE aY aZ tk, aI aB cI 6 fB] [(0, .ref aR), (1, .int x1)] 0 [] := by
  have in_X2 : ∀ w ∈ wsX20, w ∈ wsX2_block := fun w hw => List.mem_cons_of_mem _ (List.mem_append_left _ (List.mem_append_right _ hw))
  have k_12 := hts (.fieldLink RX2 12 "RingTasks" "task" "LRingTasks$Task;") (List.mem_of_getElem? (i := 1) rfl)
  unfold wp_X2_block at h
  intro H locs ls hP hD hS hl
  refine lv_aload_n hx hb dX2_block_0 rfl (lv_at hl 0 rfl) ?_
  refine va_get (D := (dC, dI)) (ci := 2) (v := .ref aT) (C := RX2) (T := TX2) (N := 2) hx hb hts in_X2 hown hK hP 0 rfl rfl 0 (by decide) k_12 (fun _ h9 => h9) rfl dX2_block_1 ?_
  refine lv_iload_n hx hb dX2_block_4 rfl (lv_at hl 1 rfl) ?_
  refine mVi (wr := [oR aR aT aP, aI aB cI 6 fB]) (As := [.int x1]) (rest := []) ⟨hx, hb, hml, hown, hts⟩ (c_X1_has (l := l) (dC := dC) (dI := dI) (cI := cI) (cJ := cJ) (cZ := cZ) (aT := aT) (aB := aB) (aWK := aWK) (aRE := aRE) (aY := aY) (aZ := aZ) h) (cwV 1 hts gX2_block_X1_has rfl rfl rfl hv_X1_has ⟨Nat.le_of_ble_eq_true rfl, Nat.le_of_ble_eq_true rfl⟩) hK hP hD hS hA [1] [0, 2] rfl rfl rfl rfl (by decide) 1 rfl rfl rfl rfl hl.1 rfl (Nat.le_of_ble_eq_true rfl) ⟨Nat.zero_le _, Nat.zero_le _⟩ dX2_block_5 (fun r5 u5 H locs h hP hD hS => ?_)
  have hP : va_P (dC, dI) vwCl [oR aR aT aP, oT aT aB aWK aRE aY aZ tk, aI aB cI 6 fB] H := hP.sub [0, 2, 1] rfl
  have hD : va_D A [oR aR aT aP, oT aT aB aWK aRE aY aZ tk, aI aB cI 6 fB] := hD.sub [0, 2, 1] rfl rfl
  refine lv_if_eq (tgt := 22) hx hb dX2_block_8 (by decide) (fun q8 => ?_) (fun q8 => ?_)
  · have h := h.1 q8
    refine lv_iconst (v := -1) hx hb dX2_block_22 (by decide) ?_
    exact ret _  H locs ls _ dX2_block_23 h hP hD hS
  · have h := h.2 q8
    refine lv_aload_n hx hb dX2_block_11 rfl (lv_at hl 0 rfl) ?_
    refine va_get (D := (dC, dI)) (ci := 2) (v := .ref aT) (C := RX2) (T := TX2) (N := 2) hx hb hts in_X2 hown hK hP 0 rfl rfl 0 (by decide) k_12 (fun _ h9 => h9) rfl dX2_block_12 ?_
    refine lv_iload_n hx hb dX2_block_15 rfl (lv_at hl 1 rfl) ?_
    refine mVi (wr := [oR aR aT aP]) (As := [.int x1]) (rest := []) ⟨hx, hb, hml, hown, hts⟩ (c_X1_leastOfBlock (l := l) (dC := dC) (dI := dI) (cI := cI) (cJ := cJ) (cZ := cZ) (aT := aT) (aB := aB) (aWK := aWK) (aRE := aRE) (aY := aY) (aZ := aZ) h) (cwV 1 hts gX2_block_X1_leastOfBlock rfl rfl rfl hv_X1_leastOfBlock ⟨Nat.le_of_ble_eq_true rfl, Nat.le_of_ble_eq_true rfl⟩) hK hP hD hS hA [1, 2] [0] rfl rfl rfl rfl (by decide) 1 rfl rfl rfl rfl hl.1 rfl (Nat.le_of_ble_eq_true rfl) ⟨Nat.zero_le _, Nat.zero_le _⟩ dX2_block_16 (fun r16 u16 H locs h hP hD hS => ?_)
    have hP : va_P (dC, dI) vwCl [oR aR aT aP, oT aT aB aWK aRE aY aZ tk, aI aB cI 6 fB] H := hP.sub [0, 1, 2] rfl
    have hD : va_D A [oR aR aT aP, oT aT aB aWK aRE aY aZ tk, aI aB cI 6 fB] := hD.sub [0, 1, 2] rfl rfl
    refine lv_goto (tgt := 23) hx hb dX2_block_19 (by decide) ?_
    exact ret _  H locs ls _ dX2_block_23 h hP hD hS
set_option maxHeartbeats 4000000 in
set_option maxRecDepth 100000 in
theorem c_X2_block {l : Launch} {dC : Nat → ClassId} {dI : Nat → Nat → Nat} {cI cJ cZ : ClassId} {aR aT aP aB aWK aRE aY aZ : Nat} {tk : Int32} {fB : (Nat → Int32)} {x1 : Int32} {post : Int32 → Prop} (h : wp_X2_block x1 tk fB post) : ∀ sz, Met l yX2_block wsX2_block rm_X2_block (mP (dC, dI) (mTy cI cJ cZ) [.ref aR, .int x1] [oR aR aT aP, oT aT aB aWK aRE aY aZ tk, aI aB cI 6 fB] sz) (va_Qi (fun (r : Int32) (u : Unit) => post r ) (mB (dC, dI) (va_A [oR aR aT aP, oT aT aB aWK aRE aY aZ tk, aI aB cI 6 fB] sz) (fun u => [oR aR aT aP, oT aT aB aWK aRE aY aZ tk, aI aB cI 6 fB])) (va_A [oR aR aT aP, oT aT aB aWK aRE aY aZ tk, aI aB cI 6 fB] sz)) 0 0 (va_A [oR aR aT aP, oT aT aB aWK aRE aY aZ tk, aI aB cI 6 fB] sz) := by
  intro sz
  refine Met.ofW (cc := cX2_block) (maxL := 2) (ret := (some .int)) (by decide) rfl ?_
  intro p e s m args below meth c s₁ B hml hv
  obtain ⟨rfl, hsz, hP, hK, hD0⟩ := hv
  have hlocks := B.notSynchronized
  subst hsz
  have hD := hD0.self (sz := s.heap.size)
  have hl := lv_entry ([.ref aR, .int x1]) (n := 2) (Nat.le_of_ble_eq_true rfl)
  rw [lg_entry_eq]
  exact k_X2_block B.exec B.bytes hml (findClass_of_methodNamed B.named) (atoms_spec (ws := wsX2_block) B.pre) hK (fun q hq => Or.inr hq) (fun r H locs ls pc hd hp hP hD hS => W.iret B.exec B.bytes B.returns (fun t ht hW => ⟨⟨r, (), rfl, hp, by rw [ht]; exact hP, hD⟩, hS.F ht⟩) hS.2.2 hd) h s.heap [] _ hP hD va_S.rf hl

def wp_X2_pace (x1 : Int32) (tk : Int32) (fB : (Nat → Int32)) (fRE : (Nat → Int32)) (post : Int32 → (Nat → Int32) → Prop) : Prop := wp_X1_has x1 tk (fun (r5 : Int32) => ((r5 = (0 : Int32) → post (-1 : Int32) fRE) ∧ (¬ r5 = (0 : Int32) → wp_X1_paceOf x1 tk fB fRE (fun (r16 : Int32) (fRE_16 : (Nat → Int32)) => post r16 fRE_16))))
abbrev rm_X2_pace : Room := { frames := 3, cells := 0, slots := 0, locals := 73 }
theorem hv_X2_pace : yX2_pace.cls = RX2 ∧ yX2_pace.cls ≠ "java/lang/invoke/MethodHandle" ∧ yX2_pace.cls ≠ "java/lang/invoke/VarHandle" ∧ (parseMethodDescriptor yX2_pace.desc).map (fun d => d.parameters.length) = some 1 := by decide +kernel
set_option maxHeartbeats 4000000 in
set_option maxRecDepth 100000 in
theorem k_X2_pace {p : Program} {l : Launch} {e : Env} {s : State} {m : MethodId} {args : Array Value} {below : List Frame} {meth : Method} {c : Code} {Q : State → Prop} {A : Nat → Prop} {dC : Nat → ClassId} {dI : Nat → Nat → Nat} {cI cJ cZ : ClassId} (hx : p.tables.exec = Jvm.exec) (hb : c.code = cX2_pace) (hml : c.maxLocals = 2) (hown : s.vm.findClass RX2 = some m.cls) (hts : ∀ w ∈ wsX2_pace, w.before args s = true) (hK : va_K (dC, dI) vwCl (mTy cI cJ cZ) s) (hA : ∀ q, s.heap.size ≤ q → A q) {aR aT aP aB aWK aRE aY aZ : Nat} {tk : Int32} {fB : (Nat → Int32)} {fRE : (Nat → Int32)} {x1 : Int32} {post : Int32 → (Nat → Int32) → Prop} (ret : ∀ (r : Int32) (fRE' : (Nat → Int32)) (H : Heap) (locs : List Loc) (ls : Array Slot) (pc : Nat), decode cX2_pace pc = .ok (.ireturn, 1) → post r fRE' → va_P (dC, dI) vwCl [oR aR aT aP, oT aT aB aWK aRE aY aZ tk, aI aB cI 6 fB, aI aRE cI 61 fRE'] H → va_D A [oR aR aT aP, oT aT aB aWK aRE aY aZ tk, aI aB cI 6 fB, aI aRE cI 61 fRE'] → va_S A s.heap H locs → W p l e rm_X2_pace s m args below meth c H locs 0 0 Q (F0 m pc ls [.int r])) (h : wp_X2_pace x1 tk fB fRE post) : mW p l e rm_X2_pace s m args below meth c 0 0 Q A (dC, dI) 2 [oR aR aT aP, oT aT aB aWK aRE aY aZ tk, aI aB cI 6 fB, aI aRE cI 61 fRE] [(0, .ref aR), (1, .int x1)] 0 [] := by
  have in_X2 : ∀ w ∈ wsX20, w ∈ wsX2_pace := fun w hw => List.mem_cons_of_mem _ (List.mem_append_left _ (List.mem_append_right _ hw))
  have k_12 := hts (.fieldLink RX2 12 "RingTasks" "task" "LRingTasks$Task;") (List.mem_of_getElem? (i := 1) rfl)
  unfold wp_X2_pace at h
  intro H locs ls hP hD hS hl
  refine lv_aload_n hx hb dX2_pace_0 rfl (lv_at hl 0 rfl) ?_
  refine va_get (D := (dC, dI)) (ci := 2) (v := .ref aT) (C := RX2) (T := TX2) (N := 2) hx hb hts in_X2 hown hK hP 0 rfl rfl 0 (by decide) k_12 (fun _ h9 => h9) rfl dX2_pace_1 ?_
  refine lv_iload_n hx hb dX2_pace_4 rfl (lv_at hl 1 rfl) ?_
  refine mVi (wr := [oR aR aT aP, aI aB cI 6 fB, aI aRE cI 61 fRE]) (As := [.int x1]) (rest := []) ⟨hx, hb, hml, hown, hts⟩ (c_X1_has (l := l) (dC := dC) (dI := dI) (cI := cI) (cJ := cJ) (cZ := cZ) (aT := aT) (aB := aB) (aWK := aWK) (aRE := aRE) (aY := aY) (aZ := aZ) h) (cwV 1 hts gX2_pace_X1_has rfl rfl rfl hv_X1_has ⟨Nat.le_of_ble_eq_true rfl, Nat.le_of_ble_eq_true rfl⟩) hK hP hD hS hA [1] [0, 2, 3] rfl rfl rfl rfl (by decide) 1 rfl rfl rfl rfl hl.1 rfl (Nat.le_of_ble_eq_true rfl) ⟨Nat.zero_le _, Nat.zero_le _⟩ dX2_pace_5 (fun r5 u5 H locs h hP hD hS => ?_)
  have hP : va_P (dC, dI) vwCl [oR aR aT aP, oT aT aB aWK aRE aY aZ tk, aI aB cI 6 fB, aI aRE cI 61 fRE] H := hP.sub [0, 3, 1, 2] rfl
  have hD : va_D A [oR aR aT aP, oT aT aB aWK aRE aY aZ tk, aI aB cI 6 fB, aI aRE cI 61 fRE] := hD.sub [0, 3, 1, 2] rfl rfl
  refine lv_if_eq (tgt := 22) hx hb dX2_pace_8 (by decide) (fun q8 => ?_) (fun q8 => ?_)
  · have h := h.1 q8
    refine lv_iconst (v := -1) hx hb dX2_pace_22 (by decide) ?_
    exact ret _ _ H locs ls _ dX2_pace_23 h hP hD hS
  · have h := h.2 q8
    refine lv_aload_n hx hb dX2_pace_11 rfl (lv_at hl 0 rfl) ?_
    refine va_get (D := (dC, dI)) (ci := 2) (v := .ref aT) (C := RX2) (T := TX2) (N := 2) hx hb hts in_X2 hown hK hP 0 rfl rfl 0 (by decide) k_12 (fun _ h9 => h9) rfl dX2_pace_12 ?_
    refine lv_iload_n hx hb dX2_pace_15 rfl (lv_at hl 1 rfl) ?_
    refine mVi (wr := [oR aR aT aP]) (As := [.int x1]) (rest := []) ⟨hx, hb, hml, hown, hts⟩ (c_X1_paceOf (l := l) (dC := dC) (dI := dI) (cI := cI) (cJ := cJ) (cZ := cZ) (aT := aT) (aB := aB) (aWK := aWK) (aRE := aRE) (aY := aY) (aZ := aZ) h) (cwV 1 hts gX2_pace_X1_paceOf rfl rfl rfl hv_X1_paceOf ⟨Nat.le_of_ble_eq_true rfl, Nat.le_of_ble_eq_true rfl⟩) hK hP hD hS hA [1, 2, 3] [0] rfl rfl rfl rfl (by decide) 1 rfl rfl rfl rfl hl.1 rfl (Nat.le_of_ble_eq_true rfl) ⟨Nat.zero_le _, Nat.zero_le _⟩ dX2_pace_16 (fun r16 fRE_16 H locs h hP hD hS => ?_)
    have hP : va_P (dC, dI) vwCl [oR aR aT aP, oT aT aB aWK aRE aY aZ tk, aI aB cI 6 fB, aI aRE cI 61 fRE_16] H := hP.sub [0, 1, 2, 3] rfl
    have hD : va_D A [oR aR aT aP, oT aT aB aWK aRE aY aZ tk, aI aB cI 6 fB, aI aRE cI 61 fRE_16] := hD.sub [0, 1, 2, 3] rfl rfl
    refine lv_goto (tgt := 23) hx hb dX2_pace_19 (by decide) ?_
    exact ret _ _ H locs ls _ dX2_pace_23 h hP hD hS
set_option maxHeartbeats 4000000 in
set_option maxRecDepth 100000 in
theorem c_X2_pace {l : Launch} {dC : Nat → ClassId} {dI : Nat → Nat → Nat} {cI cJ cZ : ClassId} {aR aT aP aB aWK aRE aY aZ : Nat} {tk : Int32} {fB : (Nat → Int32)} {fRE : (Nat → Int32)} {x1 : Int32} {post : Int32 → (Nat → Int32) → Prop} (h : wp_X2_pace x1 tk fB fRE post) : ∀ sz, Met l yX2_pace wsX2_pace rm_X2_pace (mP (dC, dI) (mTy cI cJ cZ) [.ref aR, .int x1] [oR aR aT aP, oT aT aB aWK aRE aY aZ tk, aI aB cI 6 fB, aI aRE cI 61 fRE] sz) (va_Qi (fun (r : Int32) (u : (Nat → Int32)) => post r u) (mB (dC, dI) (va_A [oR aR aT aP, oT aT aB aWK aRE aY aZ tk, aI aB cI 6 fB, aI aRE cI 61 fRE] sz) (fun u => [oR aR aT aP, oT aT aB aWK aRE aY aZ tk, aI aB cI 6 fB, aI aRE cI 61 u])) (va_A [oR aR aT aP, oT aT aB aWK aRE aY aZ tk, aI aB cI 6 fB, aI aRE cI 61 fRE] sz)) 0 0 (va_A [oR aR aT aP, oT aT aB aWK aRE aY aZ tk, aI aB cI 6 fB, aI aRE cI 61 fRE] sz) := by
  intro sz
  refine Met.ofW (cc := cX2_pace) (maxL := 2) (ret := (some .int)) (by decide) rfl ?_
  intro p e s m args below meth c s₁ B hml hv
  obtain ⟨rfl, hsz, hP, hK, hD0⟩ := hv
  have hlocks := B.notSynchronized
  subst hsz
  have hD := hD0.self (sz := s.heap.size)
  have hl := lv_entry ([.ref aR, .int x1]) (n := 2) (Nat.le_of_ble_eq_true rfl)
  rw [lg_entry_eq]
  exact k_X2_pace B.exec B.bytes hml (findClass_of_methodNamed B.named) (atoms_spec (ws := wsX2_pace) B.pre) hK (fun q hq => Or.inr hq) (fun r fRE' H locs ls pc hd hp hP hD hS => W.iret B.exec B.bytes B.returns (fun t ht hW => ⟨⟨r, fRE', rfl, hp, by rw [ht]; exact hP, hD⟩, hS.F ht⟩) hS.2.2 hd) h s.heap [] _ hP hD va_S.rf hl

def wp_X2_kind  (tk : Int32) (fB : (Nat → Int32)) (fRE : (Nat → Int32)) (post : Int32 → (Nat → Int32) → Prop) : Prop := wp_X1_kindOfTask tk fB fRE (fun (r4 : Int32) (fRE_4 : (Nat → Int32)) => post r4 fRE_4)
abbrev rm_X2_kind : Room := { frames := 5, cells := 0, slots := 0, locals := 116 }
theorem hv_X2_kind : yX2_kind.cls = RX2 ∧ yX2_kind.cls ≠ "java/lang/invoke/MethodHandle" ∧ yX2_kind.cls ≠ "java/lang/invoke/VarHandle" ∧ (parseMethodDescriptor yX2_kind.desc).map (fun d => d.parameters.length) = some 0 := by decide +kernel
set_option maxHeartbeats 4000000 in
set_option maxRecDepth 100000 in
theorem k_X2_kind {p : Program} {l : Launch} {e : Env} {s : State} {m : MethodId} {args : Array Value} {below : List Frame} {meth : Method} {c : Code} {Q : State → Prop} {A : Nat → Prop} {dC : Nat → ClassId} {dI : Nat → Nat → Nat} {cI cJ cZ : ClassId} (hx : p.tables.exec = Jvm.exec) (hb : c.code = cX2_kind) (hml : c.maxLocals = 1) (hown : s.vm.findClass RX2 = some m.cls) (hts : ∀ w ∈ wsX2_kind, w.before args s = true) (hK : va_K (dC, dI) vwCl (mTy cI cJ cZ) s) (hA : ∀ q, s.heap.size ≤ q → A q) {aR aT aP aB aWK aRE aY aZ : Nat} {tk : Int32} {fB : (Nat → Int32)} {fRE : (Nat → Int32)}  {post : Int32 → (Nat → Int32) → Prop} (ret : ∀ (r : Int32) (fRE' : (Nat → Int32)) (H : Heap) (locs : List Loc) (ls : Array Slot) (pc : Nat), decode cX2_kind pc = .ok (.ireturn, 1) → post r fRE' → va_P (dC, dI) vwCl [oR aR aT aP, oT aT aB aWK aRE aY aZ tk, aI aB cI 6 fB, aI aRE cI 61 fRE'] H → va_D A [oR aR aT aP, oT aT aB aWK aRE aY aZ tk, aI aB cI 6 fB, aI aRE cI 61 fRE'] → va_S A s.heap H locs → W p l e rm_X2_kind s m args below meth c H locs 0 0 Q (F0 m pc ls [.int r])) (h : wp_X2_kind  tk fB fRE post) : mW p l e rm_X2_kind s m args below meth c 0 0 Q A (dC, dI) 1 [oR aR aT aP, oT aT aB aWK aRE aY aZ tk, aI aB cI 6 fB, aI aRE cI 61 fRE] [(0, .ref aR)] 0 [] := by
  have in_X2 : ∀ w ∈ wsX20, w ∈ wsX2_kind := fun w hw => List.mem_cons_of_mem _ (List.mem_append_left _ (List.mem_append_right _ hw))
  have k_12 := hts (.fieldLink RX2 12 "RingTasks" "task" "LRingTasks$Task;") (List.mem_of_getElem? (i := 1) rfl)
  unfold wp_X2_kind at h
  intro H locs ls hP hD hS hl
  refine lv_aload_n hx hb dX2_kind_0 rfl (lv_at hl 0 rfl) ?_
  refine va_get (D := (dC, dI)) (ci := 2) (v := .ref aT) (C := RX2) (T := TX2) (N := 2) hx hb hts in_X2 hown hK hP 0 rfl rfl 0 (by decide) k_12 (fun _ h9 => h9) rfl dX2_kind_1 ?_
  refine mVi (wr := [oR aR aT aP]) (As := []) (rest := []) ⟨hx, hb, hml, hown, hts⟩ (c_X1_kindOfTask (l := l) (dC := dC) (dI := dI) (cI := cI) (cJ := cJ) (cZ := cZ) (aT := aT) (aB := aB) (aWK := aWK) (aRE := aRE) (aY := aY) (aZ := aZ) h) (cwV 0 hts gX2_kind_X1_kindOfTask rfl rfl rfl hv_X1_kindOfTask ⟨Nat.le_of_ble_eq_true rfl, Nat.le_of_ble_eq_true rfl⟩) hK hP hD hS hA [1, 2, 3] [0] rfl rfl rfl rfl (by decide) 1 rfl rfl rfl rfl hl.1 rfl (Nat.le_of_ble_eq_true rfl) ⟨Nat.zero_le _, Nat.zero_le _⟩ dX2_kind_4 (fun r4 fRE_4 H locs h hP hD hS => ?_)
  have hP : va_P (dC, dI) vwCl [oR aR aT aP, oT aT aB aWK aRE aY aZ tk, aI aB cI 6 fB, aI aRE cI 61 fRE_4] H := hP.sub [0, 1, 2, 3] rfl
  have hD : va_D A [oR aR aT aP, oT aT aB aWK aRE aY aZ tk, aI aB cI 6 fB, aI aRE cI 61 fRE_4] := hD.sub [0, 1, 2, 3] rfl rfl
  exact ret _ _ H locs ls _ dX2_kind_7 h hP hD hS
set_option maxHeartbeats 4000000 in
set_option maxRecDepth 100000 in
theorem c_X2_kind {l : Launch} {dC : Nat → ClassId} {dI : Nat → Nat → Nat} {cI cJ cZ : ClassId} {aR aT aP aB aWK aRE aY aZ : Nat} {tk : Int32} {fB : (Nat → Int32)} {fRE : (Nat → Int32)}  {post : Int32 → (Nat → Int32) → Prop} (h : wp_X2_kind  tk fB fRE post) : ∀ sz, Met l yX2_kind wsX2_kind rm_X2_kind (mP (dC, dI) (mTy cI cJ cZ) [.ref aR] [oR aR aT aP, oT aT aB aWK aRE aY aZ tk, aI aB cI 6 fB, aI aRE cI 61 fRE] sz) (va_Qi (fun (r : Int32) (u : (Nat → Int32)) => post r u) (mB (dC, dI) (va_A [oR aR aT aP, oT aT aB aWK aRE aY aZ tk, aI aB cI 6 fB, aI aRE cI 61 fRE] sz) (fun u => [oR aR aT aP, oT aT aB aWK aRE aY aZ tk, aI aB cI 6 fB, aI aRE cI 61 u])) (va_A [oR aR aT aP, oT aT aB aWK aRE aY aZ tk, aI aB cI 6 fB, aI aRE cI 61 fRE] sz)) 0 0 (va_A [oR aR aT aP, oT aT aB aWK aRE aY aZ tk, aI aB cI 6 fB, aI aRE cI 61 fRE] sz) := by
  intro sz
  refine Met.ofW (cc := cX2_kind) (maxL := 1) (ret := (some .int)) (by decide) rfl ?_
  intro p e s m args below meth c s₁ B hml hv
  obtain ⟨rfl, hsz, hP, hK, hD0⟩ := hv
  have hlocks := B.notSynchronized
  subst hsz
  have hD := hD0.self (sz := s.heap.size)
  have hl := lv_entry ([.ref aR]) (n := 1) (Nat.le_of_ble_eq_true rfl)
  rw [lg_entry_eq]
  exact k_X2_kind B.exec B.bytes hml (findClass_of_methodNamed B.named) (atoms_spec (ws := wsX2_kind) B.pre) hK (fun q hq => Or.inr hq) (fun r fRE' H locs ls pc hd hp hP hD hS => W.iret B.exec B.bytes B.returns (fun t ht hW => ⟨⟨r, fRE', rfl, hp, by rw [ht]; exact hP, hD⟩, hS.F ht⟩) hS.2.2 hd) h s.heap [] _ hP hD va_S.rf hl

def wp_X2_endOfGaps_b3 (x0 : Int64) (x2 : Int32)  (post : Int32 → Prop)  : Prop := ∀ P3 : Int32 → Prop, (∀ (x2 : Int32), ((x2 ≤ (0 : Int32) → post x2) ∧ (¬ x2 ≤ (0 : Int32) → ((¬ (lg_cmp ((x0 >>> (((x2 - (1 : Int32)) : Int32).toInt64 &&& 63)) &&& (1 : Int64)) (1 : Int64)) = (0 : Int32) → post x2) ∧ ((lg_cmp ((x0 >>> (((x2 - (1 : Int32)) : Int32).toInt64 &&& 63)) &&& (1 : Int64)) (1 : Int64)) = (0 : Int32) → (∀ v19 : Int32, v19 = x2 + (-1 : Int32) → P3 v19))))) → P3 x2) → P3 x2
def wp_X2_endOfGaps (x0 : Int64)  (post : Int32 → Prop) : Prop := wp_X2_endOfGaps_b3 x0 (61 : Int32) post
abbrev rm_X2_endOfGaps : Room := { frames := 0, cells := 0, slots := 0, locals := 0 }
theorem hv_X2_endOfGaps : yX2_endOfGaps.cls ≠ "java/lang/invoke/MethodHandle" ∧ yX2_endOfGaps.cls ≠ "java/lang/invoke/VarHandle" ∧ (parseMethodDescriptor yX2_endOfGaps.desc).map (fun d => d.parameters.length) = some 1 := by decide +kernel
set_option maxHeartbeats 4000000 in
set_option maxRecDepth 100000 in
theorem k_X2_endOfGaps {p : Program} {l : Launch} {e : Env} {s : State} {m : MethodId} {args : Array Value} {below : List Frame} {meth : Method} {c : Code} {Q : State → Prop} {A : Nat → Prop} {dC : Nat → ClassId} {dI : Nat → Nat → Nat} {cI cJ cZ : ClassId} (hx : p.tables.exec = Jvm.exec) (hb : c.code = cX2_endOfGaps) (hml : c.maxLocals = 3) (hown : s.vm.findClass RX2 = some m.cls) (hts : ∀ w ∈ wsX2_endOfGaps, w.before args s = true) (hK : va_K (dC, dI) vwCl (mTy cI cJ cZ) s) (hA : ∀ q, s.heap.size ≤ q → A q)  {x0 : Int64} {post : Int32 → Prop} (ret : ∀ (r : Int32) (H : Heap) (locs : List Loc) (ls : Array Slot) (pc : Nat), decode cX2_endOfGaps pc = .ok (.ireturn, 1) → post r → va_P (dC, dI) vwCl [] H → va_D A [] → va_S A s.heap H locs → W p l e rm_X2_endOfGaps s m args below meth c H locs 0 0 Q (F0 m pc ls [.int r])) (h : wp_X2_endOfGaps x0  post) : mW p l e rm_X2_endOfGaps s m args below meth c 0 0 Q A (dC, dI) 3 [] [(0, .long x0)] 0 [] := by
  have B3 : ∀ (x0 : Int64) (x2 : Int32), wp_X2_endOfGaps_b3 x0 x2  post → mW p l e rm_X2_endOfGaps s m args below meth c 0 0 Q A (dC, dI) 3 [] [(0, .long x0), (2, .int x2)] 3 [] := by
    intro x0 x2 h
    unfold wp_X2_endOfGaps_b3 at h
    refine h (fun (x2 : Int32) => mW p l e rm_X2_endOfGaps s m args below meth c 0 0 Q A (dC, dI) 3 [] [(0, .long x0), (2, .int x2)] 3 []) ?_
    intro x2 h
    intro H locs ls hP hD hS hl
    refine lv_iload_n hx hb dX2_endOfGaps_3 rfl (lv_at hl 1 rfl) ?_
    refine lv_if_le (tgt := 25) hx hb dX2_endOfGaps_4 (by decide) (fun q4 => ?_) (fun q4 => ?_)
    · have h := h.1 q4
      refine lv_iload_n hx hb dX2_endOfGaps_25 rfl (lv_at hl 1 rfl) ?_
      exact ret _  H locs ls _ dX2_endOfGaps_26 h hP hD hS
    · have h := h.2 q4
      refine lv_lload_n hx hb dX2_endOfGaps_7 rfl (lv_at hl 0 rfl) ?_
      refine lv_iload_n hx hb dX2_endOfGaps_8 rfl (lv_at hl 1 rfl) ?_
      refine lv_iconst (v := 1) hx hb dX2_endOfGaps_9 (by decide) ?_
      refine lv_isub hx hb dX2_endOfGaps_10 ?_
      refine lv_lshr hx hb dX2_endOfGaps_11 rfl ?_
      refine lv_lconst (v := 1) hx hb dX2_endOfGaps_12 (by decide) ?_
      refine lv_land hx hb dX2_endOfGaps_13 ?_
      refine lv_lconst (v := 1) hx hb dX2_endOfGaps_14 (by decide) ?_
      refine W.lcmp hx hb dX2_endOfGaps_15 ?_
      refine lv_if_ne (tgt := 25) hx hb dX2_endOfGaps_16 (by decide) (fun q16 => ?_) (fun q16 => ?_)
      · have h := h.1 q16
        refine lv_iload_n hx hb dX2_endOfGaps_25 rfl (lv_at hl 1 rfl) ?_
        exact ret _  H locs ls _ dX2_endOfGaps_26 h hP hD hS
      · have h := h.2 q16
        obtain ⟨v19, ev19⟩ : ∃ y : Int32, y = x2 + (-1 : Int32) := ⟨_, rfl⟩
        have h := h v19 ev19
        refine lv_iinc (v := v19) (lv' := [(2, .int v19), (0, .long x0)]) hx hb dX2_endOfGaps_19 hl (k := 1) rfl (by rw [ev19]; rfl) (by decide) rfl (fun ls hl => ?_)
        refine lv_goto (tgt := 3) hx hb dX2_endOfGaps_22 (by decide) ?_
        exact h H locs ls hP hD hS (lv_sub hl [1, 0] rfl)
  unfold wp_X2_endOfGaps at h
  intro H locs ls hP hD hS hl
  refine lv_bipush (v := 61) hx hb dX2_endOfGaps_0 (by decide) ?_
  refine lv_istore_n (lv' := [(2, .int (61 : Int32)), (0, .long x0)]) hx hb dX2_endOfGaps_2 rfl hl (by decide) rfl (fun ls hl => ?_)
  exact B3 _ _ h H locs ls hP hD hS (lv_sub hl [1, 0] rfl)
set_option maxHeartbeats 4000000 in
set_option maxRecDepth 100000 in
theorem c_X2_endOfGaps {l : Launch} {dC : Nat → ClassId} {dI : Nat → Nat → Nat} {cI cJ cZ : ClassId}  {x0 : Int64} {post : Int32 → Prop} (h : wp_X2_endOfGaps x0  post) : ∀ sz, Met l yX2_endOfGaps wsX2_endOfGaps rm_X2_endOfGaps (mP (dC, dI) (mTy cI cJ cZ) [.long x0] [] sz) (va_Qi (fun (r : Int32) (u : Unit) => post r ) (mB (dC, dI) (va_A [] sz) (fun u => [])) (va_A [] sz)) 0 0 (va_A [] sz) := by
  intro sz
  refine Met.ofW (cc := cX2_endOfGaps) (maxL := 3) (ret := (some .int)) (by decide) rfl ?_
  intro p e s m args below meth c s₁ B hml hv
  obtain ⟨rfl, hsz, hP, hK, hD0⟩ := hv
  have hlocks := B.notSynchronized
  subst hsz
  have hD := hD0.self (sz := s.heap.size)
  have hl := lv_entry ([.long x0]) (n := 3) (Nat.le_of_ble_eq_true rfl)
  rw [lg_entry_eq]
  exact k_X2_endOfGaps B.exec B.bytes hml (findClass_of_methodNamed B.named) (atoms_spec (ws := wsX2_endOfGaps) B.pre) hK (fun q hq => Or.inr hq) (fun r H locs ls pc hd hp hP hD hS => W.iret B.exec B.bytes B.returns (fun t ht hW => ⟨⟨r, (), rfl, hp, by rw [ht]; exact hP, hD⟩, hS.F ht⟩) hS.2.2 hd) h s.heap [] _ hP hD va_S.rf hl

def wp_X2_sure  (tk : Int32) (fB : (Nat → Int32)) (fRE : (Nat → Int32)) (post : Int32 → (Nat → Int32) → Prop) : Prop := wp_X1_hasPaceOne tk fB fRE (fun (r4 : Int32) (fRE_4 : (Nat → Int32)) => ((r4 = (0 : Int32) → post (-9 : Int32) fRE_4) ∧ (¬ r4 = (0 : Int32) → wp_X1_ringLengths tk fB fRE_4 (fun (r15 : Int64) (fRE_15 : (Nat → Int32)) => wp_X2_endOfGaps r15 (fun (r18 : Int32) => post (if (1 : Int32) < r18 then r18 else (1 : Int32)) fRE_15)))))
abbrev rm_X2_sure : Room := { frames := 4, cells := 0, slots := 0, locals := 94 }
theorem hv_X2_sure : yX2_sure.cls = RX2 ∧ yX2_sure.cls ≠ "java/lang/invoke/MethodHandle" ∧ yX2_sure.cls ≠ "java/lang/invoke/VarHandle" ∧ (parseMethodDescriptor yX2_sure.desc).map (fun d => d.parameters.length) = some 0 := by decide +kernel
set_option maxHeartbeats 4000000 in
set_option maxRecDepth 100000 in
theorem k_X2_sure {p : Program} {l : Launch} {e : Env} {s : State} {m : MethodId} {args : Array Value} {below : List Frame} {meth : Method} {c : Code} {Q : State → Prop} {A : Nat → Prop} {dC : Nat → ClassId} {dI : Nat → Nat → Nat} {cI cJ cZ : ClassId} (hx : p.tables.exec = Jvm.exec) (hb : c.code = cX2_sure) (hml : c.maxLocals = 1) (hown : s.vm.findClass RX2 = some m.cls) (hts : ∀ w ∈ wsX2_sure, w.before args s = true) (hK : va_K (dC, dI) vwCl (mTy cI cJ cZ) s) (hA : ∀ q, s.heap.size ≤ q → A q) {aR aT aP aB aWK aRE aY aZ : Nat} {tk : Int32} {fB : (Nat → Int32)} {fRE : (Nat → Int32)}  {post : Int32 → (Nat → Int32) → Prop} (ret : ∀ (r : Int32) (fRE' : (Nat → Int32)) (H : Heap) (locs : List Loc) (ls : Array Slot) (pc : Nat), decode cX2_sure pc = .ok (.ireturn, 1) → post r fRE' → va_P (dC, dI) vwCl [oR aR aT aP, oT aT aB aWK aRE aY aZ tk, aI aB cI 6 fB, aI aRE cI 61 fRE'] H → va_D A [oR aR aT aP, oT aT aB aWK aRE aY aZ tk, aI aB cI 6 fB, aI aRE cI 61 fRE'] → va_S A s.heap H locs → W p l e rm_X2_sure s m args below meth c H locs 0 0 Q (F0 m pc ls [.int r])) (h : wp_X2_sure  tk fB fRE post) : mW p l e rm_X2_sure s m args below meth c 0 0 Q A (dC, dI) 1 [oR aR aT aP, oT aT aB aWK aRE aY aZ tk, aI aB cI 6 fB, aI aRE cI 61 fRE] [(0, .ref aR)] 0 [] := by
  have in_X2 : ∀ w ∈ wsX20, w ∈ wsX2_sure := fun w hw => List.mem_cons_of_mem _ (List.mem_append_left _ (List.mem_append_right _ hw))
  have kw_code_Lib_Math_max_name_Lib_Math_max_code_2_some_int_ := hts (.code Lib.Math.max.name Lib.Math.max.code 2 (some .int)) (List.mem_of_getElem? (i := 5) rfl)
  have k_12 := hts (.fieldLink RX2 12 "RingTasks" "task" "LRingTasks$Task;") (List.mem_of_getElem? (i := 1) rfl)
  have kw_initialized_java_lang_Math_ := hts (.initialized "java/lang/Math") (List.mem_of_getElem? (i := 4) rfl)
  have k_96 := hts (.methodLink RX2 96 Lib.Math.max.name) (List.mem_of_getElem? (i := 2) rfl)
  have kw_static_Lib_Math_max_name := hts (.static Lib.Math.max.name) (List.mem_of_getElem? (i := 3) rfl)
  unfold wp_X2_sure at h
  intro H locs ls hP hD hS hl
  refine lv_aload_n hx hb dX2_sure_0 rfl (lv_at hl 0 rfl) ?_
  refine va_get (D := (dC, dI)) (ci := 2) (v := .ref aT) (C := RX2) (T := TX2) (N := 2) hx hb hts in_X2 hown hK hP 0 rfl rfl 0 (by decide) k_12 (fun _ h9 => h9) rfl dX2_sure_1 ?_
  refine mVi (wr := [oR aR aT aP]) (As := []) (rest := []) ⟨hx, hb, hml, hown, hts⟩ (c_X1_hasPaceOne (l := l) (dC := dC) (dI := dI) (cI := cI) (cJ := cJ) (cZ := cZ) (aT := aT) (aB := aB) (aWK := aWK) (aRE := aRE) (aY := aY) (aZ := aZ) h) (cwV 0 hts gX2_sure_X1_hasPaceOne rfl rfl rfl hv_X1_hasPaceOne ⟨Nat.le_of_ble_eq_true rfl, Nat.le_of_ble_eq_true rfl⟩) hK hP hD hS hA [1, 2, 3] [0] rfl rfl rfl rfl (by decide) 1 rfl rfl rfl rfl hl.1 rfl (Nat.le_of_ble_eq_true rfl) ⟨Nat.zero_le _, Nat.zero_le _⟩ dX2_sure_4 (fun r4 fRE_4 H locs h hP hD hS => ?_)
  have hP : va_P (dC, dI) vwCl [oR aR aT aP, oT aT aB aWK aRE aY aZ tk, aI aB cI 6 fB, aI aRE cI 61 fRE_4] H := hP.sub [0, 1, 2, 3] rfl
  have hD : va_D A [oR aR aT aP, oT aT aB aWK aRE aY aZ tk, aI aB cI 6 fB, aI aRE cI 61 fRE_4] := hD.sub [0, 1, 2, 3] rfl rfl
  refine lv_if_eq (tgt := 27) hx hb dX2_sure_7 (by decide) (fun q7 => ?_) (fun q7 => ?_)
  · have h := h.1 q7
    refine lv_bipush (v := -9) hx hb dX2_sure_27 (by decide) ?_
    exact ret _ _ H locs ls _ dX2_sure_29 h hP hD hS
  · have h := h.2 q7
    refine lv_iconst (v := 1) hx hb dX2_sure_10 (by decide) ?_
    refine lv_aload_n hx hb dX2_sure_11 rfl (lv_at hl 0 rfl) ?_
    refine va_get (D := (dC, dI)) (ci := 2) (v := .ref aT) (C := RX2) (T := TX2) (N := 2) hx hb hts in_X2 hown hK hP 0 rfl rfl 0 (by decide) k_12 (fun _ h9 => h9) rfl dX2_sure_12 ?_
    refine mVl (wr := [oR aR aT aP]) (As := []) (rest := [.int (1 : Int32)]) ⟨hx, hb, hml, hown, hts⟩ (c_X1_ringLengths (l := l) (dC := dC) (dI := dI) (cI := cI) (cJ := cJ) (cZ := cZ) (aT := aT) (aB := aB) (aWK := aWK) (aRE := aRE) (aY := aY) (aZ := aZ) h) (cwV 0 hts gX2_sure_X1_ringLengths rfl rfl rfl hv_X1_ringLengths ⟨Nat.le_of_ble_eq_true rfl, Nat.le_of_ble_eq_true rfl⟩) hK hP hD hS hA [1, 2, 3] [0] rfl rfl rfl rfl (by decide) 1 rfl rfl rfl rfl hl.1 rfl (Nat.le_of_ble_eq_true rfl) ⟨Nat.zero_le _, Nat.zero_le _⟩ dX2_sure_15 (fun r15 fRE_15 H locs h hP hD hS => ?_)
    have hP : va_P (dC, dI) vwCl [oR aR aT aP, oT aT aB aWK aRE aY aZ tk, aI aB cI 6 fB, aI aRE cI 61 fRE_15] H := hP.sub [0, 1, 2, 3] rfl
    have hD : va_D A [oR aR aT aP, oT aT aB aWK aRE aY aZ tk, aI aB cI 6 fB, aI aRE cI 61 fRE_15] := hD.sub [0, 1, 2, 3] rfl rfl
    refine mSi (wr := [oR aR aT aP, oT aT aB aWK aRE aY aZ tk, aI aB cI 6 fB, aI aRE cI 61 fRE_15]) (As := [.long r15]) (rest := [.int (1 : Int32)]) ⟨hx, hb, hml, hown, hts⟩ (c_X2_endOfGaps (l := l) (dC := dC) (dI := dI) (cI := cI) (cJ := cJ) (cZ := cZ)  h) (va_cwS 1 hts gX2_sure_X2_endOfGaps rfl rfl rfl hv_X2_endOfGaps ⟨Nat.le_of_ble_eq_true rfl, Nat.le_of_ble_eq_true rfl⟩) hK hP hD hS hA [] [0, 1, 2, 3] rfl rfl rfl rfl (by decide) rfl hl.1 rfl (Nat.le_of_ble_eq_true rfl) ⟨Nat.zero_le _, Nat.zero_le _⟩ dX2_sure_18 (fun r18 u18 H locs h hP hD hS => ?_)
    have hP : va_P (dC, dI) vwCl [oR aR aT aP, oT aT aB aWK aRE aY aZ tk, aI aB cI 6 fB, aI aRE cI 61 fRE_15] H := hP.sub [0, 1, 2, 3] rfl
    have hD : va_D A [oR aR aT aP, oT aT aB aWK aRE aY aZ tk, aI aB cI 6 fB, aI aRE cI 61 fRE_15] := hD.sub [0, 1, 2, 3] rfl rfl
    refine va_mmax hx hb (hml.trans hl.1.symm) hown k_96 kw_static_Lib_Math_max_name kw_initialized_java_lang_Math_ kw_code_Lib_Math_max_name_Lib_Math_max_code_2_some_int_ (Nat.le_of_ble_eq_true rfl) (Nat.le_of_ble_eq_true rfl) (Nat.le_of_ble_eq_true rfl) (Nat.le_of_ble_eq_true rfl) dX2_sure_21 ?_
    refine lv_goto (tgt := 29) hx hb dX2_sure_24 (by decide) ?_
    exact ret _ _ H locs ls _ dX2_sure_29 h hP hD hS
set_option maxHeartbeats 4000000 in
set_option maxRecDepth 100000 in
theorem c_X2_sure {l : Launch} {dC : Nat → ClassId} {dI : Nat → Nat → Nat} {cI cJ cZ : ClassId} {aR aT aP aB aWK aRE aY aZ : Nat} {tk : Int32} {fB : (Nat → Int32)} {fRE : (Nat → Int32)}  {post : Int32 → (Nat → Int32) → Prop} (h : wp_X2_sure  tk fB fRE post) : ∀ sz, Met l yX2_sure wsX2_sure rm_X2_sure (mP (dC, dI) (mTy cI cJ cZ) [.ref aR] [oR aR aT aP, oT aT aB aWK aRE aY aZ tk, aI aB cI 6 fB, aI aRE cI 61 fRE] sz) (va_Qi (fun (r : Int32) (u : (Nat → Int32)) => post r u) (mB (dC, dI) (va_A [oR aR aT aP, oT aT aB aWK aRE aY aZ tk, aI aB cI 6 fB, aI aRE cI 61 fRE] sz) (fun u => [oR aR aT aP, oT aT aB aWK aRE aY aZ tk, aI aB cI 6 fB, aI aRE cI 61 u])) (va_A [oR aR aT aP, oT aT aB aWK aRE aY aZ tk, aI aB cI 6 fB, aI aRE cI 61 fRE] sz)) 0 0 (va_A [oR aR aT aP, oT aT aB aWK aRE aY aZ tk, aI aB cI 6 fB, aI aRE cI 61 fRE] sz) := by
  intro sz
  refine Met.ofW (cc := cX2_sure) (maxL := 1) (ret := (some .int)) (by decide) rfl ?_
  intro p e s m args below meth c s₁ B hml hv
  obtain ⟨rfl, hsz, hP, hK, hD0⟩ := hv
  have hlocks := B.notSynchronized
  subst hsz
  have hD := hD0.self (sz := s.heap.size)
  have hl := lv_entry ([.ref aR]) (n := 1) (Nat.le_of_ble_eq_true rfl)
  rw [lg_entry_eq]
  exact k_X2_sure B.exec B.bytes hml (findClass_of_methodNamed B.named) (atoms_spec (ws := wsX2_sure) B.pre) hK (fun q hq => Or.inr hq) (fun r fRE' H locs ls pc hd hp hP hD hS => W.iret B.exec B.bytes B.returns (fun t ht hW => ⟨⟨r, fRE', rfl, hp, by rw [ht]; exact hP, hD⟩, hS.F ht⟩) hS.2.2 hd) h s.heap [] _ hP hD va_S.rf hl

def wp_X2_free (x1 : Int32) (tk : Int32) (fB : (Nat → Int32)) (fRE : (Nat → Int32)) (post : Int32 → (Nat → Int32) → Prop) : Prop := wp_X1_has x1 tk (fun (r5 : Int32) => ((¬ r5 = (0 : Int32) → wp_X1_paceOf x1 tk fB fRE (fun (r18 : Int32) (fRE_18 : (Nat → Int32)) => ((¬ r18 = (1 : Int32) → post (-9 : Int32) fRE_18) ∧ (r18 = (1 : Int32) → wp_X1_returnLengths x1 tk fB fRE_18 (fun (r30 : Int64) (fRE_30 : (Nat → Int32)) => wp_X2_endOfGaps r30 (fun (r33 : Int32) => post r33 fRE_30)))))) ∧ (r5 = (0 : Int32) → post (-1 : Int32) fRE)))
abbrev rm_X2_free : Room := { frames := 3, cells := 0, slots := 0, locals := 73 }
theorem hv_X2_free : yX2_free.cls = RX2 ∧ yX2_free.cls ≠ "java/lang/invoke/MethodHandle" ∧ yX2_free.cls ≠ "java/lang/invoke/VarHandle" ∧ (parseMethodDescriptor yX2_free.desc).map (fun d => d.parameters.length) = some 1 := by decide +kernel
set_option maxHeartbeats 4000000 in
set_option maxRecDepth 100000 in
theorem k_X2_free {p : Program} {l : Launch} {e : Env} {s : State} {m : MethodId} {args : Array Value} {below : List Frame} {meth : Method} {c : Code} {Q : State → Prop} {A : Nat → Prop} {dC : Nat → ClassId} {dI : Nat → Nat → Nat} {cI cJ cZ : ClassId} (hx : p.tables.exec = Jvm.exec) (hb : c.code = cX2_free) (hml : c.maxLocals = 2) (hown : s.vm.findClass RX2 = some m.cls) (hts : ∀ w ∈ wsX2_free, w.before args s = true) (hK : va_K (dC, dI) vwCl (mTy cI cJ cZ) s) (hA : ∀ q, s.heap.size ≤ q → A q) {aR aT aP aB aWK aRE aY aZ : Nat} {tk : Int32} {fB : (Nat → Int32)} {fRE : (Nat → Int32)} {x1 : Int32} {post : Int32 → (Nat → Int32) → Prop} (ret : ∀ (r : Int32) (fRE' : (Nat → Int32)) (H : Heap) (locs : List Loc) (ls : Array Slot) (pc : Nat), decode cX2_free pc = .ok (.ireturn, 1) → post r fRE' → va_P (dC, dI) vwCl [oR aR aT aP, oT aT aB aWK aRE aY aZ tk, aI aB cI 6 fB, aI aRE cI 61 fRE'] H → va_D A [oR aR aT aP, oT aT aB aWK aRE aY aZ tk, aI aB cI 6 fB, aI aRE cI 61 fRE'] → va_S A s.heap H locs → W p l e rm_X2_free s m args below meth c H locs 0 0 Q (F0 m pc ls [.int r])) (h : wp_X2_free x1 tk fB fRE post) : mW p l e rm_X2_free s m args below meth c 0 0 Q A (dC, dI) 2 [oR aR aT aP, oT aT aB aWK aRE aY aZ tk, aI aB cI 6 fB, aI aRE cI 61 fRE] [(0, .ref aR), (1, .int x1)] 0 [] := by
  have in_X2 : ∀ w ∈ wsX20, w ∈ wsX2_free := fun w hw => List.mem_cons_of_mem _ (List.mem_append_left _ (List.mem_append_right _ hw))
  have k_12 := hts (.fieldLink RX2 12 "RingTasks" "task" "LRingTasks$Task;") (List.mem_of_getElem? (i := 1) rfl)
  unfold wp_X2_free at h
  intro H locs ls hP hD hS hl
  refine lv_aload_n hx hb dX2_free_0 rfl (lv_at hl 0 rfl) ?_
  refine va_get (D := (dC, dI)) (ci := 2) (v := .ref aT) (C := RX2) (T := TX2) (N := 2) hx hb hts in_X2 hown hK hP 0 rfl rfl 0 (by decide) k_12 (fun _ h9 => h9) rfl dX2_free_1 ?_
  refine lv_iload_n hx hb dX2_free_4 rfl (lv_at hl 1 rfl) ?_
  refine mVi (wr := [oR aR aT aP, aI aB cI 6 fB, aI aRE cI 61 fRE]) (As := [.int x1]) (rest := []) ⟨hx, hb, hml, hown, hts⟩ (c_X1_has (l := l) (dC := dC) (dI := dI) (cI := cI) (cJ := cJ) (cZ := cZ) (aT := aT) (aB := aB) (aWK := aWK) (aRE := aRE) (aY := aY) (aZ := aZ) h) (cwV 1 hts gX2_free_X1_has rfl rfl rfl hv_X1_has ⟨Nat.le_of_ble_eq_true rfl, Nat.le_of_ble_eq_true rfl⟩) hK hP hD hS hA [1] [0, 2, 3] rfl rfl rfl rfl (by decide) 1 rfl rfl rfl rfl hl.1 rfl (Nat.le_of_ble_eq_true rfl) ⟨Nat.zero_le _, Nat.zero_le _⟩ dX2_free_5 (fun r5 u5 H locs h hP hD hS => ?_)
  have hP : va_P (dC, dI) vwCl [oR aR aT aP, oT aT aB aWK aRE aY aZ tk, aI aB cI 6 fB, aI aRE cI 61 fRE] H := hP.sub [0, 3, 1, 2] rfl
  have hD : va_D A [oR aR aT aP, oT aT aB aWK aRE aY aZ tk, aI aB cI 6 fB, aI aRE cI 61 fRE] := hD.sub [0, 3, 1, 2] rfl rfl
  refine lv_if_ne (tgt := 13) hx hb dX2_free_8 (by decide) (fun q8 => ?_) (fun q8 => ?_)
  · have h := h.1 q8
    refine lv_aload_n hx hb dX2_free_13 rfl (lv_at hl 0 rfl) ?_
    refine va_get (D := (dC, dI)) (ci := 2) (v := .ref aT) (C := RX2) (T := TX2) (N := 2) hx hb hts in_X2 hown hK hP 0 rfl rfl 0 (by decide) k_12 (fun _ h9 => h9) rfl dX2_free_14 ?_
    refine lv_iload_n hx hb dX2_free_17 rfl (lv_at hl 1 rfl) ?_
    refine mVi (wr := [oR aR aT aP]) (As := [.int x1]) (rest := []) ⟨hx, hb, hml, hown, hts⟩ (c_X1_paceOf (l := l) (dC := dC) (dI := dI) (cI := cI) (cJ := cJ) (cZ := cZ) (aT := aT) (aB := aB) (aWK := aWK) (aRE := aRE) (aY := aY) (aZ := aZ) h) (cwV 1 hts gX2_free_X1_paceOf rfl rfl rfl hv_X1_paceOf ⟨Nat.le_of_ble_eq_true rfl, Nat.le_of_ble_eq_true rfl⟩) hK hP hD hS hA [1, 2, 3] [0] rfl rfl rfl rfl (by decide) 1 rfl rfl rfl rfl hl.1 rfl (Nat.le_of_ble_eq_true rfl) ⟨Nat.zero_le _, Nat.zero_le _⟩ dX2_free_18 (fun r18 fRE_18 H locs h hP hD hS => ?_)
    have hP : va_P (dC, dI) vwCl [oR aR aT aP, oT aT aB aWK aRE aY aZ tk, aI aB cI 6 fB, aI aRE cI 61 fRE_18] H := hP.sub [0, 1, 2, 3] rfl
    have hD : va_D A [oR aR aT aP, oT aT aB aWK aRE aY aZ tk, aI aB cI 6 fB, aI aRE cI 61 fRE_18] := hD.sub [0, 1, 2, 3] rfl rfl
    refine lv_iconst (v := 1) hx hb dX2_free_21 (by decide) ?_
    refine lv_icmp_ne (tgt := 39) hx hb dX2_free_22 (by decide) (fun q22 => ?_) (fun q22 => ?_)
    · have h := h.1 q22
      refine lv_bipush (v := -9) hx hb dX2_free_39 (by decide) ?_
      exact ret _ _ H locs ls _ dX2_free_41 h hP hD hS
    · have h := h.2 q22
      refine lv_aload_n hx hb dX2_free_25 rfl (lv_at hl 0 rfl) ?_
      refine va_get (D := (dC, dI)) (ci := 2) (v := .ref aT) (C := RX2) (T := TX2) (N := 2) hx hb hts in_X2 hown hK hP 0 rfl rfl 0 (by decide) k_12 (fun _ h9 => h9) rfl dX2_free_26 ?_
      refine lv_iload_n hx hb dX2_free_29 rfl (lv_at hl 1 rfl) ?_
      refine mVl (wr := [oR aR aT aP]) (As := [.int x1]) (rest := []) ⟨hx, hb, hml, hown, hts⟩ (c_X1_returnLengths (l := l) (dC := dC) (dI := dI) (cI := cI) (cJ := cJ) (cZ := cZ) (aT := aT) (aB := aB) (aWK := aWK) (aRE := aRE) (aY := aY) (aZ := aZ) h) (cwV 1 hts gX2_free_X1_returnLengths rfl rfl rfl hv_X1_returnLengths ⟨Nat.le_of_ble_eq_true rfl, Nat.le_of_ble_eq_true rfl⟩) hK hP hD hS hA [1, 2, 3] [0] rfl rfl rfl rfl (by decide) 1 rfl rfl rfl rfl hl.1 rfl (Nat.le_of_ble_eq_true rfl) ⟨Nat.zero_le _, Nat.zero_le _⟩ dX2_free_30 (fun r30 fRE_30 H locs h hP hD hS => ?_)
      have hP : va_P (dC, dI) vwCl [oR aR aT aP, oT aT aB aWK aRE aY aZ tk, aI aB cI 6 fB, aI aRE cI 61 fRE_30] H := hP.sub [0, 1, 2, 3] rfl
      have hD : va_D A [oR aR aT aP, oT aT aB aWK aRE aY aZ tk, aI aB cI 6 fB, aI aRE cI 61 fRE_30] := hD.sub [0, 1, 2, 3] rfl rfl
      refine mSi (wr := [oR aR aT aP, oT aT aB aWK aRE aY aZ tk, aI aB cI 6 fB, aI aRE cI 61 fRE_30]) (As := [.long r30]) (rest := []) ⟨hx, hb, hml, hown, hts⟩ (c_X2_endOfGaps (l := l) (dC := dC) (dI := dI) (cI := cI) (cJ := cJ) (cZ := cZ)  h) (va_cwS 1 hts gX2_free_X2_endOfGaps rfl rfl rfl hv_X2_endOfGaps ⟨Nat.le_of_ble_eq_true rfl, Nat.le_of_ble_eq_true rfl⟩) hK hP hD hS hA [] [0, 1, 2, 3] rfl rfl rfl rfl (by decide) rfl hl.1 rfl (Nat.le_of_ble_eq_true rfl) ⟨Nat.zero_le _, Nat.zero_le _⟩ dX2_free_33 (fun r33 u33 H locs h hP hD hS => ?_)
      have hP : va_P (dC, dI) vwCl [oR aR aT aP, oT aT aB aWK aRE aY aZ tk, aI aB cI 6 fB, aI aRE cI 61 fRE_30] H := hP.sub [0, 1, 2, 3] rfl
      have hD : va_D A [oR aR aT aP, oT aT aB aWK aRE aY aZ tk, aI aB cI 6 fB, aI aRE cI 61 fRE_30] := hD.sub [0, 1, 2, 3] rfl rfl
      refine lv_goto (tgt := 41) hx hb dX2_free_36 (by decide) ?_
      exact ret _ _ H locs ls _ dX2_free_41 h hP hD hS
  · have h := h.2 q8
    refine lv_iconst (v := -1) hx hb dX2_free_11 (by decide) ?_
    exact ret _ _ H locs ls _ dX2_free_12 h hP hD hS
set_option maxHeartbeats 4000000 in
set_option maxRecDepth 100000 in
theorem c_X2_free {l : Launch} {dC : Nat → ClassId} {dI : Nat → Nat → Nat} {cI cJ cZ : ClassId} {aR aT aP aB aWK aRE aY aZ : Nat} {tk : Int32} {fB : (Nat → Int32)} {fRE : (Nat → Int32)} {x1 : Int32} {post : Int32 → (Nat → Int32) → Prop} (h : wp_X2_free x1 tk fB fRE post) : ∀ sz, Met l yX2_free wsX2_free rm_X2_free (mP (dC, dI) (mTy cI cJ cZ) [.ref aR, .int x1] [oR aR aT aP, oT aT aB aWK aRE aY aZ tk, aI aB cI 6 fB, aI aRE cI 61 fRE] sz) (va_Qi (fun (r : Int32) (u : (Nat → Int32)) => post r u) (mB (dC, dI) (va_A [oR aR aT aP, oT aT aB aWK aRE aY aZ tk, aI aB cI 6 fB, aI aRE cI 61 fRE] sz) (fun u => [oR aR aT aP, oT aT aB aWK aRE aY aZ tk, aI aB cI 6 fB, aI aRE cI 61 u])) (va_A [oR aR aT aP, oT aT aB aWK aRE aY aZ tk, aI aB cI 6 fB, aI aRE cI 61 fRE] sz)) 0 0 (va_A [oR aR aT aP, oT aT aB aWK aRE aY aZ tk, aI aB cI 6 fB, aI aRE cI 61 fRE] sz) := by
  intro sz
  refine Met.ofW (cc := cX2_free) (maxL := 2) (ret := (some .int)) (by decide) rfl ?_
  intro p e s m args below meth c s₁ B hml hv
  obtain ⟨rfl, hsz, hP, hK, hD0⟩ := hv
  have hlocks := B.notSynchronized
  subst hsz
  have hD := hD0.self (sz := s.heap.size)
  have hl := lv_entry ([.ref aR, .int x1]) (n := 2) (Nat.le_of_ble_eq_true rfl)
  rw [lg_entry_eq]
  exact k_X2_free B.exec B.bytes hml (findClass_of_methodNamed B.named) (atoms_spec (ws := wsX2_free) B.pre) hK (fun q hq => Or.inr hq) (fun r fRE' H locs ls pc hd hp hP hD hS => W.iret B.exec B.bytes B.returns (fun t ht hW => ⟨⟨r, fRE', rfl, hp, by rw [ht]; exact hP, hD⟩, hS.F ht⟩) hS.2.2 hd) h s.heap [] _ hP hD va_S.rf hl

def wp_X2_mirrors  (tk : Int32) (fB : (Nat → Int32)) (post : Int32 → Prop) : Prop := wp_X1_isMirrored tk fB (fun (r4 : Int32) => wp_X2_asNumber r4 (fun (r7 : Int32) => post r7))
abbrev rm_X2_mirrors : Room := { frames := 4, cells := 0, slots := 0, locals := 92 }
theorem hv_X2_mirrors : yX2_mirrors.cls = RX2 ∧ yX2_mirrors.cls ≠ "java/lang/invoke/MethodHandle" ∧ yX2_mirrors.cls ≠ "java/lang/invoke/VarHandle" ∧ (parseMethodDescriptor yX2_mirrors.desc).map (fun d => d.parameters.length) = some 0 := by decide +kernel
set_option maxHeartbeats 4000000 in
set_option maxRecDepth 100000 in
theorem k_X2_mirrors {p : Program} {l : Launch} {e : Env} {s : State} {m : MethodId} {args : Array Value} {below : List Frame} {meth : Method} {c : Code} {Q : State → Prop} {A : Nat → Prop} {dC : Nat → ClassId} {dI : Nat → Nat → Nat} {cI cJ cZ : ClassId} (hx : p.tables.exec = Jvm.exec) (hb : c.code = cX2_mirrors) (hml : c.maxLocals = 1) (hown : s.vm.findClass RX2 = some m.cls) (hts : ∀ w ∈ wsX2_mirrors, w.before args s = true) (hK : va_K (dC, dI) vwCl (mTy cI cJ cZ) s) (hA : ∀ q, s.heap.size ≤ q → A q) {aR aT aP aB aWK aRE aY aZ : Nat} {tk : Int32} {fB : (Nat → Int32)}  {post : Int32 → Prop} (ret : ∀ (r : Int32) (H : Heap) (locs : List Loc) (ls : Array Slot) (pc : Nat), decode cX2_mirrors pc = .ok (.ireturn, 1) → post r → va_P (dC, dI) vwCl [oR aR aT aP, oT aT aB aWK aRE aY aZ tk, aI aB cI 6 fB] H → va_D A [oR aR aT aP, oT aT aB aWK aRE aY aZ tk, aI aB cI 6 fB] → va_S A s.heap H locs → W p l e rm_X2_mirrors s m args below meth c H locs 0 0 Q (F0 m pc ls [.int r])) (h : wp_X2_mirrors  tk fB post) : mW p l e rm_X2_mirrors s m args below meth c 0 0 Q A (dC, dI) 1 [oR aR aT aP, oT aT aB aWK aRE aY aZ tk, aI aB cI 6 fB] [(0, .ref aR)] 0 [] := by
  have in_X2 : ∀ w ∈ wsX20, w ∈ wsX2_mirrors := fun w hw => List.mem_cons_of_mem _ (List.mem_append_left _ (List.mem_append_right _ hw))
  have k_12 := hts (.fieldLink RX2 12 "RingTasks" "task" "LRingTasks$Task;") (List.mem_of_getElem? (i := 1) rfl)
  unfold wp_X2_mirrors at h
  intro H locs ls hP hD hS hl
  refine lv_aload_n hx hb dX2_mirrors_0 rfl (lv_at hl 0 rfl) ?_
  refine va_get (D := (dC, dI)) (ci := 2) (v := .ref aT) (C := RX2) (T := TX2) (N := 2) hx hb hts in_X2 hown hK hP 0 rfl rfl 0 (by decide) k_12 (fun _ h9 => h9) rfl dX2_mirrors_1 ?_
  refine mVi (wr := [oR aR aT aP]) (As := []) (rest := []) ⟨hx, hb, hml, hown, hts⟩ (c_X1_isMirrored (l := l) (dC := dC) (dI := dI) (cI := cI) (cJ := cJ) (cZ := cZ) (aT := aT) (aB := aB) (aWK := aWK) (aRE := aRE) (aY := aY) (aZ := aZ) h) (cwV 0 hts gX2_mirrors_X1_isMirrored rfl rfl rfl hv_X1_isMirrored ⟨Nat.le_of_ble_eq_true rfl, Nat.le_of_ble_eq_true rfl⟩) hK hP hD hS hA [1, 2] [0] rfl rfl rfl rfl (by decide) 1 rfl rfl rfl rfl hl.1 rfl (Nat.le_of_ble_eq_true rfl) ⟨Nat.zero_le _, Nat.zero_le _⟩ dX2_mirrors_4 (fun r4 u4 H locs h hP hD hS => ?_)
  have hP : va_P (dC, dI) vwCl [oR aR aT aP, oT aT aB aWK aRE aY aZ tk, aI aB cI 6 fB] H := hP.sub [0, 1, 2] rfl
  have hD : va_D A [oR aR aT aP, oT aT aB aWK aRE aY aZ tk, aI aB cI 6 fB] := hD.sub [0, 1, 2] rfl rfl
  refine mSi (wr := [oR aR aT aP, oT aT aB aWK aRE aY aZ tk, aI aB cI 6 fB]) (As := [.int r4]) (rest := []) ⟨hx, hb, hml, hown, hts⟩ (c_X2_asNumber (l := l) (dC := dC) (dI := dI) (cI := cI) (cJ := cJ) (cZ := cZ)  h) (va_cwS 1 hts gX2_mirrors_X2_asNumber rfl rfl rfl hv_X2_asNumber ⟨Nat.le_of_ble_eq_true rfl, Nat.le_of_ble_eq_true rfl⟩) hK hP hD hS hA [] [0, 1, 2] rfl rfl rfl rfl (by decide) rfl hl.1 rfl (Nat.le_of_ble_eq_true rfl) ⟨Nat.zero_le _, Nat.zero_le _⟩ dX2_mirrors_7 (fun r7 u7 H locs h hP hD hS => ?_)
  have hP : va_P (dC, dI) vwCl [oR aR aT aP, oT aT aB aWK aRE aY aZ tk, aI aB cI 6 fB] H := hP.sub [0, 1, 2] rfl
  have hD : va_D A [oR aR aT aP, oT aT aB aWK aRE aY aZ tk, aI aB cI 6 fB] := hD.sub [0, 1, 2] rfl rfl
  exact ret _  H locs ls _ dX2_mirrors_10 h hP hD hS
set_option maxHeartbeats 4000000 in
set_option maxRecDepth 100000 in
theorem c_X2_mirrors {l : Launch} {dC : Nat → ClassId} {dI : Nat → Nat → Nat} {cI cJ cZ : ClassId} {aR aT aP aB aWK aRE aY aZ : Nat} {tk : Int32} {fB : (Nat → Int32)}  {post : Int32 → Prop} (h : wp_X2_mirrors  tk fB post) : ∀ sz, Met l yX2_mirrors wsX2_mirrors rm_X2_mirrors (mP (dC, dI) (mTy cI cJ cZ) [.ref aR] [oR aR aT aP, oT aT aB aWK aRE aY aZ tk, aI aB cI 6 fB] sz) (va_Qi (fun (r : Int32) (u : Unit) => post r ) (mB (dC, dI) (va_A [oR aR aT aP, oT aT aB aWK aRE aY aZ tk, aI aB cI 6 fB] sz) (fun u => [oR aR aT aP, oT aT aB aWK aRE aY aZ tk, aI aB cI 6 fB])) (va_A [oR aR aT aP, oT aT aB aWK aRE aY aZ tk, aI aB cI 6 fB] sz)) 0 0 (va_A [oR aR aT aP, oT aT aB aWK aRE aY aZ tk, aI aB cI 6 fB] sz) := by
  intro sz
  refine Met.ofW (cc := cX2_mirrors) (maxL := 1) (ret := (some .int)) (by decide) rfl ?_
  intro p e s m args below meth c s₁ B hml hv
  obtain ⟨rfl, hsz, hP, hK, hD0⟩ := hv
  have hlocks := B.notSynchronized
  subst hsz
  have hD := hD0.self (sz := s.heap.size)
  have hl := lv_entry ([.ref aR]) (n := 1) (Nat.le_of_ble_eq_true rfl)
  rw [lg_entry_eq]
  exact k_X2_mirrors B.exec B.bytes hml (findClass_of_methodNamed B.named) (atoms_spec (ws := wsX2_mirrors) B.pre) hK (fun q hq => Or.inr hq) (fun r H locs ls pc hd hp hP hD hS => W.iret B.exec B.bytes B.returns (fun t ht hW => ⟨⟨r, (), rfl, hp, by rw [ht]; exact hP, hD⟩, hS.F ht⟩) hS.2.2 hd) h s.heap [] _ hP hD va_S.rf hl

def wp_X2_ring (x1 : Int32) (pk : Int32) (fL : (Nat → Int32)) (fN : (Nat → Int32)) (post : Int32 → Int32 → (Nat → Int32) → (Nat → Int32) → Prop) : Prop := ((x1 < (3 : Int32) → post (-2 : Int32) pk fL fN) ∧ (¬ x1 < (3 : Int32) → ((x1 ≤ (60 : Int32) → wp_X0_restart x1 pk fL fN (fun (pk_27 : Int32) (fL_27 : (Nat → Int32)) (fN_27 : (Nat → Int32)) => post pk pk_27 fL_27 fN_27)) ∧ (¬ x1 ≤ (60 : Int32) → post (-2 : Int32) pk fL fN))))
abbrev rm_X2_ring : Room := { frames := 3, cells := 0, slots := 0, locals := 65 }
theorem hv_X2_ring : yX2_ring.cls = RX2 ∧ yX2_ring.cls ≠ "java/lang/invoke/MethodHandle" ∧ yX2_ring.cls ≠ "java/lang/invoke/VarHandle" ∧ (parseMethodDescriptor yX2_ring.desc).map (fun d => d.parameters.length) = some 1 := by decide +kernel
set_option maxHeartbeats 4000000 in
set_option maxRecDepth 100000 in
theorem k_X2_ring {p : Program} {l : Launch} {e : Env} {s : State} {m : MethodId} {args : Array Value} {below : List Frame} {meth : Method} {c : Code} {Q : State → Prop} {A : Nat → Prop} {dC : Nat → ClassId} {dI : Nat → Nat → Nat} {cI cJ cZ : ClassId} (hx : p.tables.exec = Jvm.exec) (hb : c.code = cX2_ring) (hml : c.maxLocals = 3) (hown : s.vm.findClass RX2 = some m.cls) (hts : ∀ w ∈ wsX2_ring, w.before args s = true) (hK : va_K (dC, dI) vwCl (mTy cI cJ cZ) s) (hA : ∀ q, s.heap.size ≤ q → A q) {aR aT aP aL aN : Nat} {pk : Int32} {fL : (Nat → Int32)} {fN : (Nat → Int32)} {x1 : Int32} {post : Int32 → Int32 → (Nat → Int32) → (Nat → Int32) → Prop} (ret : ∀ (r : Int32) (pk' : Int32) (fL' : (Nat → Int32)) (fN' : (Nat → Int32)) (H : Heap) (locs : List Loc) (ls : Array Slot) (pc : Nat), decode cX2_ring pc = .ok (.ireturn, 1) → post r pk' fL' fN' → va_P (dC, dI) vwCl [oR aR aT aP, oP aP aL aN pk', aI aL cI 60 fL', aI aN cI 60 fN'] H → va_D A [oR aR aT aP, oP aP aL aN pk', aI aL cI 60 fL', aI aN cI 60 fN'] → va_S A s.heap H locs → W p l e rm_X2_ring s m args below meth c H locs 0 0 Q (F0 m pc ls [.int r])) (h : wp_X2_ring x1 pk fL fN post) : mW p l e rm_X2_ring s m args below meth c 0 0 Q A (dC, dI) 3 [oR aR aT aP, oP aP aL aN pk, aI aL cI 60 fL, aI aN cI 60 fN] [(0, .ref aR), (1, .int x1)] 0 [] := by
  have in_X0 : ∀ w ∈ wsX00, w ∈ wsX2_ring := fun w hw => List.mem_cons_of_mem _ (List.mem_append_right _ hw)
  have in_X2 : ∀ w ∈ wsX20, w ∈ wsX2_ring := fun w hw => List.mem_cons_of_mem _ (List.mem_append_left _ (List.mem_append_right _ hw))
  have k_108 := hts (.fieldLink RX2 108 "RingTasks$Posts" "size" "I") (List.mem_of_getElem? (i := 2) rfl)
  have k_21 := hts (.fieldLink RX2 21 "RingTasks" "posts" "LRingTasks$Posts;") (List.mem_of_getElem? (i := 1) rfl)
  unfold wp_X2_ring at h
  intro H locs ls hP hD hS hl
  refine lv_iload_n hx hb dX2_ring_0 rfl (lv_at hl 1 rfl) ?_
  refine lv_iconst (v := 3) hx hb dX2_ring_1 (by decide) ?_
  refine lv_icmp_lt (tgt := 11) hx hb dX2_ring_2 (by decide) (fun q2 => ?_) (fun q2 => ?_)
  · have h := h.1 q2
    refine lv_bipush (v := -2) hx hb dX2_ring_11 (by decide) ?_
    exact ret _ _ _ _ H locs ls _ dX2_ring_13 h hP hD hS
  · have h := h.2 q2
    refine lv_iload_n hx hb dX2_ring_5 rfl (lv_at hl 1 rfl) ?_
    refine lv_bipush (v := 60) hx hb dX2_ring_6 (by decide) ?_
    refine lv_icmp_le (tgt := 14) hx hb dX2_ring_8 (by decide) (fun q8 => ?_) (fun q8 => ?_)
    · have h := h.1 q8
      refine lv_aload_n hx hb dX2_ring_14 rfl (lv_at hl 0 rfl) ?_
      refine va_get (D := (dC, dI)) (ci := 2) (v := .ref aP) (C := RX2) (T := TX2) (N := 2) hx hb hts in_X2 hown hK hP 0 rfl rfl 1 (by decide) k_21 (fun _ h9 => h9) rfl dX2_ring_15 ?_
      refine va_get (D := (dC, dI)) (ci := 0) (v := .int pk) (C := RX0) (T := TX0) (N := 3) hx hb hts in_X0 hown hK hP 1 rfl rfl 0 (by decide) k_108 (fun _ h9 => h9) rfl dX2_ring_18 ?_
      refine lv_istore_n (lv' := [(2, .int pk), (0, .ref aR), (1, .int x1)]) hx hb dX2_ring_21 rfl hl (by decide) rfl (fun ls hl => ?_)
      refine lv_aload_n hx hb dX2_ring_22 rfl (lv_at hl 1 rfl) ?_
      refine va_get (D := (dC, dI)) (ci := 2) (v := .ref aP) (C := RX2) (T := TX2) (N := 2) hx hb hts in_X2 hown hK hP 0 rfl rfl 1 (by decide) k_21 (fun _ h9 => h9) rfl dX2_ring_23 ?_
      refine lv_iload_n hx hb dX2_ring_26 rfl (lv_at hl 2 rfl) ?_
      refine mVv (wr := [oR aR aT aP]) (As := [.int x1]) (rest := []) ⟨hx, hb, hml, hown, hts⟩ (c_X0_restart (l := l) (dC := dC) (dI := dI) (cI := cI) (cJ := cJ) (cZ := cZ) (aP := aP) (aL := aL) (aN := aN) h) (cwV 1 hts gX2_ring_X0_restart rfl rfl rfl hv_X0_restart ⟨Nat.le_of_ble_eq_true rfl, Nat.le_of_ble_eq_true rfl⟩) hK hP hD hS hA [1, 2, 3] [0] rfl rfl rfl rfl (by decide) 0 rfl rfl rfl rfl hl.1 rfl (Nat.le_of_ble_eq_true rfl) ⟨Nat.zero_le _, Nat.zero_le _⟩ dX2_ring_27 (fun u27 H locs h hP hD hS => ?_)
      obtain ⟨pk_27, fL_27, fN_27⟩ := u27
      have hP : va_P (dC, dI) vwCl [oR aR aT aP, oP aP aL aN pk_27, aI aL cI 60 fL_27, aI aN cI 60 fN_27] H := hP.sub [0, 1, 2, 3] rfl
      have hD : va_D A [oR aR aT aP, oP aP aL aN pk_27, aI aL cI 60 fL_27, aI aN cI 60 fN_27] := hD.sub [0, 1, 2, 3] rfl rfl
      refine lv_iload_n hx hb dX2_ring_30 rfl (lv_at hl 0 rfl) ?_
      exact ret _ _ _ _ H locs ls _ dX2_ring_31 h hP hD hS
    · have h := h.2 q8
      refine lv_bipush (v := -2) hx hb dX2_ring_11 (by decide) ?_
      exact ret _ _ _ _ H locs ls _ dX2_ring_13 h hP hD hS
set_option maxHeartbeats 4000000 in
set_option maxRecDepth 100000 in
theorem c_X2_ring {l : Launch} {dC : Nat → ClassId} {dI : Nat → Nat → Nat} {cI cJ cZ : ClassId} {aR aT aP aL aN : Nat} {pk : Int32} {fL : (Nat → Int32)} {fN : (Nat → Int32)} {x1 : Int32} {post : Int32 → Int32 → (Nat → Int32) → (Nat → Int32) → Prop} (h : wp_X2_ring x1 pk fL fN post) : ∀ sz, Met l yX2_ring wsX2_ring rm_X2_ring (mP (dC, dI) (mTy cI cJ cZ) [.ref aR, .int x1] [oR aR aT aP, oP aP aL aN pk, aI aL cI 60 fL, aI aN cI 60 fN] sz) (va_Qi (fun (r : Int32) (u : Int32 × (Nat → Int32) × (Nat → Int32)) => post r (u.1) (u.2.1) (u.2.2)) (mB (dC, dI) (va_A [oR aR aT aP, oP aP aL aN pk, aI aL cI 60 fL, aI aN cI 60 fN] sz) (fun u => [oR aR aT aP, oP aP aL aN (u.1), aI aL cI 60 (u.2.1), aI aN cI 60 (u.2.2)])) (va_A [oR aR aT aP, oP aP aL aN pk, aI aL cI 60 fL, aI aN cI 60 fN] sz)) 0 0 (va_A [oR aR aT aP, oP aP aL aN pk, aI aL cI 60 fL, aI aN cI 60 fN] sz) := by
  intro sz
  refine Met.ofW (cc := cX2_ring) (maxL := 3) (ret := (some .int)) (by decide) rfl ?_
  intro p e s m args below meth c s₁ B hml hv
  obtain ⟨rfl, hsz, hP, hK, hD0⟩ := hv
  have hlocks := B.notSynchronized
  subst hsz
  have hD := hD0.self (sz := s.heap.size)
  have hl := lv_entry ([.ref aR, .int x1]) (n := 3) (Nat.le_of_ble_eq_true rfl)
  rw [lg_entry_eq]
  exact k_X2_ring B.exec B.bytes hml (findClass_of_methodNamed B.named) (atoms_spec (ws := wsX2_ring) B.pre) hK (fun q hq => Or.inr hq) (fun r pk' fL' fN' H locs ls pc hd hp hP hD hS => W.iret B.exec B.bytes B.returns (fun t ht hW => ⟨⟨r, (pk', fL', fN'), rfl, hp, by rw [ht]; exact hP, hD⟩, hS.F ht⟩) hS.2.2 hd) h s.heap [] _ hP hD va_S.rf hl

def wp_X2_put (x1 : Int32) (x2 : Int32) (pk : Int32) (fL : (Nat → Int32)) (tk : Int32) (post : Int32 → (Nat → Int32) → Prop) : Prop := wp_X0_has x1 pk (fun (r5 : Int32) => ((r5 = (0 : Int32) → post (-1 : Int32) fL) ∧ (¬ r5 = (0 : Int32) → wp_X1_has x2 tk (fun (r16 : Int32) => ((¬ r16 = (0 : Int32) → (vp_in x1 60 ∧ (∀ v33 : Int32, v33 = (fL x1.toNatClampNeg) → (vp_in x1 60 ∧ (∀ fL_43 : (Nat → Int32), fL_43 = upd fL x1.toNatClampNeg x2 → post v33 fL_43))))) ∧ (r16 = (0 : Int32) → post (-1 : Int32) fL))))))
abbrev rm_X2_put : Room := { frames := 1, cells := 0, slots := 0, locals := 21 }
theorem hv_X2_put : yX2_put.cls = RX2 ∧ yX2_put.cls ≠ "java/lang/invoke/MethodHandle" ∧ yX2_put.cls ≠ "java/lang/invoke/VarHandle" ∧ (parseMethodDescriptor yX2_put.desc).map (fun d => d.parameters.length) = some 2 := by decide +kernel
set_option maxHeartbeats 4000000 in
set_option maxRecDepth 100000 in
theorem k_X2_put {p : Program} {l : Launch} {e : Env} {s : State} {m : MethodId} {args : Array Value} {below : List Frame} {meth : Method} {c : Code} {Q : State → Prop} {A : Nat → Prop} {dC : Nat → ClassId} {dI : Nat → Nat → Nat} {cI cJ cZ : ClassId} (hx : p.tables.exec = Jvm.exec) (hb : c.code = cX2_put) (hml : c.maxLocals = 4) (hown : s.vm.findClass RX2 = some m.cls) (hts : ∀ w ∈ wsX2_put, w.before args s = true) (hK : va_K (dC, dI) vwCl (mTy cI cJ cZ) s) (hA : ∀ q, s.heap.size ≤ q → A q) {aR aT aP aL aN aB aWK aRE aY aZ : Nat} {pk : Int32} {fL : (Nat → Int32)} {tk : Int32} {x1 : Int32} {x2 : Int32} {post : Int32 → (Nat → Int32) → Prop} (ret : ∀ (r : Int32) (fL' : (Nat → Int32)) (H : Heap) (locs : List Loc) (ls : Array Slot) (pc : Nat), decode cX2_put pc = .ok (.ireturn, 1) → post r fL' → va_P (dC, dI) vwCl [oR aR aT aP, oP aP aL aN pk, aI aL cI 60 fL', oT aT aB aWK aRE aY aZ tk] H → va_D A [oR aR aT aP, oP aP aL aN pk, aI aL cI 60 fL', oT aT aB aWK aRE aY aZ tk] → va_S A s.heap H locs → W p l e rm_X2_put s m args below meth c H locs 0 0 Q (F0 m pc ls [.int r])) (h : wp_X2_put x1 x2 pk fL tk post) : mW p l e rm_X2_put s m args below meth c 0 0 Q A (dC, dI) 4 [oR aR aT aP, oP aP aL aN pk, aI aL cI 60 fL, oT aT aB aWK aRE aY aZ tk] [(0, .ref aR), (1, .int x1), (2, .int x2)] 0 [] := by
  have in_X0 : ∀ w ∈ wsX00, w ∈ wsX2_put := fun w hw => List.mem_cons_of_mem _ (List.mem_append_left _ (List.mem_append_right _ hw))
  have in_X2 : ∀ w ∈ wsX20, w ∈ wsX2_put := fun w hw => List.mem_cons_of_mem _ (List.mem_append_left _ (List.mem_append_left _ (List.mem_append_right _ hw)))
  have k_111 := hts (.fieldLink RX2 111 "RingTasks$Posts" "label" "[I") (List.mem_of_getElem? (i := 3) rfl)
  have k_12 := hts (.fieldLink RX2 12 "RingTasks" "task" "LRingTasks$Task;") (List.mem_of_getElem? (i := 2) rfl)
  have k_21 := hts (.fieldLink RX2 21 "RingTasks" "posts" "LRingTasks$Posts;") (List.mem_of_getElem? (i := 1) rfl)
  unfold wp_X2_put at h
  intro H locs ls hP hD hS hl
  refine lv_aload_n hx hb dX2_put_0 rfl (lv_at hl 0 rfl) ?_
  refine va_get (D := (dC, dI)) (ci := 2) (v := .ref aP) (C := RX2) (T := TX2) (N := 2) hx hb hts in_X2 hown hK hP 0 rfl rfl 1 (by decide) k_21 (fun _ h9 => h9) rfl dX2_put_1 ?_
  refine lv_iload_n hx hb dX2_put_4 rfl (lv_at hl 1 rfl) ?_
  refine mVi (wr := [oR aR aT aP, aI aL cI 60 fL, oT aT aB aWK aRE aY aZ tk]) (As := [.int x1]) (rest := []) ⟨hx, hb, hml, hown, hts⟩ (c_X0_has (l := l) (dC := dC) (dI := dI) (cI := cI) (cJ := cJ) (cZ := cZ) (aP := aP) (aL := aL) (aN := aN) h) (cwV 1 hts gX2_put_X0_has rfl rfl rfl hv_X0_has ⟨Nat.le_of_ble_eq_true rfl, Nat.le_of_ble_eq_true rfl⟩) hK hP hD hS hA [1] [0, 2, 3] rfl rfl rfl rfl (by decide) 0 rfl rfl rfl rfl hl.1 rfl (Nat.le_of_ble_eq_true rfl) ⟨Nat.zero_le _, Nat.zero_le _⟩ dX2_put_5 (fun r5 u5 H locs h hP hD hS => ?_)
  have hP : va_P (dC, dI) vwCl [oR aR aT aP, oP aP aL aN pk, aI aL cI 60 fL, oT aT aB aWK aRE aY aZ tk] H := hP.sub [0, 3, 1, 2] rfl
  have hD : va_D A [oR aR aT aP, oP aP aL aN pk, aI aL cI 60 fL, oT aT aB aWK aRE aY aZ tk] := hD.sub [0, 3, 1, 2] rfl rfl
  refine lv_if_eq (tgt := 22) hx hb dX2_put_8 (by decide) (fun q8 => ?_) (fun q8 => ?_)
  · have h := h.1 q8
    refine lv_iconst (v := -1) hx hb dX2_put_22 (by decide) ?_
    exact ret _ _ H locs ls _ dX2_put_23 h hP hD hS
  · have h := h.2 q8
    refine lv_aload_n hx hb dX2_put_11 rfl (lv_at hl 0 rfl) ?_
    refine va_get (D := (dC, dI)) (ci := 2) (v := .ref aT) (C := RX2) (T := TX2) (N := 2) hx hb hts in_X2 hown hK hP 0 rfl rfl 0 (by decide) k_12 (fun _ h9 => h9) rfl dX2_put_12 ?_
    refine lv_iload_n hx hb dX2_put_15 rfl (lv_at hl 2 rfl) ?_
    refine mVi (wr := [oR aR aT aP, oP aP aL aN pk, aI aL cI 60 fL]) (As := [.int x2]) (rest := []) ⟨hx, hb, hml, hown, hts⟩ (c_X1_has (l := l) (dC := dC) (dI := dI) (cI := cI) (cJ := cJ) (cZ := cZ) (aT := aT) (aB := aB) (aWK := aWK) (aRE := aRE) (aY := aY) (aZ := aZ) h) (cwV 1 hts gX2_put_X1_has rfl rfl rfl hv_X1_has ⟨Nat.le_of_ble_eq_true rfl, Nat.le_of_ble_eq_true rfl⟩) hK hP hD hS hA [3] [0, 1, 2] rfl rfl rfl rfl (by decide) 1 rfl rfl rfl rfl hl.1 rfl (Nat.le_of_ble_eq_true rfl) ⟨Nat.zero_le _, Nat.zero_le _⟩ dX2_put_16 (fun r16 u16 H locs h hP hD hS => ?_)
    have hP : va_P (dC, dI) vwCl [oR aR aT aP, oP aP aL aN pk, aI aL cI 60 fL, oT aT aB aWK aRE aY aZ tk] H := hP.sub [0, 1, 2, 3] rfl
    have hD : va_D A [oR aR aT aP, oP aP aL aN pk, aI aL cI 60 fL, oT aT aB aWK aRE aY aZ tk] := hD.sub [0, 1, 2, 3] rfl rfl
    refine lv_if_ne (tgt := 24) hx hb dX2_put_19 (by decide) (fun q19 => ?_) (fun q19 => ?_)
    · have h := h.1 q19
      refine lv_aload_n hx hb dX2_put_24 rfl (lv_at hl 0 rfl) ?_
      refine va_get (D := (dC, dI)) (ci := 2) (v := .ref aP) (C := RX2) (T := TX2) (N := 2) hx hb hts in_X2 hown hK hP 0 rfl rfl 1 (by decide) k_21 (fun _ h9 => h9) rfl dX2_put_25 ?_
      refine va_get (D := (dC, dI)) (ci := 0) (v := .ref aL) (C := RX0) (T := TX0) (N := 3) hx hb hts in_X0 hown hK hP 1 rfl rfl 1 (by decide) k_111 (fun _ h9 => h9) rfl dX2_put_28 ?_
      refine lv_iload_n hx hb dX2_put_31 rfl (lv_at hl 1 rfl) ?_
      refine va_iald (D := (dC, dI)) hx hb hK hP 2 0 rfl rfl h.1 dX2_put_32 ?_
      have h := h.2
      refine lv_topi (fun v33 ev33 => ?_)
      have h := h v33 ev33
      refine lv_istore_n (lv' := [(3, .int v33), (0, .ref aR), (1, .int x1), (2, .int x2)]) hx hb dX2_put_33 rfl hl (by decide) rfl (fun ls hl => ?_)
      refine lv_aload_n hx hb dX2_put_34 rfl (lv_at hl 1 rfl) ?_
      refine va_get (D := (dC, dI)) (ci := 2) (v := .ref aP) (C := RX2) (T := TX2) (N := 2) hx hb hts in_X2 hown hK hP 0 rfl rfl 1 (by decide) k_21 (fun _ h9 => h9) rfl dX2_put_35 ?_
      refine va_get (D := (dC, dI)) (ci := 0) (v := .ref aL) (C := RX0) (T := TX0) (N := 3) hx hb hts in_X0 hown hK hP 1 rfl rfl 1 (by decide) k_111 (fun _ h9 => h9) rfl dX2_put_38 ?_
      refine lv_iload_n hx hb dX2_put_41 rfl (lv_at hl 2 rfl) ?_
      refine lv_iload_n hx hb dX2_put_42 rfl (lv_at hl 3 rfl) ?_
      refine va_iast (D := (dC, dI)) hx hb hK hP hD hS 2 0 rfl rfl h.1 dX2_put_43 (fun H locs hP hD hS => ?_)
      obtain ⟨fL_43, efL_43⟩ : ∃ y, y = upd fL x1.toNatClampNeg x2 := ⟨_, rfl⟩
      have h := h.2 fL_43 efL_43
      have hP : va_P (dC, dI) vwCl [oR aR aT aP, oP aP aL aN pk, aI aL cI 60 fL_43, oT aT aB aWK aRE aY aZ tk] H := by rw [efL_43]; exact hP
      have hD : va_D A [oR aR aT aP, oP aP aL aN pk, aI aL cI 60 fL_43, oT aT aB aWK aRE aY aZ tk] := by rw [efL_43]; exact hD
      refine lv_iload_n hx hb dX2_put_44 rfl (lv_at hl 0 rfl) ?_
      exact ret _ _ H locs ls _ dX2_put_45 h hP hD hS
    · have h := h.2 q19
      refine lv_iconst (v := -1) hx hb dX2_put_22 (by decide) ?_
      exact ret _ _ H locs ls _ dX2_put_23 h hP hD hS
set_option maxHeartbeats 4000000 in
set_option maxRecDepth 100000 in
theorem c_X2_put {l : Launch} {dC : Nat → ClassId} {dI : Nat → Nat → Nat} {cI cJ cZ : ClassId} {aR aT aP aL aN aB aWK aRE aY aZ : Nat} {pk : Int32} {fL : (Nat → Int32)} {tk : Int32} {x1 : Int32} {x2 : Int32} {post : Int32 → (Nat → Int32) → Prop} (h : wp_X2_put x1 x2 pk fL tk post) : ∀ sz, Met l yX2_put wsX2_put rm_X2_put (mP (dC, dI) (mTy cI cJ cZ) [.ref aR, .int x1, .int x2] [oR aR aT aP, oP aP aL aN pk, aI aL cI 60 fL, oT aT aB aWK aRE aY aZ tk] sz) (va_Qi (fun (r : Int32) (u : (Nat → Int32)) => post r u) (mB (dC, dI) (va_A [oR aR aT aP, oP aP aL aN pk, aI aL cI 60 fL, oT aT aB aWK aRE aY aZ tk] sz) (fun u => [oR aR aT aP, oP aP aL aN pk, aI aL cI 60 u, oT aT aB aWK aRE aY aZ tk])) (va_A [oR aR aT aP, oP aP aL aN pk, aI aL cI 60 fL, oT aT aB aWK aRE aY aZ tk] sz)) 0 0 (va_A [oR aR aT aP, oP aP aL aN pk, aI aL cI 60 fL, oT aT aB aWK aRE aY aZ tk] sz) := by
  intro sz
  refine Met.ofW (cc := cX2_put) (maxL := 4) (ret := (some .int)) (by decide) rfl ?_
  intro p e s m args below meth c s₁ B hml hv
  obtain ⟨rfl, hsz, hP, hK, hD0⟩ := hv
  have hlocks := B.notSynchronized
  subst hsz
  have hD := hD0.self (sz := s.heap.size)
  have hl := lv_entry ([.ref aR, .int x1, .int x2]) (n := 4) (Nat.le_of_ble_eq_true rfl)
  rw [lg_entry_eq]
  exact k_X2_put B.exec B.bytes hml (findClass_of_methodNamed B.named) (atoms_spec (ws := wsX2_put) B.pre) hK (fun q hq => Or.inr hq) (fun r fL' H locs ls pc hd hp hP hD hS => W.iret B.exec B.bytes B.returns (fun t ht hW => ⟨⟨r, fL', rfl, hp, by rw [ht]; exact hP, hD⟩, hS.F ht⟩) hS.2.2 hd) h s.heap [] _ hP hD va_S.rf hl

def wp_X2_at (x1 : Int32) (pk : Int32) (fL : (Nat → Int32)) (post : Int32 → Prop) : Prop := wp_X0_has x1 pk (fun (r5 : Int32) => ((r5 = (0 : Int32) → post (-1 : Int32)) ∧ (¬ r5 = (0 : Int32) → (vp_in x1 60 ∧ post (fL x1.toNatClampNeg)))))
abbrev rm_X2_at : Room := { frames := 1, cells := 0, slots := 0, locals := 21 }
theorem hv_X2_at : yX2_at.cls = RX2 ∧ yX2_at.cls ≠ "java/lang/invoke/MethodHandle" ∧ yX2_at.cls ≠ "java/lang/invoke/VarHandle" ∧ (parseMethodDescriptor yX2_at.desc).map (fun d => d.parameters.length) = some 1 := by decide +kernel
set_option maxHeartbeats 4000000 in
set_option maxRecDepth 100000 in
theorem k_X2_at {p : Program} {l : Launch} {e : Env} {s : State} {m : MethodId} {args : Array Value} {below : List Frame} {meth : Method} {c : Code} {Q : State → Prop} {A : Nat → Prop} {dC : Nat → ClassId} {dI : Nat → Nat → Nat} {cI cJ cZ : ClassId} (hx : p.tables.exec = Jvm.exec) (hb : c.code = cX2_at) (hml : c.maxLocals = 2) (hown : s.vm.findClass RX2 = some m.cls) (hts : ∀ w ∈ wsX2_at, w.before args s = true) (hK : va_K (dC, dI) vwCl (mTy cI cJ cZ) s) (hA : ∀ q, s.heap.size ≤ q → A q) {aR aT aP aL aN : Nat} {pk : Int32} {fL : (Nat → Int32)} {x1 : Int32} {post : Int32 → Prop} (ret : ∀ (r : Int32) (H : Heap) (locs : List Loc) (ls : Array Slot) (pc : Nat), decode cX2_at pc = .ok (.ireturn, 1) → post r → va_P (dC, dI) vwCl [oR aR aT aP, oP aP aL aN pk, aI aL cI 60 fL] H → va_D A [oR aR aT aP, oP aP aL aN pk, aI aL cI 60 fL] → va_S A s.heap H locs → W p l e rm_X2_at s m args below meth c H locs 0 0 Q (F0 m pc ls [.int r])) (h : wp_X2_at x1 pk fL post) : mW p l e rm_X2_at s m args below meth c 0 0 Q A (dC, dI) 2 [oR aR aT aP, oP aP aL aN pk, aI aL cI 60 fL] [(0, .ref aR), (1, .int x1)] 0 [] := by
  have in_X0 : ∀ w ∈ wsX00, w ∈ wsX2_at := fun w hw => List.mem_cons_of_mem _ (List.mem_append_right _ hw)
  have in_X2 : ∀ w ∈ wsX20, w ∈ wsX2_at := fun w hw => List.mem_cons_of_mem _ (List.mem_append_left _ (List.mem_append_right _ hw))
  have k_111 := hts (.fieldLink RX2 111 "RingTasks$Posts" "label" "[I") (List.mem_of_getElem? (i := 2) rfl)
  have k_21 := hts (.fieldLink RX2 21 "RingTasks" "posts" "LRingTasks$Posts;") (List.mem_of_getElem? (i := 1) rfl)
  unfold wp_X2_at at h
  intro H locs ls hP hD hS hl
  refine lv_aload_n hx hb dX2_at_0 rfl (lv_at hl 0 rfl) ?_
  refine va_get (D := (dC, dI)) (ci := 2) (v := .ref aP) (C := RX2) (T := TX2) (N := 2) hx hb hts in_X2 hown hK hP 0 rfl rfl 1 (by decide) k_21 (fun _ h9 => h9) rfl dX2_at_1 ?_
  refine lv_iload_n hx hb dX2_at_4 rfl (lv_at hl 1 rfl) ?_
  refine mVi (wr := [oR aR aT aP, aI aL cI 60 fL]) (As := [.int x1]) (rest := []) ⟨hx, hb, hml, hown, hts⟩ (c_X0_has (l := l) (dC := dC) (dI := dI) (cI := cI) (cJ := cJ) (cZ := cZ) (aP := aP) (aL := aL) (aN := aN) h) (cwV 1 hts gX2_at_X0_has rfl rfl rfl hv_X0_has ⟨Nat.le_of_ble_eq_true rfl, Nat.le_of_ble_eq_true rfl⟩) hK hP hD hS hA [1] [0, 2] rfl rfl rfl rfl (by decide) 0 rfl rfl rfl rfl hl.1 rfl (Nat.le_of_ble_eq_true rfl) ⟨Nat.zero_le _, Nat.zero_le _⟩ dX2_at_5 (fun r5 u5 H locs h hP hD hS => ?_)
  have hP : va_P (dC, dI) vwCl [oR aR aT aP, oP aP aL aN pk, aI aL cI 60 fL] H := hP.sub [0, 2, 1] rfl
  have hD : va_D A [oR aR aT aP, oP aP aL aN pk, aI aL cI 60 fL] := hD.sub [0, 2, 1] rfl rfl
  refine lv_if_eq (tgt := 23) hx hb dX2_at_8 (by decide) (fun q8 => ?_) (fun q8 => ?_)
  · have h := h.1 q8
    refine lv_iconst (v := -1) hx hb dX2_at_23 (by decide) ?_
    exact ret _  H locs ls _ dX2_at_24 h hP hD hS
  · have h := h.2 q8
    refine lv_aload_n hx hb dX2_at_11 rfl (lv_at hl 0 rfl) ?_
    refine va_get (D := (dC, dI)) (ci := 2) (v := .ref aP) (C := RX2) (T := TX2) (N := 2) hx hb hts in_X2 hown hK hP 0 rfl rfl 1 (by decide) k_21 (fun _ h9 => h9) rfl dX2_at_12 ?_
    refine va_get (D := (dC, dI)) (ci := 0) (v := .ref aL) (C := RX0) (T := TX0) (N := 3) hx hb hts in_X0 hown hK hP 1 rfl rfl 1 (by decide) k_111 (fun _ h9 => h9) rfl dX2_at_15 ?_
    refine lv_iload_n hx hb dX2_at_18 rfl (lv_at hl 1 rfl) ?_
    refine va_iald (D := (dC, dI)) hx hb hK hP 2 0 rfl rfl h.1 dX2_at_19 ?_
    have h := h.2
    refine lv_goto (tgt := 24) hx hb dX2_at_20 (by decide) ?_
    exact ret _  H locs ls _ dX2_at_24 h hP hD hS
set_option maxHeartbeats 4000000 in
set_option maxRecDepth 100000 in
theorem c_X2_at {l : Launch} {dC : Nat → ClassId} {dI : Nat → Nat → Nat} {cI cJ cZ : ClassId} {aR aT aP aL aN : Nat} {pk : Int32} {fL : (Nat → Int32)} {x1 : Int32} {post : Int32 → Prop} (h : wp_X2_at x1 pk fL post) : ∀ sz, Met l yX2_at wsX2_at rm_X2_at (mP (dC, dI) (mTy cI cJ cZ) [.ref aR, .int x1] [oR aR aT aP, oP aP aL aN pk, aI aL cI 60 fL] sz) (va_Qi (fun (r : Int32) (u : Unit) => post r ) (mB (dC, dI) (va_A [oR aR aT aP, oP aP aL aN pk, aI aL cI 60 fL] sz) (fun u => [oR aR aT aP, oP aP aL aN pk, aI aL cI 60 fL])) (va_A [oR aR aT aP, oP aP aL aN pk, aI aL cI 60 fL] sz)) 0 0 (va_A [oR aR aT aP, oP aP aL aN pk, aI aL cI 60 fL] sz) := by
  intro sz
  refine Met.ofW (cc := cX2_at) (maxL := 2) (ret := (some .int)) (by decide) rfl ?_
  intro p e s m args below meth c s₁ B hml hv
  obtain ⟨rfl, hsz, hP, hK, hD0⟩ := hv
  have hlocks := B.notSynchronized
  subst hsz
  have hD := hD0.self (sz := s.heap.size)
  have hl := lv_entry ([.ref aR, .int x1]) (n := 2) (Nat.le_of_ble_eq_true rfl)
  rw [lg_entry_eq]
  exact k_X2_at B.exec B.bytes hml (findClass_of_methodNamed B.named) (atoms_spec (ws := wsX2_at) B.pre) hK (fun q hq => Or.inr hq) (fun r H locs ls pc hd hp hP hD hS => W.iret B.exec B.bytes B.returns (fun t ht hW => ⟨⟨r, (), rfl, hp, by rw [ht]; exact hP, hD⟩, hS.F ht⟩) hS.2.2 hd) h s.heap [] _ hP hD va_S.rf hl

def wp_X2_faults_b4 (x1 : Int32) (x2 : Int32) (pk : Int32) (fL : (Nat → Int32)) (tk : Int32) (fB : (Nat → Int32)) (post : Int32 → Prop)  : Prop := ∀ P4 : Int32 → Int32 → Prop, (∀ (x1 : Int32) (x2 : Int32), ((pk ≤ x2 → post x1) ∧ (¬ pk ≤ x2 → wp_X0_isFault x2 pk fL tk fB (fun (r24 : Int32) => ((r24 = (0 : Int32) → (∀ v33 : Int32, v33 = x2 + (1 : Int32) → P4 x1 v33)) ∧ (¬ r24 = (0 : Int32) → (∀ v30 : Int32, v30 = x1 + (1 : Int32) → (∀ v33 : Int32, v33 = x2 + (1 : Int32) → P4 v30 v33))))))) → P4 x1 x2) → P4 x1 x2
def wp_X2_faults  (pk : Int32) (fL : (Nat → Int32)) (tk : Int32) (fB : (Nat → Int32)) (post : Int32 → Prop) : Prop := wp_X2_faults_b4 (0 : Int32) (0 : Int32) pk fL tk fB post
abbrev rm_X2_faults : Room := { frames := 3, cells := 0, slots := 0, locals := 65 }
theorem hv_X2_faults : yX2_faults.cls = RX2 ∧ yX2_faults.cls ≠ "java/lang/invoke/MethodHandle" ∧ yX2_faults.cls ≠ "java/lang/invoke/VarHandle" ∧ (parseMethodDescriptor yX2_faults.desc).map (fun d => d.parameters.length) = some 0 := by decide +kernel
set_option maxHeartbeats 4000000 in
set_option maxRecDepth 100000 in
theorem k_X2_faults {p : Program} {l : Launch} {e : Env} {s : State} {m : MethodId} {args : Array Value} {below : List Frame} {meth : Method} {c : Code} {Q : State → Prop} {A : Nat → Prop} {dC : Nat → ClassId} {dI : Nat → Nat → Nat} {cI cJ cZ : ClassId} (hx : p.tables.exec = Jvm.exec) (hb : c.code = cX2_faults) (hml : c.maxLocals = 3) (hown : s.vm.findClass RX2 = some m.cls) (hts : ∀ w ∈ wsX2_faults, w.before args s = true) (hK : va_K (dC, dI) vwCl (mTy cI cJ cZ) s) (hA : ∀ q, s.heap.size ≤ q → A q) {aR aT aP aL aN aB aWK aRE aY aZ : Nat} {pk : Int32} {fL : (Nat → Int32)} {tk : Int32} {fB : (Nat → Int32)}  {post : Int32 → Prop} (ret : ∀ (r : Int32) (H : Heap) (locs : List Loc) (ls : Array Slot) (pc : Nat), decode cX2_faults pc = .ok (.ireturn, 1) → post r → va_P (dC, dI) vwCl [oR aR aT aP, oP aP aL aN pk, aI aL cI 60 fL, oT aT aB aWK aRE aY aZ tk, aI aB cI 6 fB] H → va_D A [oR aR aT aP, oP aP aL aN pk, aI aL cI 60 fL, oT aT aB aWK aRE aY aZ tk, aI aB cI 6 fB] → va_S A s.heap H locs → W p l e rm_X2_faults s m args below meth c H locs 0 0 Q (F0 m pc ls [.int r])) (h : wp_X2_faults  pk fL tk fB post) : mW p l e rm_X2_faults s m args below meth c 0 0 Q A (dC, dI) 3 [oR aR aT aP, oP aP aL aN pk, aI aL cI 60 fL, oT aT aB aWK aRE aY aZ tk, aI aB cI 6 fB] [(0, .ref aR)] 0 [] := by
  have in_X0 : ∀ w ∈ wsX00, w ∈ wsX2_faults := fun w hw => List.mem_cons_of_mem _ (List.mem_append_left _ (List.mem_append_right _ hw))
  have in_X2 : ∀ w ∈ wsX20, w ∈ wsX2_faults := fun w hw => List.mem_cons_of_mem _ (List.mem_append_left _ (List.mem_append_left _ (List.mem_append_right _ hw)))
  have k_108 := hts (.fieldLink RX2 108 "RingTasks$Posts" "size" "I") (List.mem_of_getElem? (i := 2) rfl)
  have k_12 := hts (.fieldLink RX2 12 "RingTasks" "task" "LRingTasks$Task;") (List.mem_of_getElem? (i := 3) rfl)
  have k_21 := hts (.fieldLink RX2 21 "RingTasks" "posts" "LRingTasks$Posts;") (List.mem_of_getElem? (i := 1) rfl)
  have B4 : ∀ (x1 : Int32) (x2 : Int32), wp_X2_faults_b4 x1 x2 pk fL tk fB post → mW p l e rm_X2_faults s m args below meth c 0 0 Q A (dC, dI) 3 [oR aR aT aP, oP aP aL aN pk, aI aL cI 60 fL, oT aT aB aWK aRE aY aZ tk, aI aB cI 6 fB] [(0, .ref aR), (1, .int x1), (2, .int x2)] 4 [] := by
    intro x1 x2 h
    unfold wp_X2_faults_b4 at h
    refine h (fun (x1 : Int32) (x2 : Int32) => mW p l e rm_X2_faults s m args below meth c 0 0 Q A (dC, dI) 3 [oR aR aT aP, oP aP aL aN pk, aI aL cI 60 fL, oT aT aB aWK aRE aY aZ tk, aI aB cI 6 fB] [(0, .ref aR), (1, .int x1), (2, .int x2)] 4 []) ?_
    intro x1 x2 h
    intro H locs ls hP hD hS hl
    refine lv_iload_n hx hb dX2_faults_4 rfl (lv_at hl 2 rfl) ?_
    refine lv_aload_n hx hb dX2_faults_5 rfl (lv_at hl 0 rfl) ?_
    refine va_get (D := (dC, dI)) (ci := 2) (v := .ref aP) (C := RX2) (T := TX2) (N := 2) hx hb hts in_X2 hown hK hP 0 rfl rfl 1 (by decide) k_21 (fun _ h9 => h9) rfl dX2_faults_6 ?_
    refine va_get (D := (dC, dI)) (ci := 0) (v := .int pk) (C := RX0) (T := TX0) (N := 3) hx hb hts in_X0 hown hK hP 1 rfl rfl 0 (by decide) k_108 (fun _ h9 => h9) rfl dX2_faults_9 ?_
    refine lv_icmp_ge (tgt := 39) hx hb dX2_faults_12 (by decide) (fun q12 => ?_) (fun q12 => ?_)
    · have h := h.1 q12
      refine lv_iload_n hx hb dX2_faults_39 rfl (lv_at hl 1 rfl) ?_
      exact ret _  H locs ls _ dX2_faults_40 h hP hD hS
    · have h := h.2 q12
      refine lv_aload_n hx hb dX2_faults_15 rfl (lv_at hl 0 rfl) ?_
      refine va_get (D := (dC, dI)) (ci := 2) (v := .ref aP) (C := RX2) (T := TX2) (N := 2) hx hb hts in_X2 hown hK hP 0 rfl rfl 1 (by decide) k_21 (fun _ h9 => h9) rfl dX2_faults_16 ?_
      refine lv_iload_n hx hb dX2_faults_19 rfl (lv_at hl 2 rfl) ?_
      refine lv_aload_n hx hb dX2_faults_20 rfl (lv_at hl 0 rfl) ?_
      refine va_get (D := (dC, dI)) (ci := 2) (v := .ref aT) (C := RX2) (T := TX2) (N := 2) hx hb hts in_X2 hown hK hP 0 rfl rfl 0 (by decide) k_12 (fun _ h9 => h9) rfl dX2_faults_21 ?_
      refine mVi (wr := [oR aR aT aP]) (As := [.int x2, .ref aT]) (rest := []) ⟨hx, hb, hml, hown, hts⟩ (c_X0_isFault (l := l) (dC := dC) (dI := dI) (cI := cI) (cJ := cJ) (cZ := cZ) (aP := aP) (aL := aL) (aN := aN) (aT := aT) (aB := aB) (aWK := aWK) (aRE := aRE) (aY := aY) (aZ := aZ) h) (cwV 2 hts gX2_faults_X0_isFault rfl rfl rfl hv_X0_isFault ⟨Nat.le_of_ble_eq_true rfl, Nat.le_of_ble_eq_true rfl⟩) hK hP hD hS hA [1, 2, 3, 4] [0] rfl rfl rfl rfl (by decide) 0 rfl rfl rfl rfl hl.1 rfl (Nat.le_of_ble_eq_true rfl) ⟨Nat.zero_le _, Nat.zero_le _⟩ dX2_faults_24 (fun r24 u24 H locs h hP hD hS => ?_)
      have hP : va_P (dC, dI) vwCl [oR aR aT aP, oP aP aL aN pk, aI aL cI 60 fL, oT aT aB aWK aRE aY aZ tk, aI aB cI 6 fB] H := hP.sub [0, 1, 2, 3, 4] rfl
      have hD : va_D A [oR aR aT aP, oP aP aL aN pk, aI aL cI 60 fL, oT aT aB aWK aRE aY aZ tk, aI aB cI 6 fB] := hD.sub [0, 1, 2, 3, 4] rfl rfl
      refine lv_if_eq (tgt := 33) hx hb dX2_faults_27 (by decide) (fun q27 => ?_) (fun q27 => ?_)
      · have h := h.1 q27
        obtain ⟨v33, ev33⟩ : ∃ y : Int32, y = x2 + (1 : Int32) := ⟨_, rfl⟩
        have h := h v33 ev33
        refine lv_iinc (v := v33) (lv' := [(2, .int v33), (0, .ref aR), (1, .int x1)]) hx hb dX2_faults_33 hl (k := 2) rfl (by rw [ev33]; rfl) (by decide) rfl (fun ls hl => ?_)
        refine lv_goto (tgt := 4) hx hb dX2_faults_36 (by decide) ?_
        exact h H locs ls hP hD hS (lv_sub hl [1, 2, 0] rfl)
      · have h := h.2 q27
        obtain ⟨v30, ev30⟩ : ∃ y : Int32, y = x1 + (1 : Int32) := ⟨_, rfl⟩
        have h := h v30 ev30
        refine lv_iinc (v := v30) (lv' := [(1, .int v30), (0, .ref aR), (2, .int x2)]) hx hb dX2_faults_30 hl (k := 1) rfl (by rw [ev30]; rfl) (by decide) rfl (fun ls hl => ?_)
        obtain ⟨v33, ev33⟩ : ∃ y : Int32, y = x2 + (1 : Int32) := ⟨_, rfl⟩
        have h := h v33 ev33
        refine lv_iinc (v := v33) (lv' := [(2, .int v33), (1, .int v30), (0, .ref aR)]) hx hb dX2_faults_33 hl (k := 2) rfl (by rw [ev33]; rfl) (by decide) rfl (fun ls hl => ?_)
        refine lv_goto (tgt := 4) hx hb dX2_faults_36 (by decide) ?_
        exact h H locs ls hP hD hS (lv_sub hl [2, 1, 0] rfl)
  unfold wp_X2_faults at h
  intro H locs ls hP hD hS hl
  refine lv_iconst (v := 0) hx hb dX2_faults_0 (by decide) ?_
  refine lv_istore_n (lv' := [(1, .int (0 : Int32)), (0, .ref aR)]) hx hb dX2_faults_1 rfl hl (by decide) rfl (fun ls hl => ?_)
  refine lv_iconst (v := 0) hx hb dX2_faults_2 (by decide) ?_
  refine lv_istore_n (lv' := [(2, .int (0 : Int32)), (1, .int (0 : Int32)), (0, .ref aR)]) hx hb dX2_faults_3 rfl hl (by decide) rfl (fun ls hl => ?_)
  exact B4 _ _ h H locs ls hP hD hS (lv_sub hl [2, 1, 0] rfl)
set_option maxHeartbeats 4000000 in
set_option maxRecDepth 100000 in
theorem c_X2_faults {l : Launch} {dC : Nat → ClassId} {dI : Nat → Nat → Nat} {cI cJ cZ : ClassId} {aR aT aP aL aN aB aWK aRE aY aZ : Nat} {pk : Int32} {fL : (Nat → Int32)} {tk : Int32} {fB : (Nat → Int32)}  {post : Int32 → Prop} (h : wp_X2_faults  pk fL tk fB post) : ∀ sz, Met l yX2_faults wsX2_faults rm_X2_faults (mP (dC, dI) (mTy cI cJ cZ) [.ref aR] [oR aR aT aP, oP aP aL aN pk, aI aL cI 60 fL, oT aT aB aWK aRE aY aZ tk, aI aB cI 6 fB] sz) (va_Qi (fun (r : Int32) (u : Unit) => post r ) (mB (dC, dI) (va_A [oR aR aT aP, oP aP aL aN pk, aI aL cI 60 fL, oT aT aB aWK aRE aY aZ tk, aI aB cI 6 fB] sz) (fun u => [oR aR aT aP, oP aP aL aN pk, aI aL cI 60 fL, oT aT aB aWK aRE aY aZ tk, aI aB cI 6 fB])) (va_A [oR aR aT aP, oP aP aL aN pk, aI aL cI 60 fL, oT aT aB aWK aRE aY aZ tk, aI aB cI 6 fB] sz)) 0 0 (va_A [oR aR aT aP, oP aP aL aN pk, aI aL cI 60 fL, oT aT aB aWK aRE aY aZ tk, aI aB cI 6 fB] sz) := by
  intro sz
  refine Met.ofW (cc := cX2_faults) (maxL := 3) (ret := (some .int)) (by decide) rfl ?_
  intro p e s m args below meth c s₁ B hml hv
  obtain ⟨rfl, hsz, hP, hK, hD0⟩ := hv
  have hlocks := B.notSynchronized
  subst hsz
  have hD := hD0.self (sz := s.heap.size)
  have hl := lv_entry ([.ref aR]) (n := 3) (Nat.le_of_ble_eq_true rfl)
  rw [lg_entry_eq]
  exact k_X2_faults B.exec B.bytes hml (findClass_of_methodNamed B.named) (atoms_spec (ws := wsX2_faults) B.pre) hK (fun q hq => Or.inr hq) (fun r H locs ls pc hd hp hP hD hS => W.iret B.exec B.bytes B.returns (fun t ht hW => ⟨⟨r, (), rfl, hp, by rw [ht]; exact hP, hD⟩, hS.F ht⟩) hS.2.2 hd) h s.heap [] _ hP hD va_S.rf hl

def wp_X2_fault (x1 : Int32) (pk : Int32) (fL : (Nat → Int32)) (tk : Int32) (fB : (Nat → Int32)) (post : Int32 → Prop) : Prop := wp_X0_has x1 pk (fun (r5 : Int32) => ((r5 = (0 : Int32) → post (-1 : Int32)) ∧ (¬ r5 = (0 : Int32) → wp_X0_faultFrom x1 pk fL tk fB (fun (r20 : Int32) => post r20))))
abbrev rm_X2_fault : Room := { frames := 4, cells := 0, slots := 0, locals := 89 }
theorem hv_X2_fault : yX2_fault.cls = RX2 ∧ yX2_fault.cls ≠ "java/lang/invoke/MethodHandle" ∧ yX2_fault.cls ≠ "java/lang/invoke/VarHandle" ∧ (parseMethodDescriptor yX2_fault.desc).map (fun d => d.parameters.length) = some 1 := by decide +kernel
set_option maxHeartbeats 4000000 in
set_option maxRecDepth 100000 in
theorem k_X2_fault {p : Program} {l : Launch} {e : Env} {s : State} {m : MethodId} {args : Array Value} {below : List Frame} {meth : Method} {c : Code} {Q : State → Prop} {A : Nat → Prop} {dC : Nat → ClassId} {dI : Nat → Nat → Nat} {cI cJ cZ : ClassId} (hx : p.tables.exec = Jvm.exec) (hb : c.code = cX2_fault) (hml : c.maxLocals = 2) (hown : s.vm.findClass RX2 = some m.cls) (hts : ∀ w ∈ wsX2_fault, w.before args s = true) (hK : va_K (dC, dI) vwCl (mTy cI cJ cZ) s) (hA : ∀ q, s.heap.size ≤ q → A q) {aR aT aP aL aN aB aWK aRE aY aZ : Nat} {pk : Int32} {fL : (Nat → Int32)} {tk : Int32} {fB : (Nat → Int32)} {x1 : Int32} {post : Int32 → Prop} (ret : ∀ (r : Int32) (H : Heap) (locs : List Loc) (ls : Array Slot) (pc : Nat), decode cX2_fault pc = .ok (.ireturn, 1) → post r → va_P (dC, dI) vwCl [oR aR aT aP, oP aP aL aN pk, aI aL cI 60 fL, oT aT aB aWK aRE aY aZ tk, aI aB cI 6 fB] H → va_D A [oR aR aT aP, oP aP aL aN pk, aI aL cI 60 fL, oT aT aB aWK aRE aY aZ tk, aI aB cI 6 fB] → va_S A s.heap H locs → W p l e rm_X2_fault s m args below meth c H locs 0 0 Q (F0 m pc ls [.int r])) (h : wp_X2_fault x1 pk fL tk fB post) : mW p l e rm_X2_fault s m args below meth c 0 0 Q A (dC, dI) 2 [oR aR aT aP, oP aP aL aN pk, aI aL cI 60 fL, oT aT aB aWK aRE aY aZ tk, aI aB cI 6 fB] [(0, .ref aR), (1, .int x1)] 0 [] := by
  have in_X2 : ∀ w ∈ wsX20, w ∈ wsX2_fault := fun w hw => List.mem_cons_of_mem _ (List.mem_append_left _ (List.mem_append_left _ (List.mem_append_right _ hw)))
  have k_12 := hts (.fieldLink RX2 12 "RingTasks" "task" "LRingTasks$Task;") (List.mem_of_getElem? (i := 2) rfl)
  have k_21 := hts (.fieldLink RX2 21 "RingTasks" "posts" "LRingTasks$Posts;") (List.mem_of_getElem? (i := 1) rfl)
  unfold wp_X2_fault at h
  intro H locs ls hP hD hS hl
  refine lv_aload_n hx hb dX2_fault_0 rfl (lv_at hl 0 rfl) ?_
  refine va_get (D := (dC, dI)) (ci := 2) (v := .ref aP) (C := RX2) (T := TX2) (N := 2) hx hb hts in_X2 hown hK hP 0 rfl rfl 1 (by decide) k_21 (fun _ h9 => h9) rfl dX2_fault_1 ?_
  refine lv_iload_n hx hb dX2_fault_4 rfl (lv_at hl 1 rfl) ?_
  refine mVi (wr := [oR aR aT aP, aI aL cI 60 fL, oT aT aB aWK aRE aY aZ tk, aI aB cI 6 fB]) (As := [.int x1]) (rest := []) ⟨hx, hb, hml, hown, hts⟩ (c_X0_has (l := l) (dC := dC) (dI := dI) (cI := cI) (cJ := cJ) (cZ := cZ) (aP := aP) (aL := aL) (aN := aN) h) (cwV 1 hts gX2_fault_X0_has rfl rfl rfl hv_X0_has ⟨Nat.le_of_ble_eq_true rfl, Nat.le_of_ble_eq_true rfl⟩) hK hP hD hS hA [1] [0, 2, 3, 4] rfl rfl rfl rfl (by decide) 0 rfl rfl rfl rfl hl.1 rfl (Nat.le_of_ble_eq_true rfl) ⟨Nat.zero_le _, Nat.zero_le _⟩ dX2_fault_5 (fun r5 u5 H locs h hP hD hS => ?_)
  have hP : va_P (dC, dI) vwCl [oR aR aT aP, oP aP aL aN pk, aI aL cI 60 fL, oT aT aB aWK aRE aY aZ tk, aI aB cI 6 fB] H := hP.sub [0, 4, 1, 2, 3] rfl
  have hD : va_D A [oR aR aT aP, oP aP aL aN pk, aI aL cI 60 fL, oT aT aB aWK aRE aY aZ tk, aI aB cI 6 fB] := hD.sub [0, 4, 1, 2, 3] rfl rfl
  refine lv_if_eq (tgt := 26) hx hb dX2_fault_8 (by decide) (fun q8 => ?_) (fun q8 => ?_)
  · have h := h.1 q8
    refine lv_iconst (v := -1) hx hb dX2_fault_26 (by decide) ?_
    exact ret _  H locs ls _ dX2_fault_27 h hP hD hS
  · have h := h.2 q8
    refine lv_aload_n hx hb dX2_fault_11 rfl (lv_at hl 0 rfl) ?_
    refine va_get (D := (dC, dI)) (ci := 2) (v := .ref aP) (C := RX2) (T := TX2) (N := 2) hx hb hts in_X2 hown hK hP 0 rfl rfl 1 (by decide) k_21 (fun _ h9 => h9) rfl dX2_fault_12 ?_
    refine lv_iload_n hx hb dX2_fault_15 rfl (lv_at hl 1 rfl) ?_
    refine lv_aload_n hx hb dX2_fault_16 rfl (lv_at hl 0 rfl) ?_
    refine va_get (D := (dC, dI)) (ci := 2) (v := .ref aT) (C := RX2) (T := TX2) (N := 2) hx hb hts in_X2 hown hK hP 0 rfl rfl 0 (by decide) k_12 (fun _ h9 => h9) rfl dX2_fault_17 ?_
    refine mVi (wr := [oR aR aT aP]) (As := [.int x1, .ref aT]) (rest := []) ⟨hx, hb, hml, hown, hts⟩ (c_X0_faultFrom (l := l) (dC := dC) (dI := dI) (cI := cI) (cJ := cJ) (cZ := cZ) (aP := aP) (aL := aL) (aN := aN) (aT := aT) (aB := aB) (aWK := aWK) (aRE := aRE) (aY := aY) (aZ := aZ) h) (cwV 2 hts gX2_fault_X0_faultFrom rfl rfl rfl hv_X0_faultFrom ⟨Nat.le_of_ble_eq_true rfl, Nat.le_of_ble_eq_true rfl⟩) hK hP hD hS hA [1, 2, 3, 4] [0] rfl rfl rfl rfl (by decide) 0 rfl rfl rfl rfl hl.1 rfl (Nat.le_of_ble_eq_true rfl) ⟨Nat.zero_le _, Nat.zero_le _⟩ dX2_fault_20 (fun r20 u20 H locs h hP hD hS => ?_)
    have hP : va_P (dC, dI) vwCl [oR aR aT aP, oP aP aL aN pk, aI aL cI 60 fL, oT aT aB aWK aRE aY aZ tk, aI aB cI 6 fB] H := hP.sub [0, 1, 2, 3, 4] rfl
    have hD : va_D A [oR aR aT aP, oP aP aL aN pk, aI aL cI 60 fL, oT aT aB aWK aRE aY aZ tk, aI aB cI 6 fB] := hD.sub [0, 1, 2, 3, 4] rfl rfl
    refine lv_goto (tgt := 27) hx hb dX2_fault_23 (by decide) ?_
    exact ret _  H locs ls _ dX2_fault_27 h hP hD hS
set_option maxHeartbeats 4000000 in
set_option maxRecDepth 100000 in
theorem c_X2_fault {l : Launch} {dC : Nat → ClassId} {dI : Nat → Nat → Nat} {cI cJ cZ : ClassId} {aR aT aP aL aN aB aWK aRE aY aZ : Nat} {pk : Int32} {fL : (Nat → Int32)} {tk : Int32} {fB : (Nat → Int32)} {x1 : Int32} {post : Int32 → Prop} (h : wp_X2_fault x1 pk fL tk fB post) : ∀ sz, Met l yX2_fault wsX2_fault rm_X2_fault (mP (dC, dI) (mTy cI cJ cZ) [.ref aR, .int x1] [oR aR aT aP, oP aP aL aN pk, aI aL cI 60 fL, oT aT aB aWK aRE aY aZ tk, aI aB cI 6 fB] sz) (va_Qi (fun (r : Int32) (u : Unit) => post r ) (mB (dC, dI) (va_A [oR aR aT aP, oP aP aL aN pk, aI aL cI 60 fL, oT aT aB aWK aRE aY aZ tk, aI aB cI 6 fB] sz) (fun u => [oR aR aT aP, oP aP aL aN pk, aI aL cI 60 fL, oT aT aB aWK aRE aY aZ tk, aI aB cI 6 fB])) (va_A [oR aR aT aP, oP aP aL aN pk, aI aL cI 60 fL, oT aT aB aWK aRE aY aZ tk, aI aB cI 6 fB] sz)) 0 0 (va_A [oR aR aT aP, oP aP aL aN pk, aI aL cI 60 fL, oT aT aB aWK aRE aY aZ tk, aI aB cI 6 fB] sz) := by
  intro sz
  refine Met.ofW (cc := cX2_fault) (maxL := 2) (ret := (some .int)) (by decide) rfl ?_
  intro p e s m args below meth c s₁ B hml hv
  obtain ⟨rfl, hsz, hP, hK, hD0⟩ := hv
  have hlocks := B.notSynchronized
  subst hsz
  have hD := hD0.self (sz := s.heap.size)
  have hl := lv_entry ([.ref aR, .int x1]) (n := 2) (Nat.le_of_ble_eq_true rfl)
  rw [lg_entry_eq]
  exact k_X2_fault B.exec B.bytes hml (findClass_of_methodNamed B.named) (atoms_spec (ws := wsX2_fault) B.pre) hK (fun q hq => Or.inr hq) (fun r H locs ls pc hd hp hP hD hS => W.iret B.exec B.bytes B.returns (fun t ht hW => ⟨⟨r, (), rfl, hp, by rw [ht]; exact hP, hD⟩, hS.F ht⟩) hS.2.2 hd) h s.heap [] _ hP hD va_S.rf hl

def wp_X2_mend (x1 : Int32) (pk : Int32) (fL : (Nat → Int32)) (tk : Int32) (fB : (Nat → Int32)) (fWK : (Nat → Int32)) (fRE : (Nat → Int32)) (post : Int32 → (Nat → Int32) → (Nat → Int32) → (Nat → Int32) → Prop) : Prop := wp_X0_has x1 pk (fun (r5 : Int32) => ((r5 = (0 : Int32) → post (-1 : Int32) fL fWK fRE) ∧ (¬ r5 = (0 : Int32) → wp_X0_mendAround x1 pk fL tk fB fWK fRE (fun (r20 : Int32) (fL_20 : (Nat → Int32)) (fWK_20 : (Nat → Int32)) (fRE_20 : (Nat → Int32)) => post r20 fL_20 fWK_20 fRE_20))))
abbrev rm_X2_mend : Room := { frames := 6, cells := 0, slots := 0, locals := 140 }
theorem hv_X2_mend : yX2_mend.cls = RX2 ∧ yX2_mend.cls ≠ "java/lang/invoke/MethodHandle" ∧ yX2_mend.cls ≠ "java/lang/invoke/VarHandle" ∧ (parseMethodDescriptor yX2_mend.desc).map (fun d => d.parameters.length) = some 1 := by decide +kernel
set_option maxHeartbeats 4000000 in
set_option maxRecDepth 100000 in
theorem k_X2_mend {p : Program} {l : Launch} {e : Env} {s : State} {m : MethodId} {args : Array Value} {below : List Frame} {meth : Method} {c : Code} {Q : State → Prop} {A : Nat → Prop} {dC : Nat → ClassId} {dI : Nat → Nat → Nat} {cI cJ cZ : ClassId} (hx : p.tables.exec = Jvm.exec) (hb : c.code = cX2_mend) (hml : c.maxLocals = 2) (hown : s.vm.findClass RX2 = some m.cls) (hts : ∀ w ∈ wsX2_mend, w.before args s = true) (hK : va_K (dC, dI) vwCl (mTy cI cJ cZ) s) (hA : ∀ q, s.heap.size ≤ q → A q) {aR aT aP aL aN aB aWK aRE aY aZ : Nat} {pk : Int32} {fL : (Nat → Int32)} {tk : Int32} {fB : (Nat → Int32)} {fWK : (Nat → Int32)} {fRE : (Nat → Int32)} {x1 : Int32} {post : Int32 → (Nat → Int32) → (Nat → Int32) → (Nat → Int32) → Prop} (ret : ∀ (r : Int32) (fL' : (Nat → Int32)) (fWK' : (Nat → Int32)) (fRE' : (Nat → Int32)) (H : Heap) (locs : List Loc) (ls : Array Slot) (pc : Nat), decode cX2_mend pc = .ok (.ireturn, 1) → post r fL' fWK' fRE' → va_P (dC, dI) vwCl [oR aR aT aP, oP aP aL aN pk, aI aL cI 60 fL', oT aT aB aWK aRE aY aZ tk, aI aB cI 6 fB, aI aWK cI 61 fWK', aI aRE cI 61 fRE'] H → va_D A [oR aR aT aP, oP aP aL aN pk, aI aL cI 60 fL', oT aT aB aWK aRE aY aZ tk, aI aB cI 6 fB, aI aWK cI 61 fWK', aI aRE cI 61 fRE'] → va_S A s.heap H locs → W p l e rm_X2_mend s m args below meth c H locs 0 0 Q (F0 m pc ls [.int r])) (h : wp_X2_mend x1 pk fL tk fB fWK fRE post) : mW p l e rm_X2_mend s m args below meth c 0 0 Q A (dC, dI) 2 [oR aR aT aP, oP aP aL aN pk, aI aL cI 60 fL, oT aT aB aWK aRE aY aZ tk, aI aB cI 6 fB, aI aWK cI 61 fWK, aI aRE cI 61 fRE] [(0, .ref aR), (1, .int x1)] 0 [] := by
  have in_X2 : ∀ w ∈ wsX20, w ∈ wsX2_mend := fun w hw => List.mem_cons_of_mem _ (List.mem_append_left _ (List.mem_append_left _ (List.mem_append_right _ hw)))
  have k_12 := hts (.fieldLink RX2 12 "RingTasks" "task" "LRingTasks$Task;") (List.mem_of_getElem? (i := 2) rfl)
  have k_21 := hts (.fieldLink RX2 21 "RingTasks" "posts" "LRingTasks$Posts;") (List.mem_of_getElem? (i := 1) rfl)
  unfold wp_X2_mend at h
  intro H locs ls hP hD hS hl
  refine lv_aload_n hx hb dX2_mend_0 rfl (lv_at hl 0 rfl) ?_
  refine va_get (D := (dC, dI)) (ci := 2) (v := .ref aP) (C := RX2) (T := TX2) (N := 2) hx hb hts in_X2 hown hK hP 0 rfl rfl 1 (by decide) k_21 (fun _ h9 => h9) rfl dX2_mend_1 ?_
  refine lv_iload_n hx hb dX2_mend_4 rfl (lv_at hl 1 rfl) ?_
  refine mVi (wr := [oR aR aT aP, aI aL cI 60 fL, oT aT aB aWK aRE aY aZ tk, aI aB cI 6 fB, aI aWK cI 61 fWK, aI aRE cI 61 fRE]) (As := [.int x1]) (rest := []) ⟨hx, hb, hml, hown, hts⟩ (c_X0_has (l := l) (dC := dC) (dI := dI) (cI := cI) (cJ := cJ) (cZ := cZ) (aP := aP) (aL := aL) (aN := aN) h) (cwV 1 hts gX2_mend_X0_has rfl rfl rfl hv_X0_has ⟨Nat.le_of_ble_eq_true rfl, Nat.le_of_ble_eq_true rfl⟩) hK hP hD hS hA [1] [0, 2, 3, 4, 5, 6] rfl rfl rfl rfl (by decide) 0 rfl rfl rfl rfl hl.1 rfl (Nat.le_of_ble_eq_true rfl) ⟨Nat.zero_le _, Nat.zero_le _⟩ dX2_mend_5 (fun r5 u5 H locs h hP hD hS => ?_)
  have hP : va_P (dC, dI) vwCl [oR aR aT aP, oP aP aL aN pk, aI aL cI 60 fL, oT aT aB aWK aRE aY aZ tk, aI aB cI 6 fB, aI aWK cI 61 fWK, aI aRE cI 61 fRE] H := hP.sub [0, 6, 1, 2, 3, 4, 5] rfl
  have hD : va_D A [oR aR aT aP, oP aP aL aN pk, aI aL cI 60 fL, oT aT aB aWK aRE aY aZ tk, aI aB cI 6 fB, aI aWK cI 61 fWK, aI aRE cI 61 fRE] := hD.sub [0, 6, 1, 2, 3, 4, 5] rfl rfl
  refine lv_if_eq (tgt := 26) hx hb dX2_mend_8 (by decide) (fun q8 => ?_) (fun q8 => ?_)
  · have h := h.1 q8
    refine lv_iconst (v := -1) hx hb dX2_mend_26 (by decide) ?_
    exact ret _ _ _ _ H locs ls _ dX2_mend_27 h hP hD hS
  · have h := h.2 q8
    refine lv_aload_n hx hb dX2_mend_11 rfl (lv_at hl 0 rfl) ?_
    refine va_get (D := (dC, dI)) (ci := 2) (v := .ref aP) (C := RX2) (T := TX2) (N := 2) hx hb hts in_X2 hown hK hP 0 rfl rfl 1 (by decide) k_21 (fun _ h9 => h9) rfl dX2_mend_12 ?_
    refine lv_iload_n hx hb dX2_mend_15 rfl (lv_at hl 1 rfl) ?_
    refine lv_aload_n hx hb dX2_mend_16 rfl (lv_at hl 0 rfl) ?_
    refine va_get (D := (dC, dI)) (ci := 2) (v := .ref aT) (C := RX2) (T := TX2) (N := 2) hx hb hts in_X2 hown hK hP 0 rfl rfl 0 (by decide) k_12 (fun _ h9 => h9) rfl dX2_mend_17 ?_
    refine mVi (wr := [oR aR aT aP]) (As := [.int x1, .ref aT]) (rest := []) ⟨hx, hb, hml, hown, hts⟩ (c_X0_mendAround (l := l) (dC := dC) (dI := dI) (cI := cI) (cJ := cJ) (cZ := cZ) (aP := aP) (aL := aL) (aN := aN) (aT := aT) (aB := aB) (aWK := aWK) (aRE := aRE) (aY := aY) (aZ := aZ) h) (cwV 2 hts gX2_mend_X0_mendAround rfl rfl rfl hv_X0_mendAround ⟨Nat.le_of_ble_eq_true rfl, Nat.le_of_ble_eq_true rfl⟩) hK hP hD hS hA [1, 2, 3, 4, 5, 6] [0] rfl rfl rfl rfl (by decide) 0 rfl rfl rfl rfl hl.1 rfl (Nat.le_of_ble_eq_true rfl) ⟨Nat.zero_le _, Nat.zero_le _⟩ dX2_mend_20 (fun r20 u20 H locs h hP hD hS => ?_)
    obtain ⟨fL_20, fWK_20, fRE_20⟩ := u20
    have hP : va_P (dC, dI) vwCl [oR aR aT aP, oP aP aL aN pk, aI aL cI 60 fL_20, oT aT aB aWK aRE aY aZ tk, aI aB cI 6 fB, aI aWK cI 61 fWK_20, aI aRE cI 61 fRE_20] H := hP.sub [0, 1, 2, 3, 4, 5, 6] rfl
    have hD : va_D A [oR aR aT aP, oP aP aL aN pk, aI aL cI 60 fL_20, oT aT aB aWK aRE aY aZ tk, aI aB cI 6 fB, aI aWK cI 61 fWK_20, aI aRE cI 61 fRE_20] := hD.sub [0, 1, 2, 3, 4, 5, 6] rfl rfl
    refine lv_goto (tgt := 27) hx hb dX2_mend_23 (by decide) ?_
    exact ret _ _ _ _ H locs ls _ dX2_mend_27 h hP hD hS
set_option maxHeartbeats 4000000 in
set_option maxRecDepth 100000 in
theorem c_X2_mend {l : Launch} {dC : Nat → ClassId} {dI : Nat → Nat → Nat} {cI cJ cZ : ClassId} {aR aT aP aL aN aB aWK aRE aY aZ : Nat} {pk : Int32} {fL : (Nat → Int32)} {tk : Int32} {fB : (Nat → Int32)} {fWK : (Nat → Int32)} {fRE : (Nat → Int32)} {x1 : Int32} {post : Int32 → (Nat → Int32) → (Nat → Int32) → (Nat → Int32) → Prop} (h : wp_X2_mend x1 pk fL tk fB fWK fRE post) : ∀ sz, Met l yX2_mend wsX2_mend rm_X2_mend (mP (dC, dI) (mTy cI cJ cZ) [.ref aR, .int x1] [oR aR aT aP, oP aP aL aN pk, aI aL cI 60 fL, oT aT aB aWK aRE aY aZ tk, aI aB cI 6 fB, aI aWK cI 61 fWK, aI aRE cI 61 fRE] sz) (va_Qi (fun (r : Int32) (u : (Nat → Int32) × (Nat → Int32) × (Nat → Int32)) => post r (u.1) (u.2.1) (u.2.2)) (mB (dC, dI) (va_A [oR aR aT aP, oP aP aL aN pk, aI aL cI 60 fL, oT aT aB aWK aRE aY aZ tk, aI aB cI 6 fB, aI aWK cI 61 fWK, aI aRE cI 61 fRE] sz) (fun u => [oR aR aT aP, oP aP aL aN pk, aI aL cI 60 (u.1), oT aT aB aWK aRE aY aZ tk, aI aB cI 6 fB, aI aWK cI 61 (u.2.1), aI aRE cI 61 (u.2.2)])) (va_A [oR aR aT aP, oP aP aL aN pk, aI aL cI 60 fL, oT aT aB aWK aRE aY aZ tk, aI aB cI 6 fB, aI aWK cI 61 fWK, aI aRE cI 61 fRE] sz)) 0 0 (va_A [oR aR aT aP, oP aP aL aN pk, aI aL cI 60 fL, oT aT aB aWK aRE aY aZ tk, aI aB cI 6 fB, aI aWK cI 61 fWK, aI aRE cI 61 fRE] sz) := by
  intro sz
  refine Met.ofW (cc := cX2_mend) (maxL := 2) (ret := (some .int)) (by decide) rfl ?_
  intro p e s m args below meth c s₁ B hml hv
  obtain ⟨rfl, hsz, hP, hK, hD0⟩ := hv
  have hlocks := B.notSynchronized
  subst hsz
  have hD := hD0.self (sz := s.heap.size)
  have hl := lv_entry ([.ref aR, .int x1]) (n := 2) (Nat.le_of_ble_eq_true rfl)
  rw [lg_entry_eq]
  exact k_X2_mend B.exec B.bytes hml (findClass_of_methodNamed B.named) (atoms_spec (ws := wsX2_mend) B.pre) hK (fun q hq => Or.inr hq) (fun r fL' fWK' fRE' H locs ls pc hd hp hP hD hS => W.iret B.exec B.bytes B.returns (fun t ht hW => ⟨⟨r, (fL', fWK', fRE'), rfl, hp, by rw [ht]; exact hP, hD⟩, hS.F ht⟩) hS.2.2 hd) h s.heap [] _ hP hD va_S.rf hl

def wp_X2_fresh  (pk : Int32) (fL : (Nat → Int32)) (tk : Int32) (fB : (Nat → Int32)) (fWK : (Nat → Int32)) (fRE : (Nat → Int32)) (post : Int32 → (Nat → Int32) → (Nat → Int32) → (Nat → Int32) → Prop) : Prop := wp_X1_findRing pk tk fB fWK fRE (fun (r11 : Int32) (fWK_11 : (Nat → Int32)) (fRE_11 : (Nat → Int32)) => ((¬ r11 = (0 : Int32) → wp_X0_putWalk (0 : Int32) pk (0 : Int32) pk fL tk fWK_11 (fun (fL_37 : (Nat → Int32)) => post (1 : Int32) fL_37 fWK_11 fRE_11)) ∧ (r11 = (0 : Int32) → post (-9 : Int32) fL fWK_11 fRE_11)))
abbrev rm_X2_fresh : Room := { frames := 4, cells := 0, slots := 0, locals := 89 }
theorem hv_X2_fresh : yX2_fresh.cls = RX2 ∧ yX2_fresh.cls ≠ "java/lang/invoke/MethodHandle" ∧ yX2_fresh.cls ≠ "java/lang/invoke/VarHandle" ∧ (parseMethodDescriptor yX2_fresh.desc).map (fun d => d.parameters.length) = some 0 := by decide +kernel
set_option maxHeartbeats 4000000 in
set_option maxRecDepth 100000 in
theorem k_X2_fresh {p : Program} {l : Launch} {e : Env} {s : State} {m : MethodId} {args : Array Value} {below : List Frame} {meth : Method} {c : Code} {Q : State → Prop} {A : Nat → Prop} {dC : Nat → ClassId} {dI : Nat → Nat → Nat} {cI cJ cZ : ClassId} (hx : p.tables.exec = Jvm.exec) (hb : c.code = cX2_fresh) (hml : c.maxLocals = 1) (hown : s.vm.findClass RX2 = some m.cls) (hts : ∀ w ∈ wsX2_fresh, w.before args s = true) (hK : va_K (dC, dI) vwCl (mTy cI cJ cZ) s) (hA : ∀ q, s.heap.size ≤ q → A q) {aR aT aP aL aN aB aWK aRE aY aZ : Nat} {pk : Int32} {fL : (Nat → Int32)} {tk : Int32} {fB : (Nat → Int32)} {fWK : (Nat → Int32)} {fRE : (Nat → Int32)}  {post : Int32 → (Nat → Int32) → (Nat → Int32) → (Nat → Int32) → Prop} (ret : ∀ (r : Int32) (fL' : (Nat → Int32)) (fWK' : (Nat → Int32)) (fRE' : (Nat → Int32)) (H : Heap) (locs : List Loc) (ls : Array Slot) (pc : Nat), decode cX2_fresh pc = .ok (.ireturn, 1) → post r fL' fWK' fRE' → va_P (dC, dI) vwCl [oR aR aT aP, oP aP aL aN pk, aI aL cI 60 fL', oT aT aB aWK aRE aY aZ tk, aI aB cI 6 fB, aI aWK cI 61 fWK', aI aRE cI 61 fRE'] H → va_D A [oR aR aT aP, oP aP aL aN pk, aI aL cI 60 fL', oT aT aB aWK aRE aY aZ tk, aI aB cI 6 fB, aI aWK cI 61 fWK', aI aRE cI 61 fRE'] → va_S A s.heap H locs → W p l e rm_X2_fresh s m args below meth c H locs 0 0 Q (F0 m pc ls [.int r])) (h : wp_X2_fresh  pk fL tk fB fWK fRE post) : mW p l e rm_X2_fresh s m args below meth c 0 0 Q A (dC, dI) 1 [oR aR aT aP, oP aP aL aN pk, aI aL cI 60 fL, oT aT aB aWK aRE aY aZ tk, aI aB cI 6 fB, aI aWK cI 61 fWK, aI aRE cI 61 fRE] [(0, .ref aR)] 0 [] := by
  have in_X0 : ∀ w ∈ wsX00, w ∈ wsX2_fresh := fun w hw => List.mem_cons_of_mem _ (List.mem_append_left _ (List.mem_append_right _ hw))
  have in_X2 : ∀ w ∈ wsX20, w ∈ wsX2_fresh := fun w hw => List.mem_cons_of_mem _ (List.mem_append_left _ (List.mem_append_left _ (List.mem_append_right _ hw)))
  have k_108 := hts (.fieldLink RX2 108 "RingTasks$Posts" "size" "I") (List.mem_of_getElem? (i := 3) rfl)
  have k_12 := hts (.fieldLink RX2 12 "RingTasks" "task" "LRingTasks$Task;") (List.mem_of_getElem? (i := 1) rfl)
  have k_21 := hts (.fieldLink RX2 21 "RingTasks" "posts" "LRingTasks$Posts;") (List.mem_of_getElem? (i := 2) rfl)
  unfold wp_X2_fresh at h
  intro H locs ls hP hD hS hl
  refine lv_aload_n hx hb dX2_fresh_0 rfl (lv_at hl 0 rfl) ?_
  refine va_get (D := (dC, dI)) (ci := 2) (v := .ref aT) (C := RX2) (T := TX2) (N := 2) hx hb hts in_X2 hown hK hP 0 rfl rfl 0 (by decide) k_12 (fun _ h9 => h9) rfl dX2_fresh_1 ?_
  refine lv_aload_n hx hb dX2_fresh_4 rfl (lv_at hl 0 rfl) ?_
  refine va_get (D := (dC, dI)) (ci := 2) (v := .ref aP) (C := RX2) (T := TX2) (N := 2) hx hb hts in_X2 hown hK hP 0 rfl rfl 1 (by decide) k_21 (fun _ h9 => h9) rfl dX2_fresh_5 ?_
  refine va_get (D := (dC, dI)) (ci := 0) (v := .int pk) (C := RX0) (T := TX0) (N := 3) hx hb hts in_X0 hown hK hP 1 rfl rfl 0 (by decide) k_108 (fun _ h9 => h9) rfl dX2_fresh_8 ?_
  refine mVi (wr := [oR aR aT aP, oP aP aL aN pk, aI aL cI 60 fL]) (As := [.int pk]) (rest := []) ⟨hx, hb, hml, hown, hts⟩ (c_X1_findRing (l := l) (dC := dC) (dI := dI) (cI := cI) (cJ := cJ) (cZ := cZ) (aT := aT) (aB := aB) (aWK := aWK) (aRE := aRE) (aY := aY) (aZ := aZ) h) (cwV 1 hts gX2_fresh_X1_findRing rfl rfl rfl hv_X1_findRing ⟨Nat.le_of_ble_eq_true rfl, Nat.le_of_ble_eq_true rfl⟩) hK hP hD hS hA [3, 4, 5, 6] [0, 1, 2] rfl rfl rfl rfl (by decide) 1 rfl rfl rfl rfl hl.1 rfl (Nat.le_of_ble_eq_true rfl) ⟨Nat.zero_le _, Nat.zero_le _⟩ dX2_fresh_11 (fun r11 u11 H locs h hP hD hS => ?_)
  obtain ⟨fWK_11, fRE_11⟩ := u11
  have hP : va_P (dC, dI) vwCl [oR aR aT aP, oP aP aL aN pk, aI aL cI 60 fL, oT aT aB aWK aRE aY aZ tk, aI aB cI 6 fB, aI aWK cI 61 fWK_11, aI aRE cI 61 fRE_11] H := hP.sub [0, 1, 2, 3, 4, 5, 6] rfl
  have hD : va_D A [oR aR aT aP, oP aP aL aN pk, aI aL cI 60 fL, oT aT aB aWK aRE aY aZ tk, aI aB cI 6 fB, aI aWK cI 61 fWK_11, aI aRE cI 61 fRE_11] := hD.sub [0, 1, 2, 3, 4, 5, 6] rfl rfl
  refine lv_if_ne (tgt := 20) hx hb dX2_fresh_14 (by decide) (fun q14 => ?_) (fun q14 => ?_)
  · have h := h.1 q14
    refine lv_aload_n hx hb dX2_fresh_20 rfl (lv_at hl 0 rfl) ?_
    refine va_get (D := (dC, dI)) (ci := 2) (v := .ref aP) (C := RX2) (T := TX2) (N := 2) hx hb hts in_X2 hown hK hP 0 rfl rfl 1 (by decide) k_21 (fun _ h9 => h9) rfl dX2_fresh_21 ?_
    refine lv_iconst (v := 0) hx hb dX2_fresh_24 (by decide) ?_
    refine lv_aload_n hx hb dX2_fresh_25 rfl (lv_at hl 0 rfl) ?_
    refine va_get (D := (dC, dI)) (ci := 2) (v := .ref aP) (C := RX2) (T := TX2) (N := 2) hx hb hts in_X2 hown hK hP 0 rfl rfl 1 (by decide) k_21 (fun _ h9 => h9) rfl dX2_fresh_26 ?_
    refine va_get (D := (dC, dI)) (ci := 0) (v := .int pk) (C := RX0) (T := TX0) (N := 3) hx hb hts in_X0 hown hK hP 1 rfl rfl 0 (by decide) k_108 (fun _ h9 => h9) rfl dX2_fresh_29 ?_
    refine lv_aload_n hx hb dX2_fresh_32 rfl (lv_at hl 0 rfl) ?_
    refine va_get (D := (dC, dI)) (ci := 2) (v := .ref aT) (C := RX2) (T := TX2) (N := 2) hx hb hts in_X2 hown hK hP 0 rfl rfl 0 (by decide) k_12 (fun _ h9 => h9) rfl dX2_fresh_33 ?_
    refine lv_iconst (v := 0) hx hb dX2_fresh_36 (by decide) ?_
    refine mVv (wr := [oR aR aT aP, aI aB cI 6 fB, aI aRE cI 61 fRE_11]) (As := [.int (0 : Int32), .int pk, .ref aT, .int (0 : Int32)]) (rest := []) ⟨hx, hb, hml, hown, hts⟩ (c_X0_putWalk (l := l) (dC := dC) (dI := dI) (cI := cI) (cJ := cJ) (cZ := cZ) (aP := aP) (aL := aL) (aN := aN) (aT := aT) (aB := aB) (aWK := aWK) (aRE := aRE) (aY := aY) (aZ := aZ) h) (cwV 4 hts gX2_fresh_X0_putWalk rfl rfl rfl hv_X0_putWalk ⟨Nat.le_of_ble_eq_true rfl, Nat.le_of_ble_eq_true rfl⟩) hK hP hD hS hA [1, 2, 3, 5] [0, 4, 6] rfl rfl rfl rfl (by decide) 0 rfl rfl rfl rfl hl.1 rfl (Nat.le_of_ble_eq_true rfl) ⟨Nat.zero_le _, Nat.zero_le _⟩ dX2_fresh_37 (fun fL_37 H locs h hP hD hS => ?_)
    have hP : va_P (dC, dI) vwCl [oR aR aT aP, oP aP aL aN pk, aI aL cI 60 fL_37, oT aT aB aWK aRE aY aZ tk, aI aB cI 6 fB, aI aWK cI 61 fWK_11, aI aRE cI 61 fRE_11] H := hP.sub [0, 3, 4, 5, 1, 6, 2] rfl
    have hD : va_D A [oR aR aT aP, oP aP aL aN pk, aI aL cI 60 fL_37, oT aT aB aWK aRE aY aZ tk, aI aB cI 6 fB, aI aWK cI 61 fWK_11, aI aRE cI 61 fRE_11] := hD.sub [0, 3, 4, 5, 1, 6, 2] rfl rfl
    refine lv_iconst (v := 1) hx hb dX2_fresh_40 (by decide) ?_
    exact ret _ _ _ _ H locs ls _ dX2_fresh_41 h hP hD hS
  · have h := h.2 q14
    refine lv_bipush (v := -9) hx hb dX2_fresh_17 (by decide) ?_
    exact ret _ _ _ _ H locs ls _ dX2_fresh_19 h hP hD hS
set_option maxHeartbeats 4000000 in
set_option maxRecDepth 100000 in
theorem c_X2_fresh {l : Launch} {dC : Nat → ClassId} {dI : Nat → Nat → Nat} {cI cJ cZ : ClassId} {aR aT aP aL aN aB aWK aRE aY aZ : Nat} {pk : Int32} {fL : (Nat → Int32)} {tk : Int32} {fB : (Nat → Int32)} {fWK : (Nat → Int32)} {fRE : (Nat → Int32)}  {post : Int32 → (Nat → Int32) → (Nat → Int32) → (Nat → Int32) → Prop} (h : wp_X2_fresh  pk fL tk fB fWK fRE post) : ∀ sz, Met l yX2_fresh wsX2_fresh rm_X2_fresh (mP (dC, dI) (mTy cI cJ cZ) [.ref aR] [oR aR aT aP, oP aP aL aN pk, aI aL cI 60 fL, oT aT aB aWK aRE aY aZ tk, aI aB cI 6 fB, aI aWK cI 61 fWK, aI aRE cI 61 fRE] sz) (va_Qi (fun (r : Int32) (u : (Nat → Int32) × (Nat → Int32) × (Nat → Int32)) => post r (u.1) (u.2.1) (u.2.2)) (mB (dC, dI) (va_A [oR aR aT aP, oP aP aL aN pk, aI aL cI 60 fL, oT aT aB aWK aRE aY aZ tk, aI aB cI 6 fB, aI aWK cI 61 fWK, aI aRE cI 61 fRE] sz) (fun u => [oR aR aT aP, oP aP aL aN pk, aI aL cI 60 (u.1), oT aT aB aWK aRE aY aZ tk, aI aB cI 6 fB, aI aWK cI 61 (u.2.1), aI aRE cI 61 (u.2.2)])) (va_A [oR aR aT aP, oP aP aL aN pk, aI aL cI 60 fL, oT aT aB aWK aRE aY aZ tk, aI aB cI 6 fB, aI aWK cI 61 fWK, aI aRE cI 61 fRE] sz)) 0 0 (va_A [oR aR aT aP, oP aP aL aN pk, aI aL cI 60 fL, oT aT aB aWK aRE aY aZ tk, aI aB cI 6 fB, aI aWK cI 61 fWK, aI aRE cI 61 fRE] sz) := by
  intro sz
  refine Met.ofW (cc := cX2_fresh) (maxL := 1) (ret := (some .int)) (by decide) rfl ?_
  intro p e s m args below meth c s₁ B hml hv
  obtain ⟨rfl, hsz, hP, hK, hD0⟩ := hv
  have hlocks := B.notSynchronized
  subst hsz
  have hD := hD0.self (sz := s.heap.size)
  have hl := lv_entry ([.ref aR]) (n := 1) (Nat.le_of_ble_eq_true rfl)
  rw [lg_entry_eq]
  exact k_X2_fresh B.exec B.bytes hml (findClass_of_methodNamed B.named) (atoms_spec (ws := wsX2_fresh) B.pre) hK (fun q hq => Or.inr hq) (fun r fL' fWK' fRE' H locs ls pc hd hp hP hD hS => W.iret B.exec B.bytes B.returns (fun t ht hW => ⟨⟨r, (fL', fWK', fRE'), rfl, hp, by rw [ht]; exact hP, hD⟩, hS.F ht⟩) hS.2.2 hd) h s.heap [] _ hP hD va_S.rf hl

def wp_X2_number (x1 : Int32) (x2 : Int32) (pk : Int32) (fN : (Nat → Int32)) (post : Int32 → (Nat → Int32) → Prop) : Prop := wp_X0_has x1 pk (fun (r5 : Int32) => ((¬ r5 = (0 : Int32) → ((x2 < (0 : Int32) → post (-2 : Int32) fN) ∧ (¬ x2 < (0 : Int32) → ((x2 ≤ (1000000000 : Int32) → (vp_in x1 60 ∧ (∀ v35 : Int32, v35 = (fN x1.toNatClampNeg) → (vp_in x1 60 ∧ (∀ fN_45 : (Nat → Int32), fN_45 = upd fN x1.toNatClampNeg x2 → post v35 fN_45))))) ∧ (¬ x2 ≤ (1000000000 : Int32) → post (-2 : Int32) fN))))) ∧ (r5 = (0 : Int32) → post (-1 : Int32) fN)))
abbrev rm_X2_number : Room := { frames := 1, cells := 0, slots := 0, locals := 21 }
theorem hv_X2_number : yX2_number.cls = RX2 ∧ yX2_number.cls ≠ "java/lang/invoke/MethodHandle" ∧ yX2_number.cls ≠ "java/lang/invoke/VarHandle" ∧ (parseMethodDescriptor yX2_number.desc).map (fun d => d.parameters.length) = some 2 := by decide +kernel
set_option maxHeartbeats 4000000 in
set_option maxRecDepth 100000 in
theorem k_X2_number {p : Program} {l : Launch} {e : Env} {s : State} {m : MethodId} {args : Array Value} {below : List Frame} {meth : Method} {c : Code} {Q : State → Prop} {A : Nat → Prop} {dC : Nat → ClassId} {dI : Nat → Nat → Nat} {cI cJ cZ : ClassId} (hx : p.tables.exec = Jvm.exec) (hb : c.code = cX2_number) (hml : c.maxLocals = 4) (hown : s.vm.findClass RX2 = some m.cls) (hts : ∀ w ∈ wsX2_number, w.before args s = true) (hK : va_K (dC, dI) vwCl (mTy cI cJ cZ) s) (hA : ∀ q, s.heap.size ≤ q → A q) {aR aT aP aL aN : Nat} {pk : Int32} {fN : (Nat → Int32)} {x1 : Int32} {x2 : Int32} {post : Int32 → (Nat → Int32) → Prop} (ret : ∀ (r : Int32) (fN' : (Nat → Int32)) (H : Heap) (locs : List Loc) (ls : Array Slot) (pc : Nat), decode cX2_number pc = .ok (.ireturn, 1) → post r fN' → va_P (dC, dI) vwCl [oR aR aT aP, oP aP aL aN pk, aI aN cI 60 fN'] H → va_D A [oR aR aT aP, oP aP aL aN pk, aI aN cI 60 fN'] → va_S A s.heap H locs → W p l e rm_X2_number s m args below meth c H locs 0 0 Q (F0 m pc ls [.int r])) (h : wp_X2_number x1 x2 pk fN post) : mW p l e rm_X2_number s m args below meth c 0 0 Q A (dC, dI) 4 [oR aR aT aP, oP aP aL aN pk, aI aN cI 60 fN] [(0, .ref aR), (1, .int x1), (2, .int x2)] 0 [] := by
  have in_X0 : ∀ w ∈ wsX00, w ∈ wsX2_number := fun w hw => List.mem_cons_of_mem _ (List.mem_append_right _ hw)
  have in_X2 : ∀ w ∈ wsX20, w ∈ wsX2_number := fun w hw => List.mem_cons_of_mem _ (List.mem_append_left _ (List.mem_append_right _ hw))
  have k_129 := hts (.constant RX2 129 (1000000000)) (List.mem_of_getElem? (i := 2) rfl)
  have k_130 := hts (.fieldLink RX2 130 "RingTasks$Posts" "number" "[I") (List.mem_of_getElem? (i := 3) rfl)
  have k_21 := hts (.fieldLink RX2 21 "RingTasks" "posts" "LRingTasks$Posts;") (List.mem_of_getElem? (i := 1) rfl)
  unfold wp_X2_number at h
  intro H locs ls hP hD hS hl
  refine lv_aload_n hx hb dX2_number_0 rfl (lv_at hl 0 rfl) ?_
  refine va_get (D := (dC, dI)) (ci := 2) (v := .ref aP) (C := RX2) (T := TX2) (N := 2) hx hb hts in_X2 hown hK hP 0 rfl rfl 1 (by decide) k_21 (fun _ h9 => h9) rfl dX2_number_1 ?_
  refine lv_iload_n hx hb dX2_number_4 rfl (lv_at hl 1 rfl) ?_
  refine mVi (wr := [oR aR aT aP, aI aN cI 60 fN]) (As := [.int x1]) (rest := []) ⟨hx, hb, hml, hown, hts⟩ (c_X0_has (l := l) (dC := dC) (dI := dI) (cI := cI) (cJ := cJ) (cZ := cZ) (aP := aP) (aL := aL) (aN := aN) h) (cwV 1 hts gX2_number_X0_has rfl rfl rfl hv_X0_has ⟨Nat.le_of_ble_eq_true rfl, Nat.le_of_ble_eq_true rfl⟩) hK hP hD hS hA [1] [0, 2] rfl rfl rfl rfl (by decide) 0 rfl rfl rfl rfl hl.1 rfl (Nat.le_of_ble_eq_true rfl) ⟨Nat.zero_le _, Nat.zero_le _⟩ dX2_number_5 (fun r5 u5 H locs h hP hD hS => ?_)
  have hP : va_P (dC, dI) vwCl [oR aR aT aP, oP aP aL aN pk, aI aN cI 60 fN] H := hP.sub [0, 2, 1] rfl
  have hD : va_D A [oR aR aT aP, oP aP aL aN pk, aI aN cI 60 fN] := hD.sub [0, 2, 1] rfl rfl
  refine lv_if_ne (tgt := 13) hx hb dX2_number_8 (by decide) (fun q8 => ?_) (fun q8 => ?_)
  · have h := h.1 q8
    refine lv_iload_n hx hb dX2_number_13 rfl (lv_at hl 2 rfl) ?_
    refine lv_if_lt (tgt := 23) hx hb dX2_number_14 (by decide) (fun q14 => ?_) (fun q14 => ?_)
    · have h := h.1 q14
      refine lv_bipush (v := -2) hx hb dX2_number_23 (by decide) ?_
      exact ret _ _ H locs ls _ dX2_number_25 h hP hD hS
    · have h := h.2 q14
      refine lv_iload_n hx hb dX2_number_17 rfl (lv_at hl 2 rfl) ?_
      refine lv_ldc (v := 1000000000) hx hb hown k_129 dX2_number_18 ?_
      refine lv_icmp_le (tgt := 26) hx hb dX2_number_20 (by decide) (fun q20 => ?_) (fun q20 => ?_)
      · have h := h.1 q20
        refine lv_aload_n hx hb dX2_number_26 rfl (lv_at hl 0 rfl) ?_
        refine va_get (D := (dC, dI)) (ci := 2) (v := .ref aP) (C := RX2) (T := TX2) (N := 2) hx hb hts in_X2 hown hK hP 0 rfl rfl 1 (by decide) k_21 (fun _ h9 => h9) rfl dX2_number_27 ?_
        refine va_get (D := (dC, dI)) (ci := 0) (v := .ref aN) (C := RX0) (T := TX0) (N := 3) hx hb hts in_X0 hown hK hP 1 rfl rfl 2 (by decide) k_130 (fun _ h9 => h9) rfl dX2_number_30 ?_
        refine lv_iload_n hx hb dX2_number_33 rfl (lv_at hl 1 rfl) ?_
        refine va_iald (D := (dC, dI)) hx hb hK hP 2 0 rfl rfl h.1 dX2_number_34 ?_
        have h := h.2
        refine lv_topi (fun v35 ev35 => ?_)
        have h := h v35 ev35
        refine lv_istore_n (lv' := [(3, .int v35), (0, .ref aR), (1, .int x1), (2, .int x2)]) hx hb dX2_number_35 rfl hl (by decide) rfl (fun ls hl => ?_)
        refine lv_aload_n hx hb dX2_number_36 rfl (lv_at hl 1 rfl) ?_
        refine va_get (D := (dC, dI)) (ci := 2) (v := .ref aP) (C := RX2) (T := TX2) (N := 2) hx hb hts in_X2 hown hK hP 0 rfl rfl 1 (by decide) k_21 (fun _ h9 => h9) rfl dX2_number_37 ?_
        refine va_get (D := (dC, dI)) (ci := 0) (v := .ref aN) (C := RX0) (T := TX0) (N := 3) hx hb hts in_X0 hown hK hP 1 rfl rfl 2 (by decide) k_130 (fun _ h9 => h9) rfl dX2_number_40 ?_
        refine lv_iload_n hx hb dX2_number_43 rfl (lv_at hl 2 rfl) ?_
        refine lv_iload_n hx hb dX2_number_44 rfl (lv_at hl 3 rfl) ?_
        refine va_iast (D := (dC, dI)) hx hb hK hP hD hS 2 0 rfl rfl h.1 dX2_number_45 (fun H locs hP hD hS => ?_)
        obtain ⟨fN_45, efN_45⟩ : ∃ y, y = upd fN x1.toNatClampNeg x2 := ⟨_, rfl⟩
        have h := h.2 fN_45 efN_45
        have hP : va_P (dC, dI) vwCl [oR aR aT aP, oP aP aL aN pk, aI aN cI 60 fN_45] H := by rw [efN_45]; exact hP
        have hD : va_D A [oR aR aT aP, oP aP aL aN pk, aI aN cI 60 fN_45] := by rw [efN_45]; exact hD
        refine lv_iload_n hx hb dX2_number_46 rfl (lv_at hl 0 rfl) ?_
        exact ret _ _ H locs ls _ dX2_number_47 h hP hD hS
      · have h := h.2 q20
        refine lv_bipush (v := -2) hx hb dX2_number_23 (by decide) ?_
        exact ret _ _ H locs ls _ dX2_number_25 h hP hD hS
  · have h := h.2 q8
    refine lv_iconst (v := -1) hx hb dX2_number_11 (by decide) ?_
    exact ret _ _ H locs ls _ dX2_number_12 h hP hD hS
set_option maxHeartbeats 4000000 in
set_option maxRecDepth 100000 in
theorem c_X2_number {l : Launch} {dC : Nat → ClassId} {dI : Nat → Nat → Nat} {cI cJ cZ : ClassId} {aR aT aP aL aN : Nat} {pk : Int32} {fN : (Nat → Int32)} {x1 : Int32} {x2 : Int32} {post : Int32 → (Nat → Int32) → Prop} (h : wp_X2_number x1 x2 pk fN post) : ∀ sz, Met l yX2_number wsX2_number rm_X2_number (mP (dC, dI) (mTy cI cJ cZ) [.ref aR, .int x1, .int x2] [oR aR aT aP, oP aP aL aN pk, aI aN cI 60 fN] sz) (va_Qi (fun (r : Int32) (u : (Nat → Int32)) => post r u) (mB (dC, dI) (va_A [oR aR aT aP, oP aP aL aN pk, aI aN cI 60 fN] sz) (fun u => [oR aR aT aP, oP aP aL aN pk, aI aN cI 60 u])) (va_A [oR aR aT aP, oP aP aL aN pk, aI aN cI 60 fN] sz)) 0 0 (va_A [oR aR aT aP, oP aP aL aN pk, aI aN cI 60 fN] sz) := by
  intro sz
  refine Met.ofW (cc := cX2_number) (maxL := 4) (ret := (some .int)) (by decide) rfl ?_
  intro p e s m args below meth c s₁ B hml hv
  obtain ⟨rfl, hsz, hP, hK, hD0⟩ := hv
  have hlocks := B.notSynchronized
  subst hsz
  have hD := hD0.self (sz := s.heap.size)
  have hl := lv_entry ([.ref aR, .int x1, .int x2]) (n := 4) (Nat.le_of_ble_eq_true rfl)
  rw [lg_entry_eq]
  exact k_X2_number B.exec B.bytes hml (findClass_of_methodNamed B.named) (atoms_spec (ws := wsX2_number) B.pre) hK (fun q hq => Or.inr hq) (fun r fN' H locs ls pc hd hp hP hD hS => W.iret B.exec B.bytes B.returns (fun t ht hW => ⟨⟨r, fN', rfl, hp, by rw [ht]; exact hP, hD⟩, hS.F ht⟩) hS.2.2 hd) h s.heap [] _ hP hD va_S.rf hl

def wp_X2_told (x1 : Int32) (pk : Int32) (fN : (Nat → Int32)) (post : Int32 → Prop) : Prop := wp_X0_has x1 pk (fun (r5 : Int32) => ((r5 = (0 : Int32) → post (-1 : Int32)) ∧ (¬ r5 = (0 : Int32) → (vp_in x1 60 ∧ post (fN x1.toNatClampNeg)))))
abbrev rm_X2_told : Room := { frames := 1, cells := 0, slots := 0, locals := 21 }
theorem hv_X2_told : yX2_told.cls = RX2 ∧ yX2_told.cls ≠ "java/lang/invoke/MethodHandle" ∧ yX2_told.cls ≠ "java/lang/invoke/VarHandle" ∧ (parseMethodDescriptor yX2_told.desc).map (fun d => d.parameters.length) = some 1 := by decide +kernel
set_option maxHeartbeats 4000000 in
set_option maxRecDepth 100000 in
theorem k_X2_told {p : Program} {l : Launch} {e : Env} {s : State} {m : MethodId} {args : Array Value} {below : List Frame} {meth : Method} {c : Code} {Q : State → Prop} {A : Nat → Prop} {dC : Nat → ClassId} {dI : Nat → Nat → Nat} {cI cJ cZ : ClassId} (hx : p.tables.exec = Jvm.exec) (hb : c.code = cX2_told) (hml : c.maxLocals = 2) (hown : s.vm.findClass RX2 = some m.cls) (hts : ∀ w ∈ wsX2_told, w.before args s = true) (hK : va_K (dC, dI) vwCl (mTy cI cJ cZ) s) (hA : ∀ q, s.heap.size ≤ q → A q) {aR aT aP aL aN : Nat} {pk : Int32} {fN : (Nat → Int32)} {x1 : Int32} {post : Int32 → Prop} (ret : ∀ (r : Int32) (H : Heap) (locs : List Loc) (ls : Array Slot) (pc : Nat), decode cX2_told pc = .ok (.ireturn, 1) → post r → va_P (dC, dI) vwCl [oR aR aT aP, oP aP aL aN pk, aI aN cI 60 fN] H → va_D A [oR aR aT aP, oP aP aL aN pk, aI aN cI 60 fN] → va_S A s.heap H locs → W p l e rm_X2_told s m args below meth c H locs 0 0 Q (F0 m pc ls [.int r])) (h : wp_X2_told x1 pk fN post) : mW p l e rm_X2_told s m args below meth c 0 0 Q A (dC, dI) 2 [oR aR aT aP, oP aP aL aN pk, aI aN cI 60 fN] [(0, .ref aR), (1, .int x1)] 0 [] := by
  have in_X0 : ∀ w ∈ wsX00, w ∈ wsX2_told := fun w hw => List.mem_cons_of_mem _ (List.mem_append_right _ hw)
  have in_X2 : ∀ w ∈ wsX20, w ∈ wsX2_told := fun w hw => List.mem_cons_of_mem _ (List.mem_append_left _ (List.mem_append_right _ hw))
  have k_130 := hts (.fieldLink RX2 130 "RingTasks$Posts" "number" "[I") (List.mem_of_getElem? (i := 2) rfl)
  have k_21 := hts (.fieldLink RX2 21 "RingTasks" "posts" "LRingTasks$Posts;") (List.mem_of_getElem? (i := 1) rfl)
  unfold wp_X2_told at h
  intro H locs ls hP hD hS hl
  refine lv_aload_n hx hb dX2_told_0 rfl (lv_at hl 0 rfl) ?_
  refine va_get (D := (dC, dI)) (ci := 2) (v := .ref aP) (C := RX2) (T := TX2) (N := 2) hx hb hts in_X2 hown hK hP 0 rfl rfl 1 (by decide) k_21 (fun _ h9 => h9) rfl dX2_told_1 ?_
  refine lv_iload_n hx hb dX2_told_4 rfl (lv_at hl 1 rfl) ?_
  refine mVi (wr := [oR aR aT aP, aI aN cI 60 fN]) (As := [.int x1]) (rest := []) ⟨hx, hb, hml, hown, hts⟩ (c_X0_has (l := l) (dC := dC) (dI := dI) (cI := cI) (cJ := cJ) (cZ := cZ) (aP := aP) (aL := aL) (aN := aN) h) (cwV 1 hts gX2_told_X0_has rfl rfl rfl hv_X0_has ⟨Nat.le_of_ble_eq_true rfl, Nat.le_of_ble_eq_true rfl⟩) hK hP hD hS hA [1] [0, 2] rfl rfl rfl rfl (by decide) 0 rfl rfl rfl rfl hl.1 rfl (Nat.le_of_ble_eq_true rfl) ⟨Nat.zero_le _, Nat.zero_le _⟩ dX2_told_5 (fun r5 u5 H locs h hP hD hS => ?_)
  have hP : va_P (dC, dI) vwCl [oR aR aT aP, oP aP aL aN pk, aI aN cI 60 fN] H := hP.sub [0, 2, 1] rfl
  have hD : va_D A [oR aR aT aP, oP aP aL aN pk, aI aN cI 60 fN] := hD.sub [0, 2, 1] rfl rfl
  refine lv_if_eq (tgt := 23) hx hb dX2_told_8 (by decide) (fun q8 => ?_) (fun q8 => ?_)
  · have h := h.1 q8
    refine lv_iconst (v := -1) hx hb dX2_told_23 (by decide) ?_
    exact ret _  H locs ls _ dX2_told_24 h hP hD hS
  · have h := h.2 q8
    refine lv_aload_n hx hb dX2_told_11 rfl (lv_at hl 0 rfl) ?_
    refine va_get (D := (dC, dI)) (ci := 2) (v := .ref aP) (C := RX2) (T := TX2) (N := 2) hx hb hts in_X2 hown hK hP 0 rfl rfl 1 (by decide) k_21 (fun _ h9 => h9) rfl dX2_told_12 ?_
    refine va_get (D := (dC, dI)) (ci := 0) (v := .ref aN) (C := RX0) (T := TX0) (N := 3) hx hb hts in_X0 hown hK hP 1 rfl rfl 2 (by decide) k_130 (fun _ h9 => h9) rfl dX2_told_15 ?_
    refine lv_iload_n hx hb dX2_told_18 rfl (lv_at hl 1 rfl) ?_
    refine va_iald (D := (dC, dI)) hx hb hK hP 2 0 rfl rfl h.1 dX2_told_19 ?_
    have h := h.2
    refine lv_goto (tgt := 24) hx hb dX2_told_20 (by decide) ?_
    exact ret _  H locs ls _ dX2_told_24 h hP hD hS
set_option maxHeartbeats 4000000 in
set_option maxRecDepth 100000 in
theorem c_X2_told {l : Launch} {dC : Nat → ClassId} {dI : Nat → Nat → Nat} {cI cJ cZ : ClassId} {aR aT aP aL aN : Nat} {pk : Int32} {fN : (Nat → Int32)} {x1 : Int32} {post : Int32 → Prop} (h : wp_X2_told x1 pk fN post) : ∀ sz, Met l yX2_told wsX2_told rm_X2_told (mP (dC, dI) (mTy cI cJ cZ) [.ref aR, .int x1] [oR aR aT aP, oP aP aL aN pk, aI aN cI 60 fN] sz) (va_Qi (fun (r : Int32) (u : Unit) => post r ) (mB (dC, dI) (va_A [oR aR aT aP, oP aP aL aN pk, aI aN cI 60 fN] sz) (fun u => [oR aR aT aP, oP aP aL aN pk, aI aN cI 60 fN])) (va_A [oR aR aT aP, oP aP aL aN pk, aI aN cI 60 fN] sz)) 0 0 (va_A [oR aR aT aP, oP aP aL aN pk, aI aN cI 60 fN] sz) := by
  intro sz
  refine Met.ofW (cc := cX2_told) (maxL := 2) (ret := (some .int)) (by decide) rfl ?_
  intro p e s m args below meth c s₁ B hml hv
  obtain ⟨rfl, hsz, hP, hK, hD0⟩ := hv
  have hlocks := B.notSynchronized
  subst hsz
  have hD := hD0.self (sz := s.heap.size)
  have hl := lv_entry ([.ref aR, .int x1]) (n := 2) (Nat.le_of_ble_eq_true rfl)
  rw [lg_entry_eq]
  exact k_X2_told B.exec B.bytes hml (findClass_of_methodNamed B.named) (atoms_spec (ws := wsX2_told) B.pre) hK (fun q hq => Or.inr hq) (fun r H locs ls pc hd hp hP hD hS => W.iret B.exec B.bytes B.returns (fun t ht hW => ⟨⟨r, (), rfl, hp, by rw [ht]; exact hP, hD⟩, hS.F ht⟩) hS.2.2 hd) h s.heap [] _ hP hD va_S.rf hl

def wp_X2_round  (pk : Int32) (fN : (Nat → Int32)) (post : Int32 → (Nat → Int32) → Prop) : Prop := wp_X0_likeNeighbours pk fN (fun (r4 : Int32) => ((r4 ≤ (0 : Int32) → wp_X0_doRound pk fN (fun (fN_17 : (Nat → Int32)) => wp_X0_greatestNumber pk fN_17 (fun (r24 : Int32) => post r24 fN_17))) ∧ (¬ r4 ≤ (0 : Int32) → post (-3 : Int32) fN)))
abbrev rm_X2_round : Room := { frames := 3, cells := 0, slots := 0, locals := 66 }
theorem hv_X2_round : yX2_round.cls = RX2 ∧ yX2_round.cls ≠ "java/lang/invoke/MethodHandle" ∧ yX2_round.cls ≠ "java/lang/invoke/VarHandle" ∧ (parseMethodDescriptor yX2_round.desc).map (fun d => d.parameters.length) = some 0 := by decide +kernel
set_option maxHeartbeats 4000000 in
set_option maxRecDepth 100000 in
theorem k_X2_round {p : Program} {l : Launch} {e : Env} {s : State} {m : MethodId} {args : Array Value} {below : List Frame} {meth : Method} {c : Code} {Q : State → Prop} {A : Nat → Prop} {dC : Nat → ClassId} {dI : Nat → Nat → Nat} {cI cJ cZ : ClassId} (hx : p.tables.exec = Jvm.exec) (hb : c.code = cX2_round) (hml : c.maxLocals = 1) (hown : s.vm.findClass RX2 = some m.cls) (hts : ∀ w ∈ wsX2_round, w.before args s = true) (hK : va_K (dC, dI) vwCl (mTy cI cJ cZ) s) (hA : ∀ q, s.heap.size ≤ q → A q) {aR aT aP aL aN : Nat} {pk : Int32} {fN : (Nat → Int32)}  {post : Int32 → (Nat → Int32) → Prop} (ret : ∀ (r : Int32) (fN' : (Nat → Int32)) (H : Heap) (locs : List Loc) (ls : Array Slot) (pc : Nat), decode cX2_round pc = .ok (.ireturn, 1) → post r fN' → va_P (dC, dI) vwCl [oR aR aT aP, oP aP aL aN pk, aI aN cI 60 fN'] H → va_D A [oR aR aT aP, oP aP aL aN pk, aI aN cI 60 fN'] → va_S A s.heap H locs → W p l e rm_X2_round s m args below meth c H locs 0 0 Q (F0 m pc ls [.int r])) (h : wp_X2_round  pk fN post) : mW p l e rm_X2_round s m args below meth c 0 0 Q A (dC, dI) 1 [oR aR aT aP, oP aP aL aN pk, aI aN cI 60 fN] [(0, .ref aR)] 0 [] := by
  have in_X2 : ∀ w ∈ wsX20, w ∈ wsX2_round := fun w hw => List.mem_cons_of_mem _ (List.mem_append_left _ (List.mem_append_right _ hw))
  have k_21 := hts (.fieldLink RX2 21 "RingTasks" "posts" "LRingTasks$Posts;") (List.mem_of_getElem? (i := 1) rfl)
  unfold wp_X2_round at h
  intro H locs ls hP hD hS hl
  refine lv_aload_n hx hb dX2_round_0 rfl (lv_at hl 0 rfl) ?_
  refine va_get (D := (dC, dI)) (ci := 2) (v := .ref aP) (C := RX2) (T := TX2) (N := 2) hx hb hts in_X2 hown hK hP 0 rfl rfl 1 (by decide) k_21 (fun _ h9 => h9) rfl dX2_round_1 ?_
  refine mVi (wr := [oR aR aT aP]) (As := []) (rest := []) ⟨hx, hb, hml, hown, hts⟩ (c_X0_likeNeighbours (l := l) (dC := dC) (dI := dI) (cI := cI) (cJ := cJ) (cZ := cZ) (aP := aP) (aL := aL) (aN := aN) h) (cwV 0 hts gX2_round_X0_likeNeighbours rfl rfl rfl hv_X0_likeNeighbours ⟨Nat.le_of_ble_eq_true rfl, Nat.le_of_ble_eq_true rfl⟩) hK hP hD hS hA [1, 2] [0] rfl rfl rfl rfl (by decide) 0 rfl rfl rfl rfl hl.1 rfl (Nat.le_of_ble_eq_true rfl) ⟨Nat.zero_le _, Nat.zero_le _⟩ dX2_round_4 (fun r4 u4 H locs h hP hD hS => ?_)
  have hP : va_P (dC, dI) vwCl [oR aR aT aP, oP aP aL aN pk, aI aN cI 60 fN] H := hP.sub [0, 1, 2] rfl
  have hD : va_D A [oR aR aT aP, oP aP aL aN pk, aI aN cI 60 fN] := hD.sub [0, 1, 2] rfl rfl
  refine lv_if_le (tgt := 13) hx hb dX2_round_7 (by decide) (fun q7 => ?_) (fun q7 => ?_)
  · have h := h.1 q7
    refine lv_aload_n hx hb dX2_round_13 rfl (lv_at hl 0 rfl) ?_
    refine va_get (D := (dC, dI)) (ci := 2) (v := .ref aP) (C := RX2) (T := TX2) (N := 2) hx hb hts in_X2 hown hK hP 0 rfl rfl 1 (by decide) k_21 (fun _ h9 => h9) rfl dX2_round_14 ?_
    refine mVv (wr := [oR aR aT aP]) (As := []) (rest := []) ⟨hx, hb, hml, hown, hts⟩ (c_X0_doRound (l := l) (dC := dC) (dI := dI) (cI := cI) (cJ := cJ) (cZ := cZ) (aP := aP) (aL := aL) (aN := aN) h) (cwV 0 hts gX2_round_X0_doRound rfl rfl rfl hv_X0_doRound ⟨Nat.le_of_ble_eq_true rfl, Nat.le_of_ble_eq_true rfl⟩) hK hP hD hS hA [1, 2] [0] rfl rfl rfl rfl (by decide) 0 rfl rfl rfl rfl hl.1 rfl (Nat.le_of_ble_eq_true rfl) ⟨Nat.zero_le _, Nat.zero_le _⟩ dX2_round_17 (fun fN_17 H locs h hP hD hS => ?_)
    have hP : va_P (dC, dI) vwCl [oR aR aT aP, oP aP aL aN pk, aI aN cI 60 fN_17] H := hP.sub [0, 1, 2] rfl
    have hD : va_D A [oR aR aT aP, oP aP aL aN pk, aI aN cI 60 fN_17] := hD.sub [0, 1, 2] rfl rfl
    refine lv_aload_n hx hb dX2_round_20 rfl (lv_at hl 0 rfl) ?_
    refine va_get (D := (dC, dI)) (ci := 2) (v := .ref aP) (C := RX2) (T := TX2) (N := 2) hx hb hts in_X2 hown hK hP 0 rfl rfl 1 (by decide) k_21 (fun _ h9 => h9) rfl dX2_round_21 ?_
    refine mVi (wr := [oR aR aT aP]) (As := []) (rest := []) ⟨hx, hb, hml, hown, hts⟩ (c_X0_greatestNumber (l := l) (dC := dC) (dI := dI) (cI := cI) (cJ := cJ) (cZ := cZ) (aP := aP) (aL := aL) (aN := aN) h) (cwV 0 hts gX2_round_X0_greatestNumber rfl rfl rfl hv_X0_greatestNumber ⟨Nat.le_of_ble_eq_true rfl, Nat.le_of_ble_eq_true rfl⟩) hK hP hD hS hA [1, 2] [0] rfl rfl rfl rfl (by decide) 0 rfl rfl rfl rfl hl.1 rfl (Nat.le_of_ble_eq_true rfl) ⟨Nat.zero_le _, Nat.zero_le _⟩ dX2_round_24 (fun r24 u24 H locs h hP hD hS => ?_)
    have hP : va_P (dC, dI) vwCl [oR aR aT aP, oP aP aL aN pk, aI aN cI 60 fN_17] H := hP.sub [0, 1, 2] rfl
    have hD : va_D A [oR aR aT aP, oP aP aL aN pk, aI aN cI 60 fN_17] := hD.sub [0, 1, 2] rfl rfl
    exact ret _ _ H locs ls _ dX2_round_27 h hP hD hS
  · have h := h.2 q7
    refine lv_bipush (v := -3) hx hb dX2_round_10 (by decide) ?_
    exact ret _ _ H locs ls _ dX2_round_12 h hP hD hS
set_option maxHeartbeats 4000000 in
set_option maxRecDepth 100000 in
theorem c_X2_round {l : Launch} {dC : Nat → ClassId} {dI : Nat → Nat → Nat} {cI cJ cZ : ClassId} {aR aT aP aL aN : Nat} {pk : Int32} {fN : (Nat → Int32)}  {post : Int32 → (Nat → Int32) → Prop} (h : wp_X2_round  pk fN post) : ∀ sz, Met l yX2_round wsX2_round rm_X2_round (mP (dC, dI) (mTy cI cJ cZ) [.ref aR] [oR aR aT aP, oP aP aL aN pk, aI aN cI 60 fN] sz) (va_Qi (fun (r : Int32) (u : (Nat → Int32)) => post r u) (mB (dC, dI) (va_A [oR aR aT aP, oP aP aL aN pk, aI aN cI 60 fN] sz) (fun u => [oR aR aT aP, oP aP aL aN pk, aI aN cI 60 u])) (va_A [oR aR aT aP, oP aP aL aN pk, aI aN cI 60 fN] sz)) 0 0 (va_A [oR aR aT aP, oP aP aL aN pk, aI aN cI 60 fN] sz) := by
  intro sz
  refine Met.ofW (cc := cX2_round) (maxL := 1) (ret := (some .int)) (by decide) rfl ?_
  intro p e s m args below meth c s₁ B hml hv
  obtain ⟨rfl, hsz, hP, hK, hD0⟩ := hv
  have hlocks := B.notSynchronized
  subst hsz
  have hD := hD0.self (sz := s.heap.size)
  have hl := lv_entry ([.ref aR]) (n := 1) (Nat.le_of_ble_eq_true rfl)
  rw [lg_entry_eq]
  exact k_X2_round B.exec B.bytes hml (findClass_of_methodNamed B.named) (atoms_spec (ws := wsX2_round) B.pre) hK (fun q hq => Or.inr hq) (fun r fN' H locs ls pc hd hp hP hD hS => W.iret B.exec B.bytes B.returns (fun t ht hW => ⟨⟨r, fN', rfl, hp, by rw [ht]; exact hP, hD⟩, hS.F ht⟩) hS.2.2 hd) h s.heap [] _ hP hD va_S.rf hl

def wp_X2_colours_b47 (x1 : Int32) (x2 : Int32) (pk : Int32) (fN : (Nat → Int32)) (post : Int32 → (Nat → Int32) → Prop)  : Prop := ∀ P47 : Int32 → (Nat → Int32) → Prop, (∀ (x2 : Int32) (fN : (Nat → Int32)), ((x2 ≤ (2 : Int32) → post x1 fN) ∧ (¬ x2 ≤ (2 : Int32) → wp_X0_giveUpColour x2 pk fN (fun (fN_57 : (Nat → Int32)) => (∀ v60 : Int32, v60 = x2 + (-1 : Int32) → P47 v60 fN_57)))) → P47 x2 fN) → P47 x2 fN
def wp_X2_colours_b15 (x1 : Int32) (pk : Int32) (fN : (Nat → Int32)) (post : Int32 → (Nat → Int32) → Prop)  : Prop := ∀ P15 : Int32 → (Nat → Int32) → Prop, (∀ (x1 : Int32) (fN : (Nat → Int32)), (((100 : Int32) ≤ x1 → wp_X2_colours_b47 x1 (5 : Int32) pk fN post) ∧ (¬ (100 : Int32) ≤ x1 → wp_X0_greatestNumber pk fN (fun (r25 : Int32) => ((r25 ≤ (5 : Int32) → wp_X2_colours_b47 x1 (5 : Int32) pk fN post) ∧ (¬ r25 ≤ (5 : Int32) → wp_X0_doRound pk fN (fun (fN_36 : (Nat → Int32)) => (∀ v39 : Int32, v39 = x1 + (1 : Int32) → P15 v39 fN_36))))))) → P15 x1 fN) → P15 x1 fN
def wp_X2_colours  (pk : Int32) (fN : (Nat → Int32)) (post : Int32 → (Nat → Int32) → Prop) : Prop := wp_X0_likeNeighbours pk fN (fun (r4 : Int32) => ((r4 ≤ (0 : Int32) → wp_X2_colours_b15 (0 : Int32) pk fN post) ∧ (¬ r4 ≤ (0 : Int32) → post (-3 : Int32) fN)))
abbrev rm_X2_colours : Room := { frames := 3, cells := 0, slots := 0, locals := 66 }
theorem hv_X2_colours : yX2_colours.cls = RX2 ∧ yX2_colours.cls ≠ "java/lang/invoke/MethodHandle" ∧ yX2_colours.cls ≠ "java/lang/invoke/VarHandle" ∧ (parseMethodDescriptor yX2_colours.desc).map (fun d => d.parameters.length) = some 0 := by decide +kernel
set_option maxHeartbeats 4000000 in
set_option maxRecDepth 100000 in
theorem k_X2_colours {p : Program} {l : Launch} {e : Env} {s : State} {m : MethodId} {args : Array Value} {below : List Frame} {meth : Method} {c : Code} {Q : State → Prop} {A : Nat → Prop} {dC : Nat → ClassId} {dI : Nat → Nat → Nat} {cI cJ cZ : ClassId} (hx : p.tables.exec = Jvm.exec) (hb : c.code = cX2_colours) (hml : c.maxLocals = 3) (hown : s.vm.findClass RX2 = some m.cls) (hts : ∀ w ∈ wsX2_colours, w.before args s = true) (hK : va_K (dC, dI) vwCl (mTy cI cJ cZ) s) (hA : ∀ q, s.heap.size ≤ q → A q) {aR aT aP aL aN : Nat} {pk : Int32} {fN : (Nat → Int32)}  {post : Int32 → (Nat → Int32) → Prop} (ret : ∀ (r : Int32) (fN' : (Nat → Int32)) (H : Heap) (locs : List Loc) (ls : Array Slot) (pc : Nat), decode cX2_colours pc = .ok (.ireturn, 1) → post r fN' → va_P (dC, dI) vwCl [oR aR aT aP, oP aP aL aN pk, aI aN cI 60 fN'] H → va_D A [oR aR aT aP, oP aP aL aN pk, aI aN cI 60 fN'] → va_S A s.heap H locs → W p l e rm_X2_colours s m args below meth c H locs 0 0 Q (F0 m pc ls [.int r])) (h : wp_X2_colours  pk fN post) : mW p l e rm_X2_colours s m args below meth c 0 0 Q A (dC, dI) 3 [oR aR aT aP, oP aP aL aN pk, aI aN cI 60 fN] [(0, .ref aR)] 0 [] := by
  have in_X2 : ∀ w ∈ wsX20, w ∈ wsX2_colours := fun w hw => List.mem_cons_of_mem _ (List.mem_append_left _ (List.mem_append_right _ hw))
  have k_21 := hts (.fieldLink RX2 21 "RingTasks" "posts" "LRingTasks$Posts;") (List.mem_of_getElem? (i := 1) rfl)
  have B47 : ∀ (x1 : Int32) (x2 : Int32) (fN : (Nat → Int32)), wp_X2_colours_b47 x1 x2 pk fN post → mW p l e rm_X2_colours s m args below meth c 0 0 Q A (dC, dI) 3 [oR aR aT aP, oP aP aL aN pk, aI aN cI 60 fN] [(0, .ref aR), (1, .int x1), (2, .int x2)] 47 [] := by
    intro x1 x2 fN h
    unfold wp_X2_colours_b47 at h
    refine h (fun (x2 : Int32) (fN : (Nat → Int32)) => mW p l e rm_X2_colours s m args below meth c 0 0 Q A (dC, dI) 3 [oR aR aT aP, oP aP aL aN pk, aI aN cI 60 fN] [(0, .ref aR), (1, .int x1), (2, .int x2)] 47 []) ?_
    intro x2 fN h
    intro H locs ls hP hD hS hl
    refine lv_iload_n hx hb dX2_colours_47 rfl (lv_at hl 2 rfl) ?_
    refine lv_iconst (v := 2) hx hb dX2_colours_48 (by decide) ?_
    refine lv_icmp_le (tgt := 66) hx hb dX2_colours_49 (by decide) (fun q49 => ?_) (fun q49 => ?_)
    · have h := h.1 q49
      refine lv_iload_n hx hb dX2_colours_66 rfl (lv_at hl 1 rfl) ?_
      exact ret _ _ H locs ls _ dX2_colours_67 h hP hD hS
    · have h := h.2 q49
      refine lv_aload_n hx hb dX2_colours_52 rfl (lv_at hl 0 rfl) ?_
      refine va_get (D := (dC, dI)) (ci := 2) (v := .ref aP) (C := RX2) (T := TX2) (N := 2) hx hb hts in_X2 hown hK hP 0 rfl rfl 1 (by decide) k_21 (fun _ h9 => h9) rfl dX2_colours_53 ?_
      refine lv_iload_n hx hb dX2_colours_56 rfl (lv_at hl 2 rfl) ?_
      refine mVv (wr := [oR aR aT aP]) (As := [.int x2]) (rest := []) ⟨hx, hb, hml, hown, hts⟩ (c_X0_giveUpColour (l := l) (dC := dC) (dI := dI) (cI := cI) (cJ := cJ) (cZ := cZ) (aP := aP) (aL := aL) (aN := aN) h) (cwV 1 hts gX2_colours_X0_giveUpColour rfl rfl rfl hv_X0_giveUpColour ⟨Nat.le_of_ble_eq_true rfl, Nat.le_of_ble_eq_true rfl⟩) hK hP hD hS hA [1, 2] [0] rfl rfl rfl rfl (by decide) 0 rfl rfl rfl rfl hl.1 rfl (Nat.le_of_ble_eq_true rfl) ⟨Nat.zero_le _, Nat.zero_le _⟩ dX2_colours_57 (fun fN_57 H locs h hP hD hS => ?_)
      have hP : va_P (dC, dI) vwCl [oR aR aT aP, oP aP aL aN pk, aI aN cI 60 fN_57] H := hP.sub [0, 1, 2] rfl
      have hD : va_D A [oR aR aT aP, oP aP aL aN pk, aI aN cI 60 fN_57] := hD.sub [0, 1, 2] rfl rfl
      obtain ⟨v60, ev60⟩ : ∃ y : Int32, y = x2 + (-1 : Int32) := ⟨_, rfl⟩
      have h := h v60 ev60
      refine lv_iinc (v := v60) (lv' := [(2, .int v60), (0, .ref aR), (1, .int x1)]) hx hb dX2_colours_60 hl (k := 2) rfl (by rw [ev60]; rfl) (by decide) rfl (fun ls hl => ?_)
      refine lv_goto (tgt := 47) hx hb dX2_colours_63 (by decide) ?_
      exact h H locs ls hP hD hS (lv_sub hl [1, 2, 0] rfl)
  have B15 : ∀ (x1 : Int32) (fN : (Nat → Int32)), wp_X2_colours_b15 x1 pk fN post → mW p l e rm_X2_colours s m args below meth c 0 0 Q A (dC, dI) 3 [oR aR aT aP, oP aP aL aN pk, aI aN cI 60 fN] [(0, .ref aR), (1, .int x1)] 15 [] := by
    intro x1 fN h
    unfold wp_X2_colours_b15 at h
    refine h (fun (x1 : Int32) (fN : (Nat → Int32)) => mW p l e rm_X2_colours s m args below meth c 0 0 Q A (dC, dI) 3 [oR aR aT aP, oP aP aL aN pk, aI aN cI 60 fN] [(0, .ref aR), (1, .int x1)] 15 []) ?_
    intro x1 fN h
    intro H locs ls hP hD hS hl
    refine lv_iload_n hx hb dX2_colours_15 rfl (lv_at hl 1 rfl) ?_
    refine lv_bipush (v := 100) hx hb dX2_colours_16 (by decide) ?_
    refine lv_icmp_ge (tgt := 45) hx hb dX2_colours_18 (by decide) (fun q18 => ?_) (fun q18 => ?_)
    · have h := h.1 q18
      refine lv_iconst (v := 5) hx hb dX2_colours_45 (by decide) ?_
      refine lv_istore_n (lv' := [(2, .int (5 : Int32)), (0, .ref aR), (1, .int x1)]) hx hb dX2_colours_46 rfl hl (by decide) rfl (fun ls hl => ?_)
      exact B47 _ _ _ h H locs ls hP hD hS (lv_sub hl [1, 2, 0] rfl)
    · have h := h.2 q18
      refine lv_aload_n hx hb dX2_colours_21 rfl (lv_at hl 0 rfl) ?_
      refine va_get (D := (dC, dI)) (ci := 2) (v := .ref aP) (C := RX2) (T := TX2) (N := 2) hx hb hts in_X2 hown hK hP 0 rfl rfl 1 (by decide) k_21 (fun _ h9 => h9) rfl dX2_colours_22 ?_
      refine mVi (wr := [oR aR aT aP]) (As := []) (rest := []) ⟨hx, hb, hml, hown, hts⟩ (c_X0_greatestNumber (l := l) (dC := dC) (dI := dI) (cI := cI) (cJ := cJ) (cZ := cZ) (aP := aP) (aL := aL) (aN := aN) h) (cwV 0 hts gX2_colours_X0_greatestNumber rfl rfl rfl hv_X0_greatestNumber ⟨Nat.le_of_ble_eq_true rfl, Nat.le_of_ble_eq_true rfl⟩) hK hP hD hS hA [1, 2] [0] rfl rfl rfl rfl (by decide) 0 rfl rfl rfl rfl hl.1 rfl (Nat.le_of_ble_eq_true rfl) ⟨Nat.zero_le _, Nat.zero_le _⟩ dX2_colours_25 (fun r25 u25 H locs h hP hD hS => ?_)
      have hP : va_P (dC, dI) vwCl [oR aR aT aP, oP aP aL aN pk, aI aN cI 60 fN] H := hP.sub [0, 1, 2] rfl
      have hD : va_D A [oR aR aT aP, oP aP aL aN pk, aI aN cI 60 fN] := hD.sub [0, 1, 2] rfl rfl
      refine lv_iconst (v := 5) hx hb dX2_colours_28 (by decide) ?_
      refine lv_icmp_le (tgt := 45) hx hb dX2_colours_29 (by decide) (fun q29 => ?_) (fun q29 => ?_)
      · have h := h.1 q29
        refine lv_iconst (v := 5) hx hb dX2_colours_45 (by decide) ?_
        refine lv_istore_n (lv' := [(2, .int (5 : Int32)), (0, .ref aR), (1, .int x1)]) hx hb dX2_colours_46 rfl hl (by decide) rfl (fun ls hl => ?_)
        exact B47 _ _ _ h H locs ls hP hD hS (lv_sub hl [1, 2, 0] rfl)
      · have h := h.2 q29
        refine lv_aload_n hx hb dX2_colours_32 rfl (lv_at hl 0 rfl) ?_
        refine va_get (D := (dC, dI)) (ci := 2) (v := .ref aP) (C := RX2) (T := TX2) (N := 2) hx hb hts in_X2 hown hK hP 0 rfl rfl 1 (by decide) k_21 (fun _ h9 => h9) rfl dX2_colours_33 ?_
        refine mVv (wr := [oR aR aT aP]) (As := []) (rest := []) ⟨hx, hb, hml, hown, hts⟩ (c_X0_doRound (l := l) (dC := dC) (dI := dI) (cI := cI) (cJ := cJ) (cZ := cZ) (aP := aP) (aL := aL) (aN := aN) h) (cwV 0 hts gX2_colours_X0_doRound rfl rfl rfl hv_X0_doRound ⟨Nat.le_of_ble_eq_true rfl, Nat.le_of_ble_eq_true rfl⟩) hK hP hD hS hA [1, 2] [0] rfl rfl rfl rfl (by decide) 0 rfl rfl rfl rfl hl.1 rfl (Nat.le_of_ble_eq_true rfl) ⟨Nat.zero_le _, Nat.zero_le _⟩ dX2_colours_36 (fun fN_36 H locs h hP hD hS => ?_)
        have hP : va_P (dC, dI) vwCl [oR aR aT aP, oP aP aL aN pk, aI aN cI 60 fN_36] H := hP.sub [0, 1, 2] rfl
        have hD : va_D A [oR aR aT aP, oP aP aL aN pk, aI aN cI 60 fN_36] := hD.sub [0, 1, 2] rfl rfl
        obtain ⟨v39, ev39⟩ : ∃ y : Int32, y = x1 + (1 : Int32) := ⟨_, rfl⟩
        have h := h v39 ev39
        refine lv_iinc (v := v39) (lv' := [(1, .int v39), (0, .ref aR)]) hx hb dX2_colours_39 hl (k := 1) rfl (by rw [ev39]; rfl) (by decide) rfl (fun ls hl => ?_)
        refine lv_goto (tgt := 15) hx hb dX2_colours_42 (by decide) ?_
        exact h H locs ls hP hD hS (lv_sub hl [1, 0] rfl)
  unfold wp_X2_colours at h
  intro H locs ls hP hD hS hl
  refine lv_aload_n hx hb dX2_colours_0 rfl (lv_at hl 0 rfl) ?_
  refine va_get (D := (dC, dI)) (ci := 2) (v := .ref aP) (C := RX2) (T := TX2) (N := 2) hx hb hts in_X2 hown hK hP 0 rfl rfl 1 (by decide) k_21 (fun _ h9 => h9) rfl dX2_colours_1 ?_
  refine mVi (wr := [oR aR aT aP]) (As := []) (rest := []) ⟨hx, hb, hml, hown, hts⟩ (c_X0_likeNeighbours (l := l) (dC := dC) (dI := dI) (cI := cI) (cJ := cJ) (cZ := cZ) (aP := aP) (aL := aL) (aN := aN) h) (cwV 0 hts gX2_colours_X0_likeNeighbours rfl rfl rfl hv_X0_likeNeighbours ⟨Nat.le_of_ble_eq_true rfl, Nat.le_of_ble_eq_true rfl⟩) hK hP hD hS hA [1, 2] [0] rfl rfl rfl rfl (by decide) 0 rfl rfl rfl rfl hl.1 rfl (Nat.le_of_ble_eq_true rfl) ⟨Nat.zero_le _, Nat.zero_le _⟩ dX2_colours_4 (fun r4 u4 H locs h hP hD hS => ?_)
  have hP : va_P (dC, dI) vwCl [oR aR aT aP, oP aP aL aN pk, aI aN cI 60 fN] H := hP.sub [0, 1, 2] rfl
  have hD : va_D A [oR aR aT aP, oP aP aL aN pk, aI aN cI 60 fN] := hD.sub [0, 1, 2] rfl rfl
  refine lv_if_le (tgt := 13) hx hb dX2_colours_7 (by decide) (fun q7 => ?_) (fun q7 => ?_)
  · have h := h.1 q7
    refine lv_iconst (v := 0) hx hb dX2_colours_13 (by decide) ?_
    refine lv_istore_n (lv' := [(1, .int (0 : Int32)), (0, .ref aR)]) hx hb dX2_colours_14 rfl hl (by decide) rfl (fun ls hl => ?_)
    exact B15 _ _ h H locs ls hP hD hS (lv_sub hl [1, 0] rfl)
  · have h := h.2 q7
    refine lv_bipush (v := -3) hx hb dX2_colours_10 (by decide) ?_
    exact ret _ _ H locs ls _ dX2_colours_12 h hP hD hS
set_option maxHeartbeats 4000000 in
set_option maxRecDepth 100000 in
theorem c_X2_colours {l : Launch} {dC : Nat → ClassId} {dI : Nat → Nat → Nat} {cI cJ cZ : ClassId} {aR aT aP aL aN : Nat} {pk : Int32} {fN : (Nat → Int32)}  {post : Int32 → (Nat → Int32) → Prop} (h : wp_X2_colours  pk fN post) : ∀ sz, Met l yX2_colours wsX2_colours rm_X2_colours (mP (dC, dI) (mTy cI cJ cZ) [.ref aR] [oR aR aT aP, oP aP aL aN pk, aI aN cI 60 fN] sz) (va_Qi (fun (r : Int32) (u : (Nat → Int32)) => post r u) (mB (dC, dI) (va_A [oR aR aT aP, oP aP aL aN pk, aI aN cI 60 fN] sz) (fun u => [oR aR aT aP, oP aP aL aN pk, aI aN cI 60 u])) (va_A [oR aR aT aP, oP aP aL aN pk, aI aN cI 60 fN] sz)) 0 0 (va_A [oR aR aT aP, oP aP aL aN pk, aI aN cI 60 fN] sz) := by
  intro sz
  refine Met.ofW (cc := cX2_colours) (maxL := 3) (ret := (some .int)) (by decide) rfl ?_
  intro p e s m args below meth c s₁ B hml hv
  obtain ⟨rfl, hsz, hP, hK, hD0⟩ := hv
  have hlocks := B.notSynchronized
  subst hsz
  have hD := hD0.self (sz := s.heap.size)
  have hl := lv_entry ([.ref aR]) (n := 3) (Nat.le_of_ble_eq_true rfl)
  rw [lg_entry_eq]
  exact k_X2_colours B.exec B.bytes hml (findClass_of_methodNamed B.named) (atoms_spec (ws := wsX2_colours) B.pre) hK (fun q hq => Or.inr hq) (fun r fN' H locs ls pc hd hp hP hD hS => W.iret B.exec B.bytes B.returns (fun t ht hW => ⟨⟨r, fN', rfl, hp, by rw [ht]; exact hP, hD⟩, hS.F ht⟩) hS.2.2 hd) h s.heap [] _ hP hD va_S.rf hl

def wp_X2_take  (pk : Int32) (fL : (Nat → Int32)) (fN : (Nat → Int32)) (tk : Int32) (post : Int32 → (Nat → Int32) → Prop) : Prop := wp_X0_greatestNumber pk fN (fun (r4 : Int32) => ((r4 < tk → wp_X0_takeNumbers pk fL fN (fun (fL_24 : (Nat → Int32)) => post (1 : Int32) fL_24)) ∧ (¬ r4 < tk → post (-3 : Int32) fL)))
abbrev rm_X2_take : Room := { frames := 2, cells := 0, slots := 0, locals := 48 }
theorem hv_X2_take : yX2_take.cls = RX2 ∧ yX2_take.cls ≠ "java/lang/invoke/MethodHandle" ∧ yX2_take.cls ≠ "java/lang/invoke/VarHandle" ∧ (parseMethodDescriptor yX2_take.desc).map (fun d => d.parameters.length) = some 0 := by decide +kernel
set_option maxHeartbeats 4000000 in
set_option maxRecDepth 100000 in
theorem k_X2_take {p : Program} {l : Launch} {e : Env} {s : State} {m : MethodId} {args : Array Value} {below : List Frame} {meth : Method} {c : Code} {Q : State → Prop} {A : Nat → Prop} {dC : Nat → ClassId} {dI : Nat → Nat → Nat} {cI cJ cZ : ClassId} (hx : p.tables.exec = Jvm.exec) (hb : c.code = cX2_take) (hml : c.maxLocals = 1) (hown : s.vm.findClass RX2 = some m.cls) (hts : ∀ w ∈ wsX2_take, w.before args s = true) (hK : va_K (dC, dI) vwCl (mTy cI cJ cZ) s) (hA : ∀ q, s.heap.size ≤ q → A q) {aR aT aP aL aN aB aWK aRE aY aZ : Nat} {pk : Int32} {fL : (Nat → Int32)} {fN : (Nat → Int32)} {tk : Int32}  {post : Int32 → (Nat → Int32) → Prop} (ret : ∀ (r : Int32) (fL' : (Nat → Int32)) (H : Heap) (locs : List Loc) (ls : Array Slot) (pc : Nat), decode cX2_take pc = .ok (.ireturn, 1) → post r fL' → va_P (dC, dI) vwCl [oR aR aT aP, oP aP aL aN pk, aI aL cI 60 fL', aI aN cI 60 fN, oT aT aB aWK aRE aY aZ tk] H → va_D A [oR aR aT aP, oP aP aL aN pk, aI aL cI 60 fL', aI aN cI 60 fN, oT aT aB aWK aRE aY aZ tk] → va_S A s.heap H locs → W p l e rm_X2_take s m args below meth c H locs 0 0 Q (F0 m pc ls [.int r])) (h : wp_X2_take  pk fL fN tk post) : mW p l e rm_X2_take s m args below meth c 0 0 Q A (dC, dI) 1 [oR aR aT aP, oP aP aL aN pk, aI aL cI 60 fL, aI aN cI 60 fN, oT aT aB aWK aRE aY aZ tk] [(0, .ref aR)] 0 [] := by
  have in_X1 : ∀ w ∈ wsX10, w ∈ wsX2_take := fun w hw => List.mem_cons_of_mem _ (List.mem_append_left _ (List.mem_append_right _ hw))
  have in_X2 : ∀ w ∈ wsX20, w ∈ wsX2_take := fun w hw => List.mem_cons_of_mem _ (List.mem_append_left _ (List.mem_append_left _ (List.mem_append_right _ hw)))
  have k_12 := hts (.fieldLink RX2 12 "RingTasks" "task" "LRingTasks$Task;") (List.mem_of_getElem? (i := 2) rfl)
  have k_21 := hts (.fieldLink RX2 21 "RingTasks" "posts" "LRingTasks$Posts;") (List.mem_of_getElem? (i := 1) rfl)
  have k_25 := hts (.fieldLink RX2 25 "RingTasks$Task" "size" "I") (List.mem_of_getElem? (i := 3) rfl)
  unfold wp_X2_take at h
  intro H locs ls hP hD hS hl
  refine lv_aload_n hx hb dX2_take_0 rfl (lv_at hl 0 rfl) ?_
  refine va_get (D := (dC, dI)) (ci := 2) (v := .ref aP) (C := RX2) (T := TX2) (N := 2) hx hb hts in_X2 hown hK hP 0 rfl rfl 1 (by decide) k_21 (fun _ h9 => h9) rfl dX2_take_1 ?_
  refine mVi (wr := [oR aR aT aP, aI aL cI 60 fL, oT aT aB aWK aRE aY aZ tk]) (As := []) (rest := []) ⟨hx, hb, hml, hown, hts⟩ (c_X0_greatestNumber (l := l) (dC := dC) (dI := dI) (cI := cI) (cJ := cJ) (cZ := cZ) (aP := aP) (aL := aL) (aN := aN) h) (cwV 0 hts gX2_take_X0_greatestNumber rfl rfl rfl hv_X0_greatestNumber ⟨Nat.le_of_ble_eq_true rfl, Nat.le_of_ble_eq_true rfl⟩) hK hP hD hS hA [1, 3] [0, 2, 4] rfl rfl rfl rfl (by decide) 0 rfl rfl rfl rfl hl.1 rfl (Nat.le_of_ble_eq_true rfl) ⟨Nat.zero_le _, Nat.zero_le _⟩ dX2_take_4 (fun r4 u4 H locs h hP hD hS => ?_)
  have hP : va_P (dC, dI) vwCl [oR aR aT aP, oP aP aL aN pk, aI aL cI 60 fL, aI aN cI 60 fN, oT aT aB aWK aRE aY aZ tk] H := hP.sub [0, 3, 1, 4, 2] rfl
  have hD : va_D A [oR aR aT aP, oP aP aL aN pk, aI aL cI 60 fL, aI aN cI 60 fN, oT aT aB aWK aRE aY aZ tk] := hD.sub [0, 3, 1, 4, 2] rfl rfl
  refine lv_aload_n hx hb dX2_take_7 rfl (lv_at hl 0 rfl) ?_
  refine va_get (D := (dC, dI)) (ci := 2) (v := .ref aT) (C := RX2) (T := TX2) (N := 2) hx hb hts in_X2 hown hK hP 0 rfl rfl 0 (by decide) k_12 (fun _ h9 => h9) rfl dX2_take_8 ?_
  refine va_get (D := (dC, dI)) (ci := 1) (v := .int tk) (C := RX1) (T := TX1) (N := 6) hx hb hts in_X1 hown hK hP 4 rfl rfl 0 (by decide) k_25 (fun _ h9 => h9) rfl dX2_take_11 ?_
  refine lv_icmp_lt (tgt := 20) hx hb dX2_take_14 (by decide) (fun q14 => ?_) (fun q14 => ?_)
  · have h := h.1 q14
    refine lv_aload_n hx hb dX2_take_20 rfl (lv_at hl 0 rfl) ?_
    refine va_get (D := (dC, dI)) (ci := 2) (v := .ref aP) (C := RX2) (T := TX2) (N := 2) hx hb hts in_X2 hown hK hP 0 rfl rfl 1 (by decide) k_21 (fun _ h9 => h9) rfl dX2_take_21 ?_
    refine mVv (wr := [oR aR aT aP, oT aT aB aWK aRE aY aZ tk]) (As := []) (rest := []) ⟨hx, hb, hml, hown, hts⟩ (c_X0_takeNumbers (l := l) (dC := dC) (dI := dI) (cI := cI) (cJ := cJ) (cZ := cZ) (aP := aP) (aL := aL) (aN := aN) h) (cwV 0 hts gX2_take_X0_takeNumbers rfl rfl rfl hv_X0_takeNumbers ⟨Nat.le_of_ble_eq_true rfl, Nat.le_of_ble_eq_true rfl⟩) hK hP hD hS hA [1, 2, 3] [0, 4] rfl rfl rfl rfl (by decide) 0 rfl rfl rfl rfl hl.1 rfl (Nat.le_of_ble_eq_true rfl) ⟨Nat.zero_le _, Nat.zero_le _⟩ dX2_take_24 (fun fL_24 H locs h hP hD hS => ?_)
    have hP : va_P (dC, dI) vwCl [oR aR aT aP, oP aP aL aN pk, aI aL cI 60 fL_24, aI aN cI 60 fN, oT aT aB aWK aRE aY aZ tk] H := hP.sub [0, 2, 3, 4, 1] rfl
    have hD : va_D A [oR aR aT aP, oP aP aL aN pk, aI aL cI 60 fL_24, aI aN cI 60 fN, oT aT aB aWK aRE aY aZ tk] := hD.sub [0, 2, 3, 4, 1] rfl rfl
    refine lv_iconst (v := 1) hx hb dX2_take_27 (by decide) ?_
    exact ret _ _ H locs ls _ dX2_take_28 h hP hD hS
  · have h := h.2 q14
    refine lv_bipush (v := -3) hx hb dX2_take_17 (by decide) ?_
    exact ret _ _ H locs ls _ dX2_take_19 h hP hD hS
set_option maxHeartbeats 4000000 in
set_option maxRecDepth 100000 in
theorem c_X2_take {l : Launch} {dC : Nat → ClassId} {dI : Nat → Nat → Nat} {cI cJ cZ : ClassId} {aR aT aP aL aN aB aWK aRE aY aZ : Nat} {pk : Int32} {fL : (Nat → Int32)} {fN : (Nat → Int32)} {tk : Int32}  {post : Int32 → (Nat → Int32) → Prop} (h : wp_X2_take  pk fL fN tk post) : ∀ sz, Met l yX2_take wsX2_take rm_X2_take (mP (dC, dI) (mTy cI cJ cZ) [.ref aR] [oR aR aT aP, oP aP aL aN pk, aI aL cI 60 fL, aI aN cI 60 fN, oT aT aB aWK aRE aY aZ tk] sz) (va_Qi (fun (r : Int32) (u : (Nat → Int32)) => post r u) (mB (dC, dI) (va_A [oR aR aT aP, oP aP aL aN pk, aI aL cI 60 fL, aI aN cI 60 fN, oT aT aB aWK aRE aY aZ tk] sz) (fun u => [oR aR aT aP, oP aP aL aN pk, aI aL cI 60 u, aI aN cI 60 fN, oT aT aB aWK aRE aY aZ tk])) (va_A [oR aR aT aP, oP aP aL aN pk, aI aL cI 60 fL, aI aN cI 60 fN, oT aT aB aWK aRE aY aZ tk] sz)) 0 0 (va_A [oR aR aT aP, oP aP aL aN pk, aI aL cI 60 fL, aI aN cI 60 fN, oT aT aB aWK aRE aY aZ tk] sz) := by
  intro sz
  refine Met.ofW (cc := cX2_take) (maxL := 1) (ret := (some .int)) (by decide) rfl ?_
  intro p e s m args below meth c s₁ B hml hv
  obtain ⟨rfl, hsz, hP, hK, hD0⟩ := hv
  have hlocks := B.notSynchronized
  subst hsz
  have hD := hD0.self (sz := s.heap.size)
  have hl := lv_entry ([.ref aR]) (n := 1) (Nat.le_of_ble_eq_true rfl)
  rw [lg_entry_eq]
  exact k_X2_take B.exec B.bytes hml (findClass_of_methodNamed B.named) (atoms_spec (ws := wsX2_take) B.pre) hK (fun q hq => Or.inr hq) (fun r fL' H locs ls pc hd hp hP hD hS => W.iret B.exec B.bytes B.returns (fun t ht hW => ⟨⟨r, fL', rfl, hp, by rw [ht]; exact hP, hD⟩, hS.F ht⟩) hS.2.2 hd) h s.heap [] _ hP hD va_S.rf hl

def wp_X2_count (x1 : Int32) (pk : Int32) (fL : (Nat → Int32)) (fN : (Nat → Int32)) (tk : Int32) (fB : (Nat → Int32)) (post : Int32 → Prop) : Prop := ((x1.toInt < 0 ∨ 5 < x1.toInt → post (-2 : Int32)) ∧ (x1 = (0 : Int32) → post tk) ∧ (x1 = (1 : Int32) → wp_X1_pairCount tk fB (fun (r52 : Int32) => post r52)) ∧ (x1 = (2 : Int32) → post pk) ∧ (x1 = (3 : Int32) → wp_X0_unlike 60 pk fN (fun (r75 : Int32) => post r75)) ∧ (x1 = (4 : Int32) → wp_X0_likeNeighbours pk fN (fun (r83 : Int32) => post r83)) ∧ (x1 = (5 : Int32) → wp_X0_unlike 60 pk fL (fun (r98 : Int32) => post r98)))
abbrev rm_X2_count : Room := { frames := 2, cells := 0, slots := 0, locals := 45 }
theorem hv_X2_count : yX2_count.cls = RX2 ∧ yX2_count.cls ≠ "java/lang/invoke/MethodHandle" ∧ yX2_count.cls ≠ "java/lang/invoke/VarHandle" ∧ (parseMethodDescriptor yX2_count.desc).map (fun d => d.parameters.length) = some 1 := by decide +kernel
set_option maxHeartbeats 4000000 in
set_option maxRecDepth 100000 in
theorem k_X2_count {p : Program} {l : Launch} {e : Env} {s : State} {m : MethodId} {args : Array Value} {below : List Frame} {meth : Method} {c : Code} {Q : State → Prop} {A : Nat → Prop} {dC : Nat → ClassId} {dI : Nat → Nat → Nat} {cI cJ cZ : ClassId} (hx : p.tables.exec = Jvm.exec) (hb : c.code = cX2_count) (hml : c.maxLocals = 2) (hown : s.vm.findClass RX2 = some m.cls) (hts : ∀ w ∈ wsX2_count, w.before args s = true) (hK : va_K (dC, dI) vwCl (mTy cI cJ cZ) s) (hA : ∀ q, s.heap.size ≤ q → A q) {aR aT aP aL aN aB aWK aRE aY aZ : Nat} {pk : Int32} {fL : (Nat → Int32)} {fN : (Nat → Int32)} {tk : Int32} {fB : (Nat → Int32)} {x1 : Int32} {post : Int32 → Prop} (ret : ∀ (r : Int32) (H : Heap) (locs : List Loc) (ls : Array Slot) (pc : Nat), decode cX2_count pc = .ok (.ireturn, 1) → post r → va_P (dC, dI) vwCl [oR aR aT aP, oP aP aL aN pk, aI aL cI 60 fL, aI aN cI 60 fN, oT aT aB aWK aRE aY aZ tk, aI aB cI 6 fB] H → va_D A [oR aR aT aP, oP aP aL aN pk, aI aL cI 60 fL, aI aN cI 60 fN, oT aT aB aWK aRE aY aZ tk, aI aB cI 6 fB] → va_S A s.heap H locs → W p l e rm_X2_count s m args below meth c H locs 0 0 Q (F0 m pc ls [.int r])) (h : wp_X2_count x1 pk fL fN tk fB post) : mW p l e rm_X2_count s m args below meth c 0 0 Q A (dC, dI) 2 [oR aR aT aP, oP aP aL aN pk, aI aL cI 60 fL, aI aN cI 60 fN, oT aT aB aWK aRE aY aZ tk, aI aB cI 6 fB] [(0, .ref aR), (1, .int x1)] 0 [] := by
  have in_X0 : ∀ w ∈ wsX00, w ∈ wsX2_count := fun w hw => List.mem_cons_of_mem _ (List.mem_append_right _ hw)
  have in_X1 : ∀ w ∈ wsX10, w ∈ wsX2_count := fun w hw => List.mem_cons_of_mem _ (List.mem_append_left _ (List.mem_append_right _ hw))
  have in_X2 : ∀ w ∈ wsX20, w ∈ wsX2_count := fun w hw => List.mem_cons_of_mem _ (List.mem_append_left _ (List.mem_append_left _ (List.mem_append_right _ hw)))
  have k_108 := hts (.fieldLink RX2 108 "RingTasks$Posts" "size" "I") (List.mem_of_getElem? (i := 4) rfl)
  have k_111 := hts (.fieldLink RX2 111 "RingTasks$Posts" "label" "[I") (List.mem_of_getElem? (i := 6) rfl)
  have k_12 := hts (.fieldLink RX2 12 "RingTasks" "task" "LRingTasks$Task;") (List.mem_of_getElem? (i := 1) rfl)
  have k_130 := hts (.fieldLink RX2 130 "RingTasks$Posts" "number" "[I") (List.mem_of_getElem? (i := 5) rfl)
  have k_21 := hts (.fieldLink RX2 21 "RingTasks" "posts" "LRingTasks$Posts;") (List.mem_of_getElem? (i := 3) rfl)
  have k_25 := hts (.fieldLink RX2 25 "RingTasks$Task" "size" "I") (List.mem_of_getElem? (i := 2) rfl)
  unfold wp_X2_count at h
  intro H locs ls hP hD hS hl
  refine lv_iload_n hx hb dX2_count_0 rfl (lv_at hl 1 rfl) ?_
  by_cases q1 : x1.toInt < 0 ∨ 5 < x1.toInt
  · have h := h.1 q1
    refine lv_tableOut (tgt := 102) hx hb dX2_count_1 q1 (by decide) ?_
    refine lv_bipush (v := -2) hx hb dX2_count_102 (by decide) ?_
    exact ret _  H locs ls _ dX2_count_104 h hP hD hS
  · have h := h.2
    rcases m_sw6 q1 with q | q | q | q | q | q
    · have h := h.1 q
      refine lv_tableIn (off := 39) (tgt := 40) hx hb dX2_count_1 (by rw [q]; decide) (by rw [q]; decide) (by rw [q]; decide) (by decide) ?_
      refine lv_aload_n hx hb dX2_count_40 rfl (lv_at hl 0 rfl) ?_
      refine va_get (D := (dC, dI)) (ci := 2) (v := .ref aT) (C := RX2) (T := TX2) (N := 2) hx hb hts in_X2 hown hK hP 0 rfl rfl 0 (by decide) k_12 (fun _ h9 => h9) rfl dX2_count_41 ?_
      refine va_get (D := (dC, dI)) (ci := 1) (v := .int tk) (C := RX1) (T := TX1) (N := 6) hx hb hts in_X1 hown hK hP 4 rfl rfl 0 (by decide) k_25 (fun _ h9 => h9) rfl dX2_count_44 ?_
      exact ret _  H locs ls _ dX2_count_47 h hP hD hS
    · have h := h.2.1 q
      refine lv_tableIn (off := 47) (tgt := 48) hx hb dX2_count_1 (by rw [q]; decide) (by rw [q]; decide) (by rw [q]; decide) (by decide) ?_
      refine lv_aload_n hx hb dX2_count_48 rfl (lv_at hl 0 rfl) ?_
      refine va_get (D := (dC, dI)) (ci := 2) (v := .ref aT) (C := RX2) (T := TX2) (N := 2) hx hb hts in_X2 hown hK hP 0 rfl rfl 0 (by decide) k_12 (fun _ h9 => h9) rfl dX2_count_49 ?_
      refine mVi (wr := [oR aR aT aP, oP aP aL aN pk, aI aL cI 60 fL, aI aN cI 60 fN]) (As := []) (rest := []) ⟨hx, hb, hml, hown, hts⟩ (c_X1_pairCount (l := l) (dC := dC) (dI := dI) (cI := cI) (cJ := cJ) (cZ := cZ) (aT := aT) (aB := aB) (aWK := aWK) (aRE := aRE) (aY := aY) (aZ := aZ) h) (cwV 0 hts gX2_count_X1_pairCount rfl rfl rfl hv_X1_pairCount ⟨Nat.le_of_ble_eq_true rfl, Nat.le_of_ble_eq_true rfl⟩) hK hP hD hS hA [4, 5] [0, 1, 2, 3] rfl rfl rfl rfl (by decide) 1 rfl rfl rfl rfl hl.1 rfl (Nat.le_of_ble_eq_true rfl) ⟨Nat.zero_le _, Nat.zero_le _⟩ dX2_count_52 (fun r52 u52 H locs h hP hD hS => ?_)
      have hP : va_P (dC, dI) vwCl [oR aR aT aP, oP aP aL aN pk, aI aL cI 60 fL, aI aN cI 60 fN, oT aT aB aWK aRE aY aZ tk, aI aB cI 6 fB] H := hP.sub [0, 1, 2, 3, 4, 5] rfl
      have hD : va_D A [oR aR aT aP, oP aP aL aN pk, aI aL cI 60 fL, aI aN cI 60 fN, oT aT aB aWK aRE aY aZ tk, aI aB cI 6 fB] := hD.sub [0, 1, 2, 3, 4, 5] rfl rfl
      exact ret _  H locs ls _ dX2_count_55 h hP hD hS
    · have h := h.2.2.1 q
      refine lv_tableIn (off := 55) (tgt := 56) hx hb dX2_count_1 (by rw [q]; decide) (by rw [q]; decide) (by rw [q]; decide) (by decide) ?_
      refine lv_aload_n hx hb dX2_count_56 rfl (lv_at hl 0 rfl) ?_
      refine va_get (D := (dC, dI)) (ci := 2) (v := .ref aP) (C := RX2) (T := TX2) (N := 2) hx hb hts in_X2 hown hK hP 0 rfl rfl 1 (by decide) k_21 (fun _ h9 => h9) rfl dX2_count_57 ?_
      refine va_get (D := (dC, dI)) (ci := 0) (v := .int pk) (C := RX0) (T := TX0) (N := 3) hx hb hts in_X0 hown hK hP 1 rfl rfl 0 (by decide) k_108 (fun _ h9 => h9) rfl dX2_count_60 ?_
      exact ret _  H locs ls _ dX2_count_63 h hP hD hS
    · have h := h.2.2.2.1 q
      refine lv_tableIn (off := 63) (tgt := 64) hx hb dX2_count_1 (by rw [q]; decide) (by rw [q]; decide) (by rw [q]; decide) (by decide) ?_
      refine lv_aload_n hx hb dX2_count_64 rfl (lv_at hl 0 rfl) ?_
      refine va_get (D := (dC, dI)) (ci := 2) (v := .ref aP) (C := RX2) (T := TX2) (N := 2) hx hb hts in_X2 hown hK hP 0 rfl rfl 1 (by decide) k_21 (fun _ h9 => h9) rfl dX2_count_65 ?_
      refine lv_aload_n hx hb dX2_count_68 rfl (lv_at hl 0 rfl) ?_
      refine va_get (D := (dC, dI)) (ci := 2) (v := .ref aP) (C := RX2) (T := TX2) (N := 2) hx hb hts in_X2 hown hK hP 0 rfl rfl 1 (by decide) k_21 (fun _ h9 => h9) rfl dX2_count_69 ?_
      refine va_get (D := (dC, dI)) (ci := 0) (v := .ref aN) (C := RX0) (T := TX0) (N := 3) hx hb hts in_X0 hown hK hP 1 rfl rfl 2 (by decide) k_130 (fun _ h9 => h9) rfl dX2_count_72 ?_
      refine mVi (wr := [oR aR aT aP, aI aL cI 60 fL, oT aT aB aWK aRE aY aZ tk, aI aB cI 6 fB]) (As := [.ref aN]) (rest := []) ⟨hx, hb, hml, hown, hts⟩ (c_X0_unlike (l := l) (dC := dC) (dI := dI) (cI := cI) (cJ := cJ) (cZ := cZ) (aP := aP) (aL := aL) (aN := aN) (aA := aN) h) (cwV 1 hts gX2_count_X0_unlike rfl rfl rfl hv_X0_unlike ⟨Nat.le_of_ble_eq_true rfl, Nat.le_of_ble_eq_true rfl⟩) hK hP hD hS hA [1, 3] [0, 2, 4, 5] rfl rfl rfl rfl (by decide) 0 rfl rfl rfl rfl hl.1 rfl (Nat.le_of_ble_eq_true rfl) ⟨Nat.zero_le _, Nat.zero_le _⟩ dX2_count_75 (fun r75 u75 H locs h hP hD hS => ?_)
      have hP : va_P (dC, dI) vwCl [oR aR aT aP, oP aP aL aN pk, aI aL cI 60 fL, aI aN cI 60 fN, oT aT aB aWK aRE aY aZ tk, aI aB cI 6 fB] H := hP.sub [0, 4, 1, 5, 2, 3] rfl
      have hD : va_D A [oR aR aT aP, oP aP aL aN pk, aI aL cI 60 fL, aI aN cI 60 fN, oT aT aB aWK aRE aY aZ tk, aI aB cI 6 fB] := hD.sub [0, 4, 1, 5, 2, 3] rfl rfl
      exact ret _  H locs ls _ dX2_count_78 h hP hD hS
    · have h := h.2.2.2.2.1 q
      refine lv_tableIn (off := 78) (tgt := 79) hx hb dX2_count_1 (by rw [q]; decide) (by rw [q]; decide) (by rw [q]; decide) (by decide) ?_
      refine lv_aload_n hx hb dX2_count_79 rfl (lv_at hl 0 rfl) ?_
      refine va_get (D := (dC, dI)) (ci := 2) (v := .ref aP) (C := RX2) (T := TX2) (N := 2) hx hb hts in_X2 hown hK hP 0 rfl rfl 1 (by decide) k_21 (fun _ h9 => h9) rfl dX2_count_80 ?_
      refine mVi (wr := [oR aR aT aP, aI aL cI 60 fL, oT aT aB aWK aRE aY aZ tk, aI aB cI 6 fB]) (As := []) (rest := []) ⟨hx, hb, hml, hown, hts⟩ (c_X0_likeNeighbours (l := l) (dC := dC) (dI := dI) (cI := cI) (cJ := cJ) (cZ := cZ) (aP := aP) (aL := aL) (aN := aN) h) (cwV 0 hts gX2_count_X0_likeNeighbours rfl rfl rfl hv_X0_likeNeighbours ⟨Nat.le_of_ble_eq_true rfl, Nat.le_of_ble_eq_true rfl⟩) hK hP hD hS hA [1, 3] [0, 2, 4, 5] rfl rfl rfl rfl (by decide) 0 rfl rfl rfl rfl hl.1 rfl (Nat.le_of_ble_eq_true rfl) ⟨Nat.zero_le _, Nat.zero_le _⟩ dX2_count_83 (fun r83 u83 H locs h hP hD hS => ?_)
      have hP : va_P (dC, dI) vwCl [oR aR aT aP, oP aP aL aN pk, aI aL cI 60 fL, aI aN cI 60 fN, oT aT aB aWK aRE aY aZ tk, aI aB cI 6 fB] H := hP.sub [0, 4, 1, 5, 2, 3] rfl
      have hD : va_D A [oR aR aT aP, oP aP aL aN pk, aI aL cI 60 fL, aI aN cI 60 fN, oT aT aB aWK aRE aY aZ tk, aI aB cI 6 fB] := hD.sub [0, 4, 1, 5, 2, 3] rfl rfl
      exact ret _  H locs ls _ dX2_count_86 h hP hD hS
    · have h := h.2.2.2.2.2 q
      refine lv_tableIn (off := 86) (tgt := 87) hx hb dX2_count_1 (by rw [q]; decide) (by rw [q]; decide) (by rw [q]; decide) (by decide) ?_
      refine lv_aload_n hx hb dX2_count_87 rfl (lv_at hl 0 rfl) ?_
      refine va_get (D := (dC, dI)) (ci := 2) (v := .ref aP) (C := RX2) (T := TX2) (N := 2) hx hb hts in_X2 hown hK hP 0 rfl rfl 1 (by decide) k_21 (fun _ h9 => h9) rfl dX2_count_88 ?_
      refine lv_aload_n hx hb dX2_count_91 rfl (lv_at hl 0 rfl) ?_
      refine va_get (D := (dC, dI)) (ci := 2) (v := .ref aP) (C := RX2) (T := TX2) (N := 2) hx hb hts in_X2 hown hK hP 0 rfl rfl 1 (by decide) k_21 (fun _ h9 => h9) rfl dX2_count_92 ?_
      refine va_get (D := (dC, dI)) (ci := 0) (v := .ref aL) (C := RX0) (T := TX0) (N := 3) hx hb hts in_X0 hown hK hP 1 rfl rfl 1 (by decide) k_111 (fun _ h9 => h9) rfl dX2_count_95 ?_
      refine mVi (wr := [oR aR aT aP, aI aN cI 60 fN, oT aT aB aWK aRE aY aZ tk, aI aB cI 6 fB]) (As := [.ref aL]) (rest := []) ⟨hx, hb, hml, hown, hts⟩ (c_X0_unlike (l := l) (dC := dC) (dI := dI) (cI := cI) (cJ := cJ) (cZ := cZ) (aP := aP) (aL := aL) (aN := aN) (aA := aL) h) (cwV 1 hts gX2_count_X0_unlike rfl rfl rfl hv_X0_unlike ⟨Nat.le_of_ble_eq_true rfl, Nat.le_of_ble_eq_true rfl⟩) hK hP hD hS hA [1, 2] [0, 3, 4, 5] rfl rfl rfl rfl (by decide) 0 rfl rfl rfl rfl hl.1 rfl (Nat.le_of_ble_eq_true rfl) ⟨Nat.zero_le _, Nat.zero_le _⟩ dX2_count_98 (fun r98 u98 H locs h hP hD hS => ?_)
      have hP : va_P (dC, dI) vwCl [oR aR aT aP, oP aP aL aN pk, aI aL cI 60 fL, aI aN cI 60 fN, oT aT aB aWK aRE aY aZ tk, aI aB cI 6 fB] H := hP.sub [0, 4, 5, 1, 2, 3] rfl
      have hD : va_D A [oR aR aT aP, oP aP aL aN pk, aI aL cI 60 fL, aI aN cI 60 fN, oT aT aB aWK aRE aY aZ tk, aI aB cI 6 fB] := hD.sub [0, 4, 5, 1, 2, 3] rfl rfl
      exact ret _  H locs ls _ dX2_count_101 h hP hD hS
set_option maxHeartbeats 4000000 in
set_option maxRecDepth 100000 in
theorem c_X2_count {l : Launch} {dC : Nat → ClassId} {dI : Nat → Nat → Nat} {cI cJ cZ : ClassId} {aR aT aP aL aN aB aWK aRE aY aZ : Nat} {pk : Int32} {fL : (Nat → Int32)} {fN : (Nat → Int32)} {tk : Int32} {fB : (Nat → Int32)} {x1 : Int32} {post : Int32 → Prop} (h : wp_X2_count x1 pk fL fN tk fB post) : ∀ sz, Met l yX2_count wsX2_count rm_X2_count (mP (dC, dI) (mTy cI cJ cZ) [.ref aR, .int x1] [oR aR aT aP, oP aP aL aN pk, aI aL cI 60 fL, aI aN cI 60 fN, oT aT aB aWK aRE aY aZ tk, aI aB cI 6 fB] sz) (va_Qi (fun (r : Int32) (u : Unit) => post r ) (mB (dC, dI) (va_A [oR aR aT aP, oP aP aL aN pk, aI aL cI 60 fL, aI aN cI 60 fN, oT aT aB aWK aRE aY aZ tk, aI aB cI 6 fB] sz) (fun u => [oR aR aT aP, oP aP aL aN pk, aI aL cI 60 fL, aI aN cI 60 fN, oT aT aB aWK aRE aY aZ tk, aI aB cI 6 fB])) (va_A [oR aR aT aP, oP aP aL aN pk, aI aL cI 60 fL, aI aN cI 60 fN, oT aT aB aWK aRE aY aZ tk, aI aB cI 6 fB] sz)) 0 0 (va_A [oR aR aT aP, oP aP aL aN pk, aI aL cI 60 fL, aI aN cI 60 fN, oT aT aB aWK aRE aY aZ tk, aI aB cI 6 fB] sz) := by
  intro sz
  refine Met.ofW (cc := cX2_count) (maxL := 2) (ret := (some .int)) (by decide) rfl ?_
  intro p e s m args below meth c s₁ B hml hv
  obtain ⟨rfl, hsz, hP, hK, hD0⟩ := hv
  have hlocks := B.notSynchronized
  subst hsz
  have hD := hD0.self (sz := s.heap.size)
  have hl := lv_entry ([.ref aR, .int x1]) (n := 2) (Nat.le_of_ble_eq_true rfl)
  rw [lg_entry_eq]
  exact k_X2_count B.exec B.bytes hml (findClass_of_methodNamed B.named) (atoms_spec (ws := wsX2_count) B.pre) hK (fun q hq => Or.inr hq) (fun r H locs ls pc hd hp hP hD hS => W.iret B.exec B.bytes B.returns (fun t ht hW => ⟨⟨r, (), rfl, hp, by rw [ht]; exact hP, hD⟩, hS.F ht⟩) hS.2.2 hd) h s.heap [] _ hP hD va_S.rf hl
