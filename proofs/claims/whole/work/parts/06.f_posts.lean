def wp_X0_clearLabels  (pk : Int32) (fL : (Nat → Int32)) (post : (Nat → Int32) → Prop) : Prop := wp_J7_fill_53178 (0 : Int32) 60 fL (fun (fL_5 : (Nat → Int32)) => post fL_5)
abbrev rm_X0_clearLabels : Room := { frames := 1, cells := 0, slots := 0, locals := 23 }
theorem hv_X0_clearLabels : yX0_clearLabels.cls = RX0 ∧ yX0_clearLabels.cls ≠ "java/lang/invoke/MethodHandle" ∧ yX0_clearLabels.cls ≠ "java/lang/invoke/VarHandle" ∧ (parseMethodDescriptor yX0_clearLabels.desc).map (fun d => d.parameters.length) = some 0 := by decide +kernel
set_option maxHeartbeats 4000000 in
set_option maxRecDepth 100000 in
theorem k_X0_clearLabels {p : Program} {l : Launch} {e : Env} {s : State} {m : MethodId} {args : Array Value} {below : List Frame} {meth : Method} {c : Code} {Q : State → Prop} {A : Nat → Prop} {dC : Nat → ClassId} {dI : Nat → Nat → Nat} {cI cJ cZ : ClassId} (hx : p.tables.exec = Jvm.exec) (hb : c.code = cX0_clearLabels) (hml : c.maxLocals = 1) (hown : s.vm.findClass RX0 = some m.cls) (hts : ∀ w ∈ wsX0_clearLabels, w.before args s = true) (hK : va_K (dC, dI) vwCl (mTy cI cJ cZ) s) (hA : ∀ q, s.heap.size ≤ q → A q) {aP aL aN : Nat} {pk : Int32} {fL : (Nat → Int32)}  {post : (Nat → Int32) → Prop} (ret : ∀ (fL' : (Nat → Int32)) (H : Heap) (locs : List Loc) (ls : Array Slot) (pc : Nat), decode cX0_clearLabels pc = .ok (.return_, 1) → post fL' → va_P (dC, dI) vwCl [oP aP aL aN pk, aI aL cI 60 fL'] H → va_D A [oP aP aL aN pk, aI aL cI 60 fL'] → va_S A s.heap H locs → W p l e rm_X0_clearLabels s m args below meth c H locs 0 0 Q (F0 m pc ls [])) (h : wp_X0_clearLabels  pk fL post) : mW p l e rm_X0_clearLabels s m args below meth c 0 0 Q A (dC, dI) 1 [oP aP aL aN pk, aI aL cI 60 fL] [(0, .ref aP)] 0 [] := by
  have in_X0 : ∀ w ∈ wsX00, w ∈ wsX0_clearLabels := fun w hw => List.mem_cons_of_mem _ (List.mem_append_right _ hw)
  have k_9 := hts (.fieldLink RX0 9 "RingTasks$Posts" "label" "[I") (List.mem_of_getElem? (i := 1) rfl)
  unfold wp_X0_clearLabels at h
  intro H locs ls hP hD hS hl
  refine lv_aload_n hx hb dX0_clearLabels_0 rfl (lv_at hl 0 rfl) ?_
  refine va_get (D := (dC, dI)) (ci := 0) (v := .ref aL) (C := RX0) (T := TX0) (N := 3) hx hb hts in_X0 hown hK hP 0 rfl rfl 1 (by decide) k_9 (fun _ h9 => h9) rfl dX0_clearLabels_1 ?_
  refine lv_iconst (v := 0) hx hb dX0_clearLabels_4 (by decide) ?_
  refine mSv (wr := [oP aP aL aN pk]) (As := [.ref aL, .int (0 : Int32)]) (rest := []) ⟨hx, hb, hml, hown, hts⟩ (c_J7_fill_53178 (l := l) (dC := dC) (dI := dI) (cI := cI) (cJ := cJ) (cZ := cZ) (aA := aL) h) (va_cwS 2 hts gX0_clearLabels_J7_fill_53178 rfl rfl rfl hv_J7_fill_53178 ⟨Nat.le_of_ble_eq_true rfl, Nat.le_of_ble_eq_true rfl⟩) hK hP hD hS hA [1] [0] rfl rfl rfl rfl (by decide) rfl hl.1 rfl (Nat.le_of_ble_eq_true rfl) ⟨Nat.zero_le _, Nat.zero_le _⟩ dX0_clearLabels_5 (fun fL_5 H locs h hP hD hS => ?_)
  have hP : va_P (dC, dI) vwCl [oP aP aL aN pk, aI aL cI 60 fL_5] H := hP.sub [0, 1] rfl
  have hD : va_D A [oP aP aL aN pk, aI aL cI 60 fL_5] := hD.sub [0, 1] rfl rfl
  exact ret _ H locs ls _ dX0_clearLabels_8 h hP hD hS
set_option maxHeartbeats 4000000 in
set_option maxRecDepth 100000 in
theorem c_X0_clearLabels {l : Launch} {dC : Nat → ClassId} {dI : Nat → Nat → Nat} {cI cJ cZ : ClassId} {aP aL aN : Nat} {pk : Int32} {fL : (Nat → Int32)}  {post : (Nat → Int32) → Prop} (h : wp_X0_clearLabels  pk fL post) : ∀ sz, Met l yX0_clearLabels wsX0_clearLabels rm_X0_clearLabels (mP (dC, dI) (mTy cI cJ cZ) [.ref aP] [oP aP aL aN pk, aI aL cI 60 fL] sz) (va_Qv (fun (u : (Nat → Int32)) => post u) (mB (dC, dI) (va_A [oP aP aL aN pk, aI aL cI 60 fL] sz) (fun u => [oP aP aL aN pk, aI aL cI 60 u])) (va_A [oP aP aL aN pk, aI aL cI 60 fL] sz)) 0 0 (va_A [oP aP aL aN pk, aI aL cI 60 fL] sz) := by
  intro sz
  refine Met.ofW (cc := cX0_clearLabels) (maxL := 1) (ret := none) (by decide) rfl ?_
  intro p e s m args below meth c s₁ B hml hv
  obtain ⟨rfl, hsz, hP, hK, hD0⟩ := hv
  have hlocks := B.notSynchronized
  subst hsz
  have hD := hD0.self (sz := s.heap.size)
  have hl := lv_entry ([.ref aP]) (n := 1) (Nat.le_of_ble_eq_true rfl)
  rw [lg_entry_eq]
  exact k_X0_clearLabels B.exec B.bytes hml (findClass_of_methodNamed B.named) (atoms_spec (ws := wsX0_clearLabels) B.pre) hK (fun q hq => Or.inr hq) (fun fL' H locs ls pc hd hp hP hD hS => W.vret B.exec B.bytes B.returns (fun t ht hW => ⟨⟨fL', rfl, hp, by rw [ht]; exact hP, hD⟩, hS.F ht⟩) hS.2.2 hd) h s.heap [] _ hP hD va_S.rf hl

def wp_X0_restart_b16 (x2 : Int32) (pk : Int32) (fL : (Nat → Int32)) (fN : (Nat → Int32)) (post : Int32 → (Nat → Int32) → (Nat → Int32) → Prop)  : Prop := ∀ P16 : Int32 → (Nat → Int32) → Prop, (∀ (x2 : Int32) (fN : (Nat → Int32)), ((pk ≤ x2 → post pk fL fN) ∧ (¬ pk ≤ x2 → (vp_in x2 60 ∧ (∀ fN_30 : (Nat → Int32), fN_30 = upd fN x2.toNatClampNeg x2 → (∀ v31 : Int32, v31 = x2 + (1 : Int32) → P16 v31 fN_30))))) → P16 x2 fN) → P16 x2 fN
def wp_X0_restart (x1 : Int32) (pk : Int32) (fL : (Nat → Int32)) (fN : (Nat → Int32)) (post : Int32 → (Nat → Int32) → (Nat → Int32) → Prop) : Prop := (∀ v7 : Int32, v7 = (if (60 : Int32) < x1 then (60 : Int32) else x1) → wp_X0_clearLabels v7 fL (fun (fL_11 : (Nat → Int32)) => wp_X0_restart_b16 (0 : Int32) v7 fL_11 fN post))
abbrev rm_X0_restart : Room := { frames := 2, cells := 0, slots := 0, locals := 43 }
theorem hv_X0_restart : yX0_restart.cls = RX0 ∧ yX0_restart.cls ≠ "java/lang/invoke/MethodHandle" ∧ yX0_restart.cls ≠ "java/lang/invoke/VarHandle" ∧ (parseMethodDescriptor yX0_restart.desc).map (fun d => d.parameters.length) = some 1 := by decide +kernel
set_option maxHeartbeats 4000000 in
set_option maxRecDepth 100000 in
theorem k_X0_restart {p : Program} {l : Launch} {e : Env} {s : State} {m : MethodId} {args : Array Value} {below : List Frame} {meth : Method} {c : Code} {Q : State → Prop} {A : Nat → Prop} {dC : Nat → ClassId} {dI : Nat → Nat → Nat} {cI cJ cZ : ClassId} (hx : p.tables.exec = Jvm.exec) (hb : c.code = cX0_restart) (hml : c.maxLocals = 3) (hown : s.vm.findClass RX0 = some m.cls) (hts : ∀ w ∈ wsX0_restart, w.before args s = true) (hK : va_K (dC, dI) vwCl (mTy cI cJ cZ) s) (hA : ∀ q, s.heap.size ≤ q → A q) {aP aL aN : Nat} {pk : Int32} {fL : (Nat → Int32)} {fN : (Nat → Int32)} {x1 : Int32} {post : Int32 → (Nat → Int32) → (Nat → Int32) → Prop} (ret : ∀ (pk' : Int32) (fL' : (Nat → Int32)) (fN' : (Nat → Int32)) (H : Heap) (locs : List Loc) (ls : Array Slot) (pc : Nat), decode cX0_restart pc = .ok (.return_, 1) → post pk' fL' fN' → va_P (dC, dI) vwCl [oP aP aL aN pk', aI aL cI 60 fL', aI aN cI 60 fN'] H → va_D A [oP aP aL aN pk', aI aL cI 60 fL', aI aN cI 60 fN'] → va_S A s.heap H locs → W p l e rm_X0_restart s m args below meth c H locs 0 0 Q (F0 m pc ls [])) (h : wp_X0_restart x1 pk fL fN post) : mW p l e rm_X0_restart s m args below meth c 0 0 Q A (dC, dI) 3 [oP aP aL aN pk, aI aL cI 60 fL, aI aN cI 60 fN] [(0, .ref aP), (1, .int x1)] 0 [] := by
  have in_X0 : ∀ w ∈ wsX00, w ∈ wsX0_restart := fun w hw => List.mem_cons_of_mem _ (List.mem_append_right _ hw)
  have kw_code_Lib_Math_min_name_Lib_Math_min_code_2_some_int_ := hts (.code Lib.Math.min.name Lib.Math.min.code 2 (some .int)) (List.mem_of_getElem? (i := 4) rfl)
  have k_15 := hts (.fieldLink RX0 15 "RingTasks$Posts" "number" "[I") (List.mem_of_getElem? (i := 6) rfl)
  have k_28 := hts (.fieldLink RX0 28 "RingTasks$Posts" "size" "I") (List.mem_of_getElem? (i := 5) rfl)
  have kw_initialized_java_lang_Math_ := hts (.initialized "java/lang/Math") (List.mem_of_getElem? (i := 3) rfl)
  have k_22 := hts (.methodLink RX0 22 Lib.Math.min.name) (List.mem_of_getElem? (i := 1) rfl)
  have kw_static_Lib_Math_min_name := hts (.static Lib.Math.min.name) (List.mem_of_getElem? (i := 2) rfl)
  have B16 : ∀ (x2 : Int32) (pk : Int32) (fL : (Nat → Int32)) (fN : (Nat → Int32)), wp_X0_restart_b16 x2 pk fL fN post → mW p l e rm_X0_restart s m args below meth c 0 0 Q A (dC, dI) 3 [oP aP aL aN pk, aI aL cI 60 fL, aI aN cI 60 fN] [(0, .ref aP), (2, .int x2)] 16 [] := by
    intro x2 pk fL fN h
    unfold wp_X0_restart_b16 at h
    refine h (fun (x2 : Int32) (fN : (Nat → Int32)) => mW p l e rm_X0_restart s m args below meth c 0 0 Q A (dC, dI) 3 [oP aP aL aN pk, aI aL cI 60 fL, aI aN cI 60 fN] [(0, .ref aP), (2, .int x2)] 16 []) ?_
    intro x2 fN h
    intro H locs ls hP hD hS hl
    refine lv_iload_n hx hb dX0_restart_16 rfl (lv_at hl 1 rfl) ?_
    refine lv_aload_n hx hb dX0_restart_17 rfl (lv_at hl 0 rfl) ?_
    refine va_get (D := (dC, dI)) (ci := 0) (v := .int pk) (C := RX0) (T := TX0) (N := 3) hx hb hts in_X0 hown hK hP 0 rfl rfl 0 (by decide) k_28 (fun _ h9 => h9) rfl dX0_restart_18 ?_
    refine lv_icmp_ge (tgt := 37) hx hb dX0_restart_21 (by decide) (fun q21 => ?_) (fun q21 => ?_)
    · have h := h.1 q21
      exact ret _ _ _ H locs ls _ dX0_restart_37 h hP hD hS
    · have h := h.2 q21
      refine lv_aload_n hx hb dX0_restart_24 rfl (lv_at hl 0 rfl) ?_
      refine va_get (D := (dC, dI)) (ci := 0) (v := .ref aN) (C := RX0) (T := TX0) (N := 3) hx hb hts in_X0 hown hK hP 0 rfl rfl 2 (by decide) k_15 (fun _ h9 => h9) rfl dX0_restart_25 ?_
      refine lv_iload_n hx hb dX0_restart_28 rfl (lv_at hl 1 rfl) ?_
      refine lv_iload_n hx hb dX0_restart_29 rfl (lv_at hl 1 rfl) ?_
      refine va_iast (D := (dC, dI)) hx hb hK hP hD hS 2 0 rfl rfl h.1 dX0_restart_30 (fun H locs hP hD hS => ?_)
      obtain ⟨fN_30, efN_30⟩ : ∃ y, y = upd fN x2.toNatClampNeg x2 := ⟨_, rfl⟩
      have h := h.2 fN_30 efN_30
      have hP : va_P (dC, dI) vwCl [oP aP aL aN pk, aI aL cI 60 fL, aI aN cI 60 fN_30] H := by rw [efN_30]; exact hP
      have hD : va_D A [oP aP aL aN pk, aI aL cI 60 fL, aI aN cI 60 fN_30] := by rw [efN_30]; exact hD
      obtain ⟨v31, ev31⟩ : ∃ y : Int32, y = x2 + (1 : Int32) := ⟨_, rfl⟩
      have h := h v31 ev31
      refine lv_iinc (v := v31) (lv' := [(2, .int v31), (0, .ref aP)]) hx hb dX0_restart_31 hl (k := 1) rfl (by rw [ev31]; rfl) (by decide) rfl (fun ls hl => ?_)
      refine lv_goto (tgt := 16) hx hb dX0_restart_34 (by decide) ?_
      exact h H locs ls hP hD hS (lv_sub hl [1, 0] rfl)
  unfold wp_X0_restart at h
  intro H locs ls hP hD hS hl
  refine lv_aload_n hx hb dX0_restart_0 rfl (lv_at hl 0 rfl) ?_
  refine lv_iload_n hx hb dX0_restart_1 rfl (lv_at hl 1 rfl) ?_
  refine lv_bipush (v := 60) hx hb dX0_restart_2 (by decide) ?_
  refine va_mmin hx hb (hml.trans hl.1.symm) hown k_22 kw_static_Lib_Math_min_name kw_initialized_java_lang_Math_ kw_code_Lib_Math_min_name_Lib_Math_min_code_2_some_int_ (Nat.le_of_ble_eq_true rfl) (Nat.le_of_ble_eq_true rfl) (Nat.le_of_ble_eq_true rfl) (Nat.le_of_ble_eq_true rfl) dX0_restart_4 ?_
  refine lv_topi (fun v7 ev7 => ?_)
  have h := h v7 ev7
  refine va_put (D := (dC, dI)) (ci := 0) (v := .int v7) (ty := .int) (C := RX0) (T := TX0) (N := 3) hx hb hts in_X0 tyX0 tyX0_ok nmX0 hown hK hP hD hS 0 rfl rfl 0 (by decide) k_28 (fun _ h9 => h9) rfl (by decide +kernel) rfl rfl (Nat.le_of_ble_eq_true rfl) dX0_restart_7 (fun H locs hP hD hS => ?_)
  have hP : va_P (dC, dI) vwCl [oP aP aL aN v7, aI aL cI 60 fL, aI aN cI 60 fN] H := hP
  have hD : va_D A [oP aP aL aN v7, aI aL cI 60 fL, aI aN cI 60 fN] := hD
  refine lv_aload_n hx hb dX0_restart_10 rfl (lv_at hl 0 rfl) ?_
  refine mVv (wr := [aI aN cI 60 fN]) (As := []) (rest := []) ⟨hx, hb, hml, hown, hts⟩ (c_X0_clearLabels (l := l) (dC := dC) (dI := dI) (cI := cI) (cJ := cJ) (cZ := cZ) (aP := aP) (aL := aL) (aN := aN) h) (cwV 0 hts gX0_restart_X0_clearLabels rfl rfl rfl hv_X0_clearLabels ⟨Nat.le_of_ble_eq_true rfl, Nat.le_of_ble_eq_true rfl⟩) hK hP hD hS hA [0, 1] [2] rfl rfl rfl rfl (by decide) 0 rfl rfl rfl rfl hl.1 rfl (Nat.le_of_ble_eq_true rfl) ⟨Nat.zero_le _, Nat.zero_le _⟩ dX0_restart_11 (fun fL_11 H locs h hP hD hS => ?_)
  have hP : va_P (dC, dI) vwCl [oP aP aL aN v7, aI aL cI 60 fL_11, aI aN cI 60 fN] H := hP.sub [1, 2, 0] rfl
  have hD : va_D A [oP aP aL aN v7, aI aL cI 60 fL_11, aI aN cI 60 fN] := hD.sub [1, 2, 0] rfl rfl
  refine lv_iconst (v := 0) hx hb dX0_restart_14 (by decide) ?_
  refine lv_istore_n (lv' := [(2, .int (0 : Int32)), (0, .ref aP), (1, .int x1)]) hx hb dX0_restart_15 rfl hl (by decide) rfl (fun ls hl => ?_)
  exact B16 _ _ _ _ h H locs ls hP hD hS (lv_sub hl [1, 0] rfl)
set_option maxHeartbeats 4000000 in
set_option maxRecDepth 100000 in
theorem c_X0_restart {l : Launch} {dC : Nat → ClassId} {dI : Nat → Nat → Nat} {cI cJ cZ : ClassId} {aP aL aN : Nat} {pk : Int32} {fL : (Nat → Int32)} {fN : (Nat → Int32)} {x1 : Int32} {post : Int32 → (Nat → Int32) → (Nat → Int32) → Prop} (h : wp_X0_restart x1 pk fL fN post) : ∀ sz, Met l yX0_restart wsX0_restart rm_X0_restart (mP (dC, dI) (mTy cI cJ cZ) [.ref aP, .int x1] [oP aP aL aN pk, aI aL cI 60 fL, aI aN cI 60 fN] sz) (va_Qv (fun (u : Int32 × (Nat → Int32) × (Nat → Int32)) => post (u.1) (u.2.1) (u.2.2)) (mB (dC, dI) (va_A [oP aP aL aN pk, aI aL cI 60 fL, aI aN cI 60 fN] sz) (fun u => [oP aP aL aN (u.1), aI aL cI 60 (u.2.1), aI aN cI 60 (u.2.2)])) (va_A [oP aP aL aN pk, aI aL cI 60 fL, aI aN cI 60 fN] sz)) 0 0 (va_A [oP aP aL aN pk, aI aL cI 60 fL, aI aN cI 60 fN] sz) := by
  intro sz
  refine Met.ofW (cc := cX0_restart) (maxL := 3) (ret := none) (by decide) rfl ?_
  intro p e s m args below meth c s₁ B hml hv
  obtain ⟨rfl, hsz, hP, hK, hD0⟩ := hv
  have hlocks := B.notSynchronized
  subst hsz
  have hD := hD0.self (sz := s.heap.size)
  have hl := lv_entry ([.ref aP, .int x1]) (n := 3) (Nat.le_of_ble_eq_true rfl)
  rw [lg_entry_eq]
  exact k_X0_restart B.exec B.bytes hml (findClass_of_methodNamed B.named) (atoms_spec (ws := wsX0_restart) B.pre) hK (fun q hq => Or.inr hq) (fun pk' fL' fN' H locs ls pc hd hp hP hD hS => W.vret B.exec B.bytes B.returns (fun t ht hW => ⟨⟨(pk', fL', fN'), rfl, hp, by rw [ht]; exact hP, hD⟩, hS.F ht⟩) hS.2.2 hd) h s.heap [] _ hP hD va_S.rf hl

def wp_X0_has (x1 : Int32) (pk : Int32) (post : Int32 → Prop) : Prop := ((x1 < (0 : Int32) → post (0 : Int32)) ∧ (¬ x1 < (0 : Int32) → ((pk ≤ x1 → post (0 : Int32)) ∧ (¬ pk ≤ x1 → post (1 : Int32)))))
abbrev rm_X0_has : Room := { frames := 0, cells := 0, slots := 0, locals := 0 }
theorem hv_X0_has : yX0_has.cls = RX0 ∧ yX0_has.cls ≠ "java/lang/invoke/MethodHandle" ∧ yX0_has.cls ≠ "java/lang/invoke/VarHandle" ∧ (parseMethodDescriptor yX0_has.desc).map (fun d => d.parameters.length) = some 1 := by decide +kernel
set_option maxHeartbeats 4000000 in
set_option maxRecDepth 100000 in
theorem k_X0_has {p : Program} {l : Launch} {e : Env} {s : State} {m : MethodId} {args : Array Value} {below : List Frame} {meth : Method} {c : Code} {Q : State → Prop} {A : Nat → Prop} {dC : Nat → ClassId} {dI : Nat → Nat → Nat} {cI cJ cZ : ClassId} (hx : p.tables.exec = Jvm.exec) (hb : c.code = cX0_has) (hml : c.maxLocals = 2) (hown : s.vm.findClass RX0 = some m.cls) (hts : ∀ w ∈ wsX0_has, w.before args s = true) (hK : va_K (dC, dI) vwCl (mTy cI cJ cZ) s) (hA : ∀ q, s.heap.size ≤ q → A q) {aP aL aN : Nat} {pk : Int32} {x1 : Int32} {post : Int32 → Prop} (ret : ∀ (r : Int32) (H : Heap) (locs : List Loc) (ls : Array Slot) (pc : Nat), decode cX0_has pc = .ok (.ireturn, 1) → (r = 0 ∨ r = 1) → post r → va_P (dC, dI) vwCl [oP aP aL aN pk] H → va_D A [oP aP aL aN pk] → va_S A s.heap H locs → W p l e rm_X0_has s m args below meth c H locs 0 0 Q (F0 m pc ls [.int r])) (h : wp_X0_has x1 pk post) : mW p l e rm_X0_has s m args below meth c 0 0 Q A (dC, dI) 2 [oP aP aL aN pk] [(0, .ref aP), (1, .int x1)] 0 [] := by
  have in_X0 : ∀ w ∈ wsX00, w ∈ wsX0_has := fun w hw => List.mem_cons_of_mem _ (List.mem_append_right _ hw)
  have k_28 := hts (.fieldLink RX0 28 "RingTasks$Posts" "size" "I") (List.mem_of_getElem? (i := 1) rfl)
  unfold wp_X0_has at h
  intro H locs ls hP hD hS hl
  refine lv_iload_n hx hb dX0_has_0 rfl (lv_at hl 1 rfl) ?_
  refine lv_if_lt (tgt := 16) hx hb dX0_has_1 (by decide) (fun q1 => ?_) (fun q1 => ?_)
  · have h := h.1 q1
    refine lv_iconst (v := 0) hx hb dX0_has_16 (by decide) ?_
    exact ret _  H locs ls _ dX0_has_17 (Or.inl rfl) h hP hD hS
  · have h := h.2 q1
    refine lv_iload_n hx hb dX0_has_4 rfl (lv_at hl 1 rfl) ?_
    refine lv_aload_n hx hb dX0_has_5 rfl (lv_at hl 0 rfl) ?_
    refine va_get (D := (dC, dI)) (ci := 0) (v := .int pk) (C := RX0) (T := TX0) (N := 3) hx hb hts in_X0 hown hK hP 0 rfl rfl 0 (by decide) k_28 (fun _ h9 => h9) rfl dX0_has_6 ?_
    refine lv_icmp_ge (tgt := 16) hx hb dX0_has_9 (by decide) (fun q9 => ?_) (fun q9 => ?_)
    · have h := h.1 q9
      refine lv_iconst (v := 0) hx hb dX0_has_16 (by decide) ?_
      exact ret _  H locs ls _ dX0_has_17 (Or.inl rfl) h hP hD hS
    · have h := h.2 q9
      refine lv_iconst (v := 1) hx hb dX0_has_12 (by decide) ?_
      refine lv_goto (tgt := 17) hx hb dX0_has_13 (by decide) ?_
      exact ret _  H locs ls _ dX0_has_17 (Or.inr rfl) h hP hD hS
set_option maxHeartbeats 4000000 in
set_option maxRecDepth 100000 in
theorem c_X0_has {l : Launch} {dC : Nat → ClassId} {dI : Nat → Nat → Nat} {cI cJ cZ : ClassId} {aP aL aN : Nat} {pk : Int32} {x1 : Int32} {post : Int32 → Prop} (h : wp_X0_has x1 pk post) : ∀ sz, Met l yX0_has wsX0_has rm_X0_has (mP (dC, dI) (mTy cI cJ cZ) [.ref aP, .int x1] [oP aP aL aN pk] sz) (va_Qi (fun (r : Int32) (u : Unit) => post r ) (mB (dC, dI) (va_A [oP aP aL aN pk] sz) (fun u => [oP aP aL aN pk])) (va_A [oP aP aL aN pk] sz)) 0 0 (va_A [oP aP aL aN pk] sz) := by
  intro sz
  refine Met.ofW (cc := cX0_has) (maxL := 2) (ret := (some .boolean)) (by decide) rfl ?_
  intro p e s m args below meth c s₁ B hml hv
  obtain ⟨rfl, hsz, hP, hK, hD0⟩ := hv
  have hlocks := B.notSynchronized
  subst hsz
  have hD := hD0.self (sz := s.heap.size)
  have hl := lv_entry ([.ref aP, .int x1]) (n := 2) (Nat.le_of_ble_eq_true rfl)
  rw [lg_entry_eq]
  exact k_X0_has B.exec B.bytes hml (findClass_of_methodNamed B.named) (atoms_spec (ws := wsX0_has) B.pre) hK (fun q hq => Or.inr hq) (fun r H locs ls pc hd hz hp hP hD hS => W.zret B.exec B.bytes B.returns (m_bz hz) (fun t ht hW => ⟨⟨r, (), rfl, hp, by rw [ht]; exact hP, hD⟩, hS.F ht⟩) hS.2.2 hd) h s.heap [] _ hP hD va_S.rf hl

def wp_X0_next (x1 : Int32) (pk : Int32) (post : Int32 → Prop) : Prop := ((pk ≤ (x1 + (1 : Int32)) → post (0 : Int32)) ∧ (¬ pk ≤ (x1 + (1 : Int32)) → post (x1 + (1 : Int32))))
abbrev rm_X0_next : Room := { frames := 0, cells := 0, slots := 0, locals := 0 }
theorem hv_X0_next : yX0_next.cls = RX0 ∧ yX0_next.cls ≠ "java/lang/invoke/MethodHandle" ∧ yX0_next.cls ≠ "java/lang/invoke/VarHandle" ∧ (parseMethodDescriptor yX0_next.desc).map (fun d => d.parameters.length) = some 1 := by decide +kernel
set_option maxHeartbeats 4000000 in
set_option maxRecDepth 100000 in
theorem k_X0_next {p : Program} {l : Launch} {e : Env} {s : State} {m : MethodId} {args : Array Value} {below : List Frame} {meth : Method} {c : Code} {Q : State → Prop} {A : Nat → Prop} {dC : Nat → ClassId} {dI : Nat → Nat → Nat} {cI cJ cZ : ClassId} (hx : p.tables.exec = Jvm.exec) (hb : c.code = cX0_next) (hml : c.maxLocals = 2) (hown : s.vm.findClass RX0 = some m.cls) (hts : ∀ w ∈ wsX0_next, w.before args s = true) (hK : va_K (dC, dI) vwCl (mTy cI cJ cZ) s) (hA : ∀ q, s.heap.size ≤ q → A q) {aP aL aN : Nat} {pk : Int32} {x1 : Int32} {post : Int32 → Prop} (ret : ∀ (r : Int32) (H : Heap) (locs : List Loc) (ls : Array Slot) (pc : Nat), decode cX0_next pc = .ok (.ireturn, 1) → post r → va_P (dC, dI) vwCl [oP aP aL aN pk] H → va_D A [oP aP aL aN pk] → va_S A s.heap H locs → W p l e rm_X0_next s m args below meth c H locs 0 0 Q (F0 m pc ls [.int r])) (h : wp_X0_next x1 pk post) : mW p l e rm_X0_next s m args below meth c 0 0 Q A (dC, dI) 2 [oP aP aL aN pk] [(0, .ref aP), (1, .int x1)] 0 [] := by
  have in_X0 : ∀ w ∈ wsX00, w ∈ wsX0_next := fun w hw => List.mem_cons_of_mem _ (List.mem_append_right _ hw)
  have k_28 := hts (.fieldLink RX0 28 "RingTasks$Posts" "size" "I") (List.mem_of_getElem? (i := 1) rfl)
  unfold wp_X0_next at h
  intro H locs ls hP hD hS hl
  refine lv_iload_n hx hb dX0_next_0 rfl (lv_at hl 1 rfl) ?_
  refine lv_iconst (v := 1) hx hb dX0_next_1 (by decide) ?_
  refine lv_iadd hx hb dX0_next_2 ?_
  refine lv_aload_n hx hb dX0_next_3 rfl (lv_at hl 0 rfl) ?_
  refine va_get (D := (dC, dI)) (ci := 0) (v := .int pk) (C := RX0) (T := TX0) (N := 3) hx hb hts in_X0 hown hK hP 0 rfl rfl 0 (by decide) k_28 (fun _ h9 => h9) rfl dX0_next_4 ?_
  refine lv_icmp_ge (tgt := 16) hx hb dX0_next_7 (by decide) (fun q7 => ?_) (fun q7 => ?_)
  · have h := h.1 q7
    refine lv_iconst (v := 0) hx hb dX0_next_16 (by decide) ?_
    exact ret _  H locs ls _ dX0_next_17 h hP hD hS
  · have h := h.2 q7
    refine lv_iload_n hx hb dX0_next_10 rfl (lv_at hl 1 rfl) ?_
    refine lv_iconst (v := 1) hx hb dX0_next_11 (by decide) ?_
    refine lv_iadd hx hb dX0_next_12 ?_
    refine lv_goto (tgt := 17) hx hb dX0_next_13 (by decide) ?_
    exact ret _  H locs ls _ dX0_next_17 h hP hD hS
set_option maxHeartbeats 4000000 in
set_option maxRecDepth 100000 in
theorem c_X0_next {l : Launch} {dC : Nat → ClassId} {dI : Nat → Nat → Nat} {cI cJ cZ : ClassId} {aP aL aN : Nat} {pk : Int32} {x1 : Int32} {post : Int32 → Prop} (h : wp_X0_next x1 pk post) : ∀ sz, Met l yX0_next wsX0_next rm_X0_next (mP (dC, dI) (mTy cI cJ cZ) [.ref aP, .int x1] [oP aP aL aN pk] sz) (va_Qi (fun (r : Int32) (u : Unit) => post r ) (mB (dC, dI) (va_A [oP aP aL aN pk] sz) (fun u => [oP aP aL aN pk])) (va_A [oP aP aL aN pk] sz)) 0 0 (va_A [oP aP aL aN pk] sz) := by
  intro sz
  refine Met.ofW (cc := cX0_next) (maxL := 2) (ret := (some .int)) (by decide) rfl ?_
  intro p e s m args below meth c s₁ B hml hv
  obtain ⟨rfl, hsz, hP, hK, hD0⟩ := hv
  have hlocks := B.notSynchronized
  subst hsz
  have hD := hD0.self (sz := s.heap.size)
  have hl := lv_entry ([.ref aP, .int x1]) (n := 2) (Nat.le_of_ble_eq_true rfl)
  rw [lg_entry_eq]
  exact k_X0_next B.exec B.bytes hml (findClass_of_methodNamed B.named) (atoms_spec (ws := wsX0_next) B.pre) hK (fun q hq => Or.inr hq) (fun r H locs ls pc hd hp hP hD hS => W.iret B.exec B.bytes B.returns (fun t ht hW => ⟨⟨r, (), rfl, hp, by rw [ht]; exact hP, hD⟩, hS.F ht⟩) hS.2.2 hd) h s.heap [] _ hP hD va_S.rf hl

def wp_X0_previous (x1 : Int32) (pk : Int32) (post : Int32 → Prop) : Prop := ((x1 ≤ (0 : Int32) → post (pk - (1 : Int32))) ∧ (¬ x1 ≤ (0 : Int32) → post (x1 - (1 : Int32))))
abbrev rm_X0_previous : Room := { frames := 0, cells := 0, slots := 0, locals := 0 }
theorem hv_X0_previous : yX0_previous.cls = RX0 ∧ yX0_previous.cls ≠ "java/lang/invoke/MethodHandle" ∧ yX0_previous.cls ≠ "java/lang/invoke/VarHandle" ∧ (parseMethodDescriptor yX0_previous.desc).map (fun d => d.parameters.length) = some 1 := by decide +kernel
set_option maxHeartbeats 4000000 in
set_option maxRecDepth 100000 in
theorem k_X0_previous {p : Program} {l : Launch} {e : Env} {s : State} {m : MethodId} {args : Array Value} {below : List Frame} {meth : Method} {c : Code} {Q : State → Prop} {A : Nat → Prop} {dC : Nat → ClassId} {dI : Nat → Nat → Nat} {cI cJ cZ : ClassId} (hx : p.tables.exec = Jvm.exec) (hb : c.code = cX0_previous) (hml : c.maxLocals = 2) (hown : s.vm.findClass RX0 = some m.cls) (hts : ∀ w ∈ wsX0_previous, w.before args s = true) (hK : va_K (dC, dI) vwCl (mTy cI cJ cZ) s) (hA : ∀ q, s.heap.size ≤ q → A q) {aP aL aN : Nat} {pk : Int32} {x1 : Int32} {post : Int32 → Prop} (ret : ∀ (r : Int32) (H : Heap) (locs : List Loc) (ls : Array Slot) (pc : Nat), decode cX0_previous pc = .ok (.ireturn, 1) → post r → va_P (dC, dI) vwCl [oP aP aL aN pk] H → va_D A [oP aP aL aN pk] → va_S A s.heap H locs → W p l e rm_X0_previous s m args below meth c H locs 0 0 Q (F0 m pc ls [.int r])) (h : wp_X0_previous x1 pk post) : mW p l e rm_X0_previous s m args below meth c 0 0 Q A (dC, dI) 2 [oP aP aL aN pk] [(0, .ref aP), (1, .int x1)] 0 [] := by
  have in_X0 : ∀ w ∈ wsX00, w ∈ wsX0_previous := fun w hw => List.mem_cons_of_mem _ (List.mem_append_right _ hw)
  have k_28 := hts (.fieldLink RX0 28 "RingTasks$Posts" "size" "I") (List.mem_of_getElem? (i := 1) rfl)
  unfold wp_X0_previous at h
  intro H locs ls hP hD hS hl
  refine lv_iload_n hx hb dX0_previous_0 rfl (lv_at hl 1 rfl) ?_
  refine lv_if_le (tgt := 10) hx hb dX0_previous_1 (by decide) (fun q1 => ?_) (fun q1 => ?_)
  · have h := h.1 q1
    refine lv_aload_n hx hb dX0_previous_10 rfl (lv_at hl 0 rfl) ?_
    refine va_get (D := (dC, dI)) (ci := 0) (v := .int pk) (C := RX0) (T := TX0) (N := 3) hx hb hts in_X0 hown hK hP 0 rfl rfl 0 (by decide) k_28 (fun _ h9 => h9) rfl dX0_previous_11 ?_
    refine lv_iconst (v := 1) hx hb dX0_previous_14 (by decide) ?_
    refine lv_isub hx hb dX0_previous_15 ?_
    exact ret _  H locs ls _ dX0_previous_16 h hP hD hS
  · have h := h.2 q1
    refine lv_iload_n hx hb dX0_previous_4 rfl (lv_at hl 1 rfl) ?_
    refine lv_iconst (v := 1) hx hb dX0_previous_5 (by decide) ?_
    refine lv_isub hx hb dX0_previous_6 ?_
    refine lv_goto (tgt := 16) hx hb dX0_previous_7 (by decide) ?_
    exact ret _  H locs ls _ dX0_previous_16 h hP hD hS
set_option maxHeartbeats 4000000 in
set_option maxRecDepth 100000 in
theorem c_X0_previous {l : Launch} {dC : Nat → ClassId} {dI : Nat → Nat → Nat} {cI cJ cZ : ClassId} {aP aL aN : Nat} {pk : Int32} {x1 : Int32} {post : Int32 → Prop} (h : wp_X0_previous x1 pk post) : ∀ sz, Met l yX0_previous wsX0_previous rm_X0_previous (mP (dC, dI) (mTy cI cJ cZ) [.ref aP, .int x1] [oP aP aL aN pk] sz) (va_Qi (fun (r : Int32) (u : Unit) => post r ) (mB (dC, dI) (va_A [oP aP aL aN pk] sz) (fun u => [oP aP aL aN pk])) (va_A [oP aP aL aN pk] sz)) 0 0 (va_A [oP aP aL aN pk] sz) := by
  intro sz
  refine Met.ofW (cc := cX0_previous) (maxL := 2) (ret := (some .int)) (by decide) rfl ?_
  intro p e s m args below meth c s₁ B hml hv
  obtain ⟨rfl, hsz, hP, hK, hD0⟩ := hv
  have hlocks := B.notSynchronized
  subst hsz
  have hD := hD0.self (sz := s.heap.size)
  have hl := lv_entry ([.ref aP, .int x1]) (n := 2) (Nat.le_of_ble_eq_true rfl)
  rw [lg_entry_eq]
  exact k_X0_previous B.exec B.bytes hml (findClass_of_methodNamed B.named) (atoms_spec (ws := wsX0_previous) B.pre) hK (fun q hq => Or.inr hq) (fun r H locs ls pc hd hp hP hD hS => W.iret B.exec B.bytes B.returns (fun t ht hW => ⟨⟨r, (), rfl, hp, by rw [ht]; exact hP, hD⟩, hS.F ht⟩) hS.2.2 hd) h s.heap [] _ hP hD va_S.rf hl

def wp_X0_isFault (x1 : Int32) (pk : Int32) (fL : (Nat → Int32)) (tk : Int32) (fB : (Nat → Int32)) (post : Int32 → Prop) : Prop := (vp_in x1 60 ∧ wp_X0_next x1 pk (fun (r13 : Int32) => (vp_in r13 60 ∧ wp_X1_mayFollow (fL x1.toNatClampNeg) (fL r13.toNatClampNeg) tk fB (fun (r17 : Int32) => ((¬ r17 = (0 : Int32) → post (0 : Int32)) ∧ (r17 = (0 : Int32) → post (1 : Int32)))))))
abbrev rm_X0_isFault : Room := { frames := 2, cells := 0, slots := 0, locals := 43 }
theorem hv_X0_isFault : yX0_isFault.cls = RX0 ∧ yX0_isFault.cls ≠ "java/lang/invoke/MethodHandle" ∧ yX0_isFault.cls ≠ "java/lang/invoke/VarHandle" ∧ (parseMethodDescriptor yX0_isFault.desc).map (fun d => d.parameters.length) = some 2 := by decide +kernel
set_option maxHeartbeats 4000000 in
set_option maxRecDepth 100000 in
theorem k_X0_isFault {p : Program} {l : Launch} {e : Env} {s : State} {m : MethodId} {args : Array Value} {below : List Frame} {meth : Method} {c : Code} {Q : State → Prop} {A : Nat → Prop} {dC : Nat → ClassId} {dI : Nat → Nat → Nat} {cI cJ cZ : ClassId} (hx : p.tables.exec = Jvm.exec) (hb : c.code = cX0_isFault) (hml : c.maxLocals = 3) (hown : s.vm.findClass RX0 = some m.cls) (hts : ∀ w ∈ wsX0_isFault, w.before args s = true) (hK : va_K (dC, dI) vwCl (mTy cI cJ cZ) s) (hA : ∀ q, s.heap.size ≤ q → A q) {aP aL aN aT aB aWK aRE aY aZ : Nat} {pk : Int32} {fL : (Nat → Int32)} {tk : Int32} {fB : (Nat → Int32)} {x1 : Int32} {post : Int32 → Prop} (ret : ∀ (r : Int32) (H : Heap) (locs : List Loc) (ls : Array Slot) (pc : Nat), decode cX0_isFault pc = .ok (.ireturn, 1) → (r = 0 ∨ r = 1) → post r → va_P (dC, dI) vwCl [oP aP aL aN pk, aI aL cI 60 fL, oT aT aB aWK aRE aY aZ tk, aI aB cI 6 fB] H → va_D A [oP aP aL aN pk, aI aL cI 60 fL, oT aT aB aWK aRE aY aZ tk, aI aB cI 6 fB] → va_S A s.heap H locs → W p l e rm_X0_isFault s m args below meth c H locs 0 0 Q (F0 m pc ls [.int r])) (h : wp_X0_isFault x1 pk fL tk fB post) : mW p l e rm_X0_isFault s m args below meth c 0 0 Q A (dC, dI) 3 [oP aP aL aN pk, aI aL cI 60 fL, oT aT aB aWK aRE aY aZ tk, aI aB cI 6 fB] [(0, .ref aP), (1, .int x1), (2, .ref aT)] 0 [] := by
  have in_X0 : ∀ w ∈ wsX00, w ∈ wsX0_isFault := fun w hw => List.mem_cons_of_mem _ (List.mem_append_left _ (List.mem_append_right _ hw))
  have k_9 := hts (.fieldLink RX0 9 "RingTasks$Posts" "label" "[I") (List.mem_of_getElem? (i := 1) rfl)
  unfold wp_X0_isFault at h
  intro H locs ls hP hD hS hl
  refine lv_aload_n hx hb dX0_isFault_0 rfl (lv_at hl 2 rfl) ?_
  refine lv_aload_n hx hb dX0_isFault_1 rfl (lv_at hl 0 rfl) ?_
  refine va_get (D := (dC, dI)) (ci := 0) (v := .ref aL) (C := RX0) (T := TX0) (N := 3) hx hb hts in_X0 hown hK hP 0 rfl rfl 1 (by decide) k_9 (fun _ h9 => h9) rfl dX0_isFault_2 ?_
  refine lv_iload_n hx hb dX0_isFault_5 rfl (lv_at hl 1 rfl) ?_
  refine va_iald (D := (dC, dI)) hx hb hK hP 1 0 rfl rfl h.1 dX0_isFault_6 ?_
  have h := h.2
  refine lv_aload_n hx hb dX0_isFault_7 rfl (lv_at hl 0 rfl) ?_
  refine va_get (D := (dC, dI)) (ci := 0) (v := .ref aL) (C := RX0) (T := TX0) (N := 3) hx hb hts in_X0 hown hK hP 0 rfl rfl 1 (by decide) k_9 (fun _ h9 => h9) rfl dX0_isFault_8 ?_
  refine lv_aload_n hx hb dX0_isFault_11 rfl (lv_at hl 0 rfl) ?_
  refine lv_iload_n hx hb dX0_isFault_12 rfl (lv_at hl 1 rfl) ?_
  refine mVi (wr := [aI aL cI 60 fL, oT aT aB aWK aRE aY aZ tk, aI aB cI 6 fB]) (As := [.int x1]) (rest := [.ref aL, .int (fL x1.toNatClampNeg), .ref aT]) ⟨hx, hb, hml, hown, hts⟩ (c_X0_next (l := l) (dC := dC) (dI := dI) (cI := cI) (cJ := cJ) (cZ := cZ) (aP := aP) (aL := aL) (aN := aN) h) (cwV 1 hts gX0_isFault_X0_next rfl rfl rfl hv_X0_next ⟨Nat.le_of_ble_eq_true rfl, Nat.le_of_ble_eq_true rfl⟩) hK hP hD hS hA [0] [1, 2, 3] rfl rfl rfl rfl (by decide) 0 rfl rfl rfl rfl hl.1 rfl (Nat.le_of_ble_eq_true rfl) ⟨Nat.zero_le _, Nat.zero_le _⟩ dX0_isFault_13 (fun r13 u13 H locs h hP hD hS => ?_)
  have hP : va_P (dC, dI) vwCl [oP aP aL aN pk, aI aL cI 60 fL, oT aT aB aWK aRE aY aZ tk, aI aB cI 6 fB] H := hP.sub [3, 0, 1, 2] rfl
  have hD : va_D A [oP aP aL aN pk, aI aL cI 60 fL, oT aT aB aWK aRE aY aZ tk, aI aB cI 6 fB] := hD.sub [3, 0, 1, 2] rfl rfl
  refine va_iald (D := (dC, dI)) hx hb hK hP 1 0 rfl rfl h.1 dX0_isFault_16 ?_
  have h := h.2
  refine mVi (wr := [oP aP aL aN pk, aI aL cI 60 fL]) (As := [.int (fL x1.toNatClampNeg), .int (fL r13.toNatClampNeg)]) (rest := []) ⟨hx, hb, hml, hown, hts⟩ (c_X1_mayFollow (l := l) (dC := dC) (dI := dI) (cI := cI) (cJ := cJ) (cZ := cZ) (aT := aT) (aB := aB) (aWK := aWK) (aRE := aRE) (aY := aY) (aZ := aZ) h) (cwV 2 hts gX0_isFault_X1_mayFollow rfl rfl rfl hv_X1_mayFollow ⟨Nat.le_of_ble_eq_true rfl, Nat.le_of_ble_eq_true rfl⟩) hK hP hD hS hA [2, 3] [0, 1] rfl rfl rfl rfl (by decide) 1 rfl rfl rfl rfl hl.1 rfl (Nat.le_of_ble_eq_true rfl) ⟨Nat.zero_le _, Nat.zero_le _⟩ dX0_isFault_17 (fun r17 u17 H locs h hP hD hS => ?_)
  have hP : va_P (dC, dI) vwCl [oP aP aL aN pk, aI aL cI 60 fL, oT aT aB aWK aRE aY aZ tk, aI aB cI 6 fB] H := hP.sub [0, 1, 2, 3] rfl
  have hD : va_D A [oP aP aL aN pk, aI aL cI 60 fL, oT aT aB aWK aRE aY aZ tk, aI aB cI 6 fB] := hD.sub [0, 1, 2, 3] rfl rfl
  refine lv_if_ne (tgt := 27) hx hb dX0_isFault_20 (by decide) (fun q20 => ?_) (fun q20 => ?_)
  · have h := h.1 q20
    refine lv_iconst (v := 0) hx hb dX0_isFault_27 (by decide) ?_
    exact ret _  H locs ls _ dX0_isFault_28 (Or.inl rfl) h hP hD hS
  · have h := h.2 q20
    refine lv_iconst (v := 1) hx hb dX0_isFault_23 (by decide) ?_
    refine lv_goto (tgt := 28) hx hb dX0_isFault_24 (by decide) ?_
    exact ret _  H locs ls _ dX0_isFault_28 (Or.inr rfl) h hP hD hS
set_option maxHeartbeats 4000000 in
set_option maxRecDepth 100000 in
theorem c_X0_isFault {l : Launch} {dC : Nat → ClassId} {dI : Nat → Nat → Nat} {cI cJ cZ : ClassId} {aP aL aN aT aB aWK aRE aY aZ : Nat} {pk : Int32} {fL : (Nat → Int32)} {tk : Int32} {fB : (Nat → Int32)} {x1 : Int32} {post : Int32 → Prop} (h : wp_X0_isFault x1 pk fL tk fB post) : ∀ sz, Met l yX0_isFault wsX0_isFault rm_X0_isFault (mP (dC, dI) (mTy cI cJ cZ) [.ref aP, .int x1, .ref aT] [oP aP aL aN pk, aI aL cI 60 fL, oT aT aB aWK aRE aY aZ tk, aI aB cI 6 fB] sz) (va_Qi (fun (r : Int32) (u : Unit) => post r ) (mB (dC, dI) (va_A [oP aP aL aN pk, aI aL cI 60 fL, oT aT aB aWK aRE aY aZ tk, aI aB cI 6 fB] sz) (fun u => [oP aP aL aN pk, aI aL cI 60 fL, oT aT aB aWK aRE aY aZ tk, aI aB cI 6 fB])) (va_A [oP aP aL aN pk, aI aL cI 60 fL, oT aT aB aWK aRE aY aZ tk, aI aB cI 6 fB] sz)) 0 0 (va_A [oP aP aL aN pk, aI aL cI 60 fL, oT aT aB aWK aRE aY aZ tk, aI aB cI 6 fB] sz) := by
  intro sz
  refine Met.ofW (cc := cX0_isFault) (maxL := 3) (ret := (some .boolean)) (by decide) rfl ?_
  intro p e s m args below meth c s₁ B hml hv
  obtain ⟨rfl, hsz, hP, hK, hD0⟩ := hv
  have hlocks := B.notSynchronized
  subst hsz
  have hD := hD0.self (sz := s.heap.size)
  have hl := lv_entry ([.ref aP, .int x1, .ref aT]) (n := 3) (Nat.le_of_ble_eq_true rfl)
  rw [lg_entry_eq]
  exact k_X0_isFault B.exec B.bytes hml (findClass_of_methodNamed B.named) (atoms_spec (ws := wsX0_isFault) B.pre) hK (fun q hq => Or.inr hq) (fun r H locs ls pc hd hz hp hP hD hS => W.zret B.exec B.bytes B.returns (m_bz hz) (fun t ht hW => ⟨⟨r, (), rfl, hp, by rw [ht]; exact hP, hD⟩, hS.F ht⟩) hS.2.2 hd) h s.heap [] _ hP hD va_S.rf hl

def wp_X0_faultFrom_b5 (x3 : Int32) (x4 : Int32) (pk : Int32) (fL : (Nat → Int32)) (tk : Int32) (fB : (Nat → Int32)) (post : Int32 → Prop)  : Prop := ∀ P5 : Int32 → Int32 → Prop, (∀ (x3 : Int32) (x4 : Int32), ((pk ≤ x4 → post (-9 : Int32)) ∧ (¬ pk ≤ x4 → wp_X0_isFault x3 pk fL tk fB (fun (r17 : Int32) => ((r17 = (0 : Int32) → wp_X0_next x3 pk (fun (r27 : Int32) => (∀ v31 : Int32, v31 = x4 + (1 : Int32) → P5 r27 v31))) ∧ (¬ r17 = (0 : Int32) → post x3))))) → P5 x3 x4) → P5 x3 x4
def wp_X0_faultFrom (x1 : Int32) (pk : Int32) (fL : (Nat → Int32)) (tk : Int32) (fB : (Nat → Int32)) (post : Int32 → Prop) : Prop := wp_X0_faultFrom_b5 x1 (0 : Int32) pk fL tk fB post
abbrev rm_X0_faultFrom : Room := { frames := 3, cells := 0, slots := 0, locals := 65 }
theorem hv_X0_faultFrom : yX0_faultFrom.cls = RX0 ∧ yX0_faultFrom.cls ≠ "java/lang/invoke/MethodHandle" ∧ yX0_faultFrom.cls ≠ "java/lang/invoke/VarHandle" ∧ (parseMethodDescriptor yX0_faultFrom.desc).map (fun d => d.parameters.length) = some 2 := by decide +kernel
set_option maxHeartbeats 4000000 in
set_option maxRecDepth 100000 in
theorem k_X0_faultFrom {p : Program} {l : Launch} {e : Env} {s : State} {m : MethodId} {args : Array Value} {below : List Frame} {meth : Method} {c : Code} {Q : State → Prop} {A : Nat → Prop} {dC : Nat → ClassId} {dI : Nat → Nat → Nat} {cI cJ cZ : ClassId} (hx : p.tables.exec = Jvm.exec) (hb : c.code = cX0_faultFrom) (hml : c.maxLocals = 5) (hown : s.vm.findClass RX0 = some m.cls) (hts : ∀ w ∈ wsX0_faultFrom, w.before args s = true) (hK : va_K (dC, dI) vwCl (mTy cI cJ cZ) s) (hA : ∀ q, s.heap.size ≤ q → A q) {aP aL aN aT aB aWK aRE aY aZ : Nat} {pk : Int32} {fL : (Nat → Int32)} {tk : Int32} {fB : (Nat → Int32)} {x1 : Int32} {post : Int32 → Prop} (ret : ∀ (r : Int32) (H : Heap) (locs : List Loc) (ls : Array Slot) (pc : Nat), decode cX0_faultFrom pc = .ok (.ireturn, 1) → post r → va_P (dC, dI) vwCl [oP aP aL aN pk, aI aL cI 60 fL, oT aT aB aWK aRE aY aZ tk, aI aB cI 6 fB] H → va_D A [oP aP aL aN pk, aI aL cI 60 fL, oT aT aB aWK aRE aY aZ tk, aI aB cI 6 fB] → va_S A s.heap H locs → W p l e rm_X0_faultFrom s m args below meth c H locs 0 0 Q (F0 m pc ls [.int r])) (h : wp_X0_faultFrom x1 pk fL tk fB post) : mW p l e rm_X0_faultFrom s m args below meth c 0 0 Q A (dC, dI) 5 [oP aP aL aN pk, aI aL cI 60 fL, oT aT aB aWK aRE aY aZ tk, aI aB cI 6 fB] [(0, .ref aP), (1, .int x1), (2, .ref aT)] 0 [] := by
  have in_X0 : ∀ w ∈ wsX00, w ∈ wsX0_faultFrom := fun w hw => List.mem_cons_of_mem _ (List.mem_append_left _ (List.mem_append_right _ hw))
  have k_28 := hts (.fieldLink RX0 28 "RingTasks$Posts" "size" "I") (List.mem_of_getElem? (i := 1) rfl)
  have B5 : ∀ (x3 : Int32) (x4 : Int32), wp_X0_faultFrom_b5 x3 x4 pk fL tk fB post → mW p l e rm_X0_faultFrom s m args below meth c 0 0 Q A (dC, dI) 5 [oP aP aL aN pk, aI aL cI 60 fL, oT aT aB aWK aRE aY aZ tk, aI aB cI 6 fB] [(0, .ref aP), (2, .ref aT), (3, .int x3), (4, .int x4)] 5 [] := by
    intro x3 x4 h
    unfold wp_X0_faultFrom_b5 at h
    refine h (fun (x3 : Int32) (x4 : Int32) => mW p l e rm_X0_faultFrom s m args below meth c 0 0 Q A (dC, dI) 5 [oP aP aL aN pk, aI aL cI 60 fL, oT aT aB aWK aRE aY aZ tk, aI aB cI 6 fB] [(0, .ref aP), (2, .ref aT), (3, .int x3), (4, .int x4)] 5 []) ?_
    intro x3 x4 h
    intro H locs ls hP hD hS hl
    refine lv_iload hx hb dX0_faultFrom_5 (lv_at hl 3 rfl) ?_
    refine lv_aload_n hx hb dX0_faultFrom_7 rfl (lv_at hl 0 rfl) ?_
    refine va_get (D := (dC, dI)) (ci := 0) (v := .int pk) (C := RX0) (T := TX0) (N := 3) hx hb hts in_X0 hown hK hP 0 rfl rfl 0 (by decide) k_28 (fun _ h9 => h9) rfl dX0_faultFrom_8 ?_
    refine lv_icmp_ge (tgt := 37) hx hb dX0_faultFrom_11 (by decide) (fun q11 => ?_) (fun q11 => ?_)
    · have h := h.1 q11
      refine lv_bipush (v := -9) hx hb dX0_faultFrom_37 (by decide) ?_
      exact ret _  H locs ls _ dX0_faultFrom_39 h hP hD hS
    · have h := h.2 q11
      refine lv_aload_n hx hb dX0_faultFrom_14 rfl (lv_at hl 0 rfl) ?_
      refine lv_iload_n hx hb dX0_faultFrom_15 rfl (lv_at hl 2 rfl) ?_
      refine lv_aload_n hx hb dX0_faultFrom_16 rfl (lv_at hl 1 rfl) ?_
      refine mVi (wr := []) (As := [.int x3, .ref aT]) (rest := []) ⟨hx, hb, hml, hown, hts⟩ (c_X0_isFault (l := l) (dC := dC) (dI := dI) (cI := cI) (cJ := cJ) (cZ := cZ) (aP := aP) (aL := aL) (aN := aN) (aT := aT) (aB := aB) (aWK := aWK) (aRE := aRE) (aY := aY) (aZ := aZ) h) (cwV 2 hts gX0_faultFrom_X0_isFault rfl rfl rfl hv_X0_isFault ⟨Nat.le_of_ble_eq_true rfl, Nat.le_of_ble_eq_true rfl⟩) hK hP hD hS hA [0, 1, 2, 3] [] rfl rfl rfl rfl (by decide) 0 rfl rfl rfl rfl hl.1 rfl (Nat.le_of_ble_eq_true rfl) ⟨Nat.zero_le _, Nat.zero_le _⟩ dX0_faultFrom_17 (fun r17 u17 H locs h hP hD hS => ?_)
      have hP : va_P (dC, dI) vwCl [oP aP aL aN pk, aI aL cI 60 fL, oT aT aB aWK aRE aY aZ tk, aI aB cI 6 fB] H := hP.sub [0, 1, 2, 3] rfl
      have hD : va_D A [oP aP aL aN pk, aI aL cI 60 fL, oT aT aB aWK aRE aY aZ tk, aI aB cI 6 fB] := hD.sub [0, 1, 2, 3] rfl rfl
      refine lv_if_eq (tgt := 25) hx hb dX0_faultFrom_20 (by decide) (fun q20 => ?_) (fun q20 => ?_)
      · have h := h.1 q20
        refine lv_aload_n hx hb dX0_faultFrom_25 rfl (lv_at hl 0 rfl) ?_
        refine lv_iload_n hx hb dX0_faultFrom_26 rfl (lv_at hl 2 rfl) ?_
        refine mVi (wr := [aI aL cI 60 fL, oT aT aB aWK aRE aY aZ tk, aI aB cI 6 fB]) (As := [.int x3]) (rest := []) ⟨hx, hb, hml, hown, hts⟩ (c_X0_next (l := l) (dC := dC) (dI := dI) (cI := cI) (cJ := cJ) (cZ := cZ) (aP := aP) (aL := aL) (aN := aN) h) (cwV 1 hts gX0_faultFrom_X0_next rfl rfl rfl hv_X0_next ⟨Nat.le_of_ble_eq_true rfl, Nat.le_of_ble_eq_true rfl⟩) hK hP hD hS hA [0] [1, 2, 3] rfl rfl rfl rfl (by decide) 0 rfl rfl rfl rfl hl.1 rfl (Nat.le_of_ble_eq_true rfl) ⟨Nat.zero_le _, Nat.zero_le _⟩ dX0_faultFrom_27 (fun r27 u27 H locs h hP hD hS => ?_)
        have hP : va_P (dC, dI) vwCl [oP aP aL aN pk, aI aL cI 60 fL, oT aT aB aWK aRE aY aZ tk, aI aB cI 6 fB] H := hP.sub [3, 0, 1, 2] rfl
        have hD : va_D A [oP aP aL aN pk, aI aL cI 60 fL, oT aT aB aWK aRE aY aZ tk, aI aB cI 6 fB] := hD.sub [3, 0, 1, 2] rfl rfl
        refine lv_istore_n (lv' := [(3, .int r27), (0, .ref aP), (2, .ref aT), (4, .int x4)]) hx hb dX0_faultFrom_30 rfl hl (by decide) rfl (fun ls hl => ?_)
        obtain ⟨v31, ev31⟩ : ∃ y : Int32, y = x4 + (1 : Int32) := ⟨_, rfl⟩
        have h := h v31 ev31
        refine lv_iinc (v := v31) (lv' := [(4, .int v31), (3, .int r27), (0, .ref aP), (2, .ref aT)]) hx hb dX0_faultFrom_31 hl (k := 3) rfl (by rw [ev31]; rfl) (by decide) rfl (fun ls hl => ?_)
        refine lv_goto (tgt := 5) hx hb dX0_faultFrom_34 (by decide) ?_
        exact h H locs ls hP hD hS (lv_sub hl [2, 3, 1, 0] rfl)
      · have h := h.2 q20
        refine lv_iload_n hx hb dX0_faultFrom_23 rfl (lv_at hl 2 rfl) ?_
        exact ret _  H locs ls _ dX0_faultFrom_24 h hP hD hS
  unfold wp_X0_faultFrom at h
  intro H locs ls hP hD hS hl
  refine lv_iload_n hx hb dX0_faultFrom_0 rfl (lv_at hl 1 rfl) ?_
  refine lv_istore_n (lv' := [(3, .int x1), (0, .ref aP), (1, .int x1), (2, .ref aT)]) hx hb dX0_faultFrom_1 rfl hl (by decide) rfl (fun ls hl => ?_)
  refine lv_iconst (v := 0) hx hb dX0_faultFrom_2 (by decide) ?_
  refine lv_istore (lv' := [(4, .int (0 : Int32)), (3, .int x1), (0, .ref aP), (1, .int x1), (2, .ref aT)]) hx hb dX0_faultFrom_3 hl (by decide) rfl (fun ls hl => ?_)
  exact B5 _ _ h H locs ls hP hD hS (lv_sub hl [2, 4, 1, 0] rfl)
set_option maxHeartbeats 4000000 in
set_option maxRecDepth 100000 in
theorem c_X0_faultFrom {l : Launch} {dC : Nat → ClassId} {dI : Nat → Nat → Nat} {cI cJ cZ : ClassId} {aP aL aN aT aB aWK aRE aY aZ : Nat} {pk : Int32} {fL : (Nat → Int32)} {tk : Int32} {fB : (Nat → Int32)} {x1 : Int32} {post : Int32 → Prop} (h : wp_X0_faultFrom x1 pk fL tk fB post) : ∀ sz, Met l yX0_faultFrom wsX0_faultFrom rm_X0_faultFrom (mP (dC, dI) (mTy cI cJ cZ) [.ref aP, .int x1, .ref aT] [oP aP aL aN pk, aI aL cI 60 fL, oT aT aB aWK aRE aY aZ tk, aI aB cI 6 fB] sz) (va_Qi (fun (r : Int32) (u : Unit) => post r ) (mB (dC, dI) (va_A [oP aP aL aN pk, aI aL cI 60 fL, oT aT aB aWK aRE aY aZ tk, aI aB cI 6 fB] sz) (fun u => [oP aP aL aN pk, aI aL cI 60 fL, oT aT aB aWK aRE aY aZ tk, aI aB cI 6 fB])) (va_A [oP aP aL aN pk, aI aL cI 60 fL, oT aT aB aWK aRE aY aZ tk, aI aB cI 6 fB] sz)) 0 0 (va_A [oP aP aL aN pk, aI aL cI 60 fL, oT aT aB aWK aRE aY aZ tk, aI aB cI 6 fB] sz) := by
  intro sz
  refine Met.ofW (cc := cX0_faultFrom) (maxL := 5) (ret := (some .int)) (by decide) rfl ?_
  intro p e s m args below meth c s₁ B hml hv
  obtain ⟨rfl, hsz, hP, hK, hD0⟩ := hv
  have hlocks := B.notSynchronized
  subst hsz
  have hD := hD0.self (sz := s.heap.size)
  have hl := lv_entry ([.ref aP, .int x1, .ref aT]) (n := 5) (Nat.le_of_ble_eq_true rfl)
  rw [lg_entry_eq]
  exact k_X0_faultFrom B.exec B.bytes hml (findClass_of_methodNamed B.named) (atoms_spec (ws := wsX0_faultFrom) B.pre) hK (fun q hq => Or.inr hq) (fun r H locs ls pc hd hp hP hD hS => W.iret B.exec B.bytes B.returns (fun t ht hW => ⟨⟨r, (), rfl, hp, by rw [ht]; exact hP, hD⟩, hS.F ht⟩) hS.2.2 hd) h s.heap [] _ hP hD va_S.rf hl

def wp_X0_putWalk_b7 (x2 : Int32) (x4 : Int32) (x5 : Int32) (x6 : Int32) (pk : Int32) (fL : (Nat → Int32)) (tk : Int32) (fWK : (Nat → Int32)) (post : (Nat → Int32) → Prop)  : Prop := ∀ P7 : Int32 → Int32 → (Nat → Int32) → Prop, (∀ (x5 : Int32) (x6 : Int32) (fL : (Nat → Int32)), (((x4 + x2) ≤ x6 → post fL) ∧ (¬ (x4 + x2) ≤ x6 → (((61 : Int32) ≤ x6 → post fL) ∧ (¬ (61 : Int32) ≤ x6 → (vp_in x6 61 ∧ (vp_in x5 60 ∧ (∀ fL_39 : (Nat → Int32), fL_39 = upd fL x5.toNatClampNeg (fWK x6.toNatClampNeg) → wp_X0_next x5 pk (fun (r43 : Int32) => (∀ v48 : Int32, v48 = x6 + (1 : Int32) → P7 r43 v48 fL_39))))))))) → P7 x5 x6 fL) → P7 x5 x6 fL
def wp_X0_putWalk (x1 : Int32) (x2 : Int32) (x4 : Int32) (pk : Int32) (fL : (Nat → Int32)) (tk : Int32) (fWK : (Nat → Int32)) (post : (Nat → Int32) → Prop) : Prop := wp_X0_putWalk_b7 x2 x4 x1 x4 pk fL tk fWK post
abbrev rm_X0_putWalk : Room := { frames := 1, cells := 0, slots := 0, locals := 21 }
theorem hv_X0_putWalk : yX0_putWalk.cls = RX0 ∧ yX0_putWalk.cls ≠ "java/lang/invoke/MethodHandle" ∧ yX0_putWalk.cls ≠ "java/lang/invoke/VarHandle" ∧ (parseMethodDescriptor yX0_putWalk.desc).map (fun d => d.parameters.length) = some 4 := by decide +kernel
set_option maxHeartbeats 4000000 in
set_option maxRecDepth 100000 in
theorem k_X0_putWalk {p : Program} {l : Launch} {e : Env} {s : State} {m : MethodId} {args : Array Value} {below : List Frame} {meth : Method} {c : Code} {Q : State → Prop} {A : Nat → Prop} {dC : Nat → ClassId} {dI : Nat → Nat → Nat} {cI cJ cZ : ClassId} (hx : p.tables.exec = Jvm.exec) (hb : c.code = cX0_putWalk) (hml : c.maxLocals = 7) (hown : s.vm.findClass RX0 = some m.cls) (hts : ∀ w ∈ wsX0_putWalk, w.before args s = true) (hK : va_K (dC, dI) vwCl (mTy cI cJ cZ) s) (hA : ∀ q, s.heap.size ≤ q → A q) {aP aL aN aT aB aWK aRE aY aZ : Nat} {pk : Int32} {fL : (Nat → Int32)} {tk : Int32} {fWK : (Nat → Int32)} {x1 : Int32} {x2 : Int32} {x4 : Int32} {post : (Nat → Int32) → Prop} (ret : ∀ (fL' : (Nat → Int32)) (H : Heap) (locs : List Loc) (ls : Array Slot) (pc : Nat), decode cX0_putWalk pc = .ok (.return_, 1) → post fL' → va_P (dC, dI) vwCl [oP aP aL aN pk, aI aL cI 60 fL', oT aT aB aWK aRE aY aZ tk, aI aWK cI 61 fWK] H → va_D A [oP aP aL aN pk, aI aL cI 60 fL', oT aT aB aWK aRE aY aZ tk, aI aWK cI 61 fWK] → va_S A s.heap H locs → W p l e rm_X0_putWalk s m args below meth c H locs 0 0 Q (F0 m pc ls [])) (h : wp_X0_putWalk x1 x2 x4 pk fL tk fWK post) : mW p l e rm_X0_putWalk s m args below meth c 0 0 Q A (dC, dI) 7 [oP aP aL aN pk, aI aL cI 60 fL, oT aT aB aWK aRE aY aZ tk, aI aWK cI 61 fWK] [(0, .ref aP), (1, .int x1), (2, .int x2), (3, .ref aT), (4, .int x4)] 0 [] := by
  have in_X0 : ∀ w ∈ wsX00, w ∈ wsX0_putWalk := fun w hw => List.mem_cons_of_mem _ (List.mem_append_right _ hw)
  have in_X1 : ∀ w ∈ wsX10, w ∈ wsX0_putWalk := fun w hw => List.mem_cons_of_mem _ (List.mem_append_left _ (List.mem_append_right _ hw))
  have k_74 := hts (.fieldLink RX0 74 "RingTasks$Task" "walk" "[I") (List.mem_of_getElem? (i := 1) rfl)
  have k_9 := hts (.fieldLink RX0 9 "RingTasks$Posts" "label" "[I") (List.mem_of_getElem? (i := 2) rfl)
  have B7 : ∀ (x2 : Int32) (x4 : Int32) (x5 : Int32) (x6 : Int32) (fL : (Nat → Int32)), wp_X0_putWalk_b7 x2 x4 x5 x6 pk fL tk fWK post → mW p l e rm_X0_putWalk s m args below meth c 0 0 Q A (dC, dI) 7 [oP aP aL aN pk, aI aL cI 60 fL, oT aT aB aWK aRE aY aZ tk, aI aWK cI 61 fWK] [(0, .ref aP), (2, .int x2), (3, .ref aT), (4, .int x4), (5, .int x5), (6, .int x6)] 7 [] := by
    intro x2 x4 x5 x6 fL h
    unfold wp_X0_putWalk_b7 at h
    refine h (fun (x5 : Int32) (x6 : Int32) (fL : (Nat → Int32)) => mW p l e rm_X0_putWalk s m args below meth c 0 0 Q A (dC, dI) 7 [oP aP aL aN pk, aI aL cI 60 fL, oT aT aB aWK aRE aY aZ tk, aI aWK cI 61 fWK] [(0, .ref aP), (2, .int x2), (3, .ref aT), (4, .int x4), (5, .int x5), (6, .int x6)] 7 []) ?_
    intro x5 x6 fL h
    intro H locs ls hP hD hS hl
    refine lv_iload hx hb dX0_putWalk_7 (lv_at hl 5 rfl) ?_
    refine lv_iload hx hb dX0_putWalk_9 (lv_at hl 3 rfl) ?_
    refine lv_iload_n hx hb dX0_putWalk_11 rfl (lv_at hl 1 rfl) ?_
    refine lv_iadd hx hb dX0_putWalk_12 ?_
    refine lv_icmp_ge (tgt := 54) hx hb dX0_putWalk_13 (by decide) (fun q13 => ?_) (fun q13 => ?_)
    · have h := h.1 q13
      exact ret _ H locs ls _ dX0_putWalk_54 h hP hD hS
    · have h := h.2 q13
      refine lv_iload hx hb dX0_putWalk_16 (lv_at hl 5 rfl) ?_
      refine lv_aload_n hx hb dX0_putWalk_18 rfl (lv_at hl 2 rfl) ?_
      refine va_get (D := (dC, dI)) (ci := 1) (v := .ref aWK) (C := RX1) (T := TX1) (N := 6) hx hb hts in_X1 hown hK hP 2 rfl rfl 2 (by decide) k_74 (fun _ h9 => h9) rfl dX0_putWalk_19 ?_
      refine va_alen (D := (dC, dI)) (v := (61 : Int32)) hx hb hK hP 3 0 rfl rfl rfl dX0_putWalk_22 ?_
      refine lv_icmp_ge (tgt := 54) hx hb dX0_putWalk_23 (by decide) (fun q23 => ?_) (fun q23 => ?_)
      · have h := h.1 q23
        exact ret _ H locs ls _ dX0_putWalk_54 h hP hD hS
      · have h := h.2 q23
        refine lv_aload_n hx hb dX0_putWalk_26 rfl (lv_at hl 0 rfl) ?_
        refine va_get (D := (dC, dI)) (ci := 0) (v := .ref aL) (C := RX0) (T := TX0) (N := 3) hx hb hts in_X0 hown hK hP 0 rfl rfl 1 (by decide) k_9 (fun _ h9 => h9) rfl dX0_putWalk_27 ?_
        refine lv_iload hx hb dX0_putWalk_30 (lv_at hl 4 rfl) ?_
        refine lv_aload_n hx hb dX0_putWalk_32 rfl (lv_at hl 2 rfl) ?_
        refine va_get (D := (dC, dI)) (ci := 1) (v := .ref aWK) (C := RX1) (T := TX1) (N := 6) hx hb hts in_X1 hown hK hP 2 rfl rfl 2 (by decide) k_74 (fun _ h9 => h9) rfl dX0_putWalk_33 ?_
        refine lv_iload hx hb dX0_putWalk_36 (lv_at hl 5 rfl) ?_
        refine va_iald (D := (dC, dI)) hx hb hK hP 3 0 rfl rfl h.1 dX0_putWalk_38 ?_
        have h := h.2
        refine va_iast (D := (dC, dI)) hx hb hK hP hD hS 1 0 rfl rfl h.1 dX0_putWalk_39 (fun H locs hP hD hS => ?_)
        obtain ⟨fL_39, efL_39⟩ : ∃ y, y = upd fL x5.toNatClampNeg (fWK x6.toNatClampNeg) := ⟨_, rfl⟩
        have h := h.2 fL_39 efL_39
        have hP : va_P (dC, dI) vwCl [oP aP aL aN pk, aI aL cI 60 fL_39, oT aT aB aWK aRE aY aZ tk, aI aWK cI 61 fWK] H := by rw [efL_39]; exact hP
        have hD : va_D A [oP aP aL aN pk, aI aL cI 60 fL_39, oT aT aB aWK aRE aY aZ tk, aI aWK cI 61 fWK] := by rw [efL_39]; exact hD
        refine lv_aload_n hx hb dX0_putWalk_40 rfl (lv_at hl 0 rfl) ?_
        refine lv_iload hx hb dX0_putWalk_41 (lv_at hl 4 rfl) ?_
        refine mVi (wr := [aI aL cI 60 fL_39, oT aT aB aWK aRE aY aZ tk, aI aWK cI 61 fWK]) (As := [.int x5]) (rest := []) ⟨hx, hb, hml, hown, hts⟩ (c_X0_next (l := l) (dC := dC) (dI := dI) (cI := cI) (cJ := cJ) (cZ := cZ) (aP := aP) (aL := aL) (aN := aN) h) (cwV 1 hts gX0_putWalk_X0_next rfl rfl rfl hv_X0_next ⟨Nat.le_of_ble_eq_true rfl, Nat.le_of_ble_eq_true rfl⟩) hK hP hD hS hA [0] [1, 2, 3] rfl rfl rfl rfl (by decide) 0 rfl rfl rfl rfl hl.1 rfl (Nat.le_of_ble_eq_true rfl) ⟨Nat.zero_le _, Nat.zero_le _⟩ dX0_putWalk_43 (fun r43 u43 H locs h hP hD hS => ?_)
        have hP : va_P (dC, dI) vwCl [oP aP aL aN pk, aI aL cI 60 fL_39, oT aT aB aWK aRE aY aZ tk, aI aWK cI 61 fWK] H := hP.sub [3, 0, 1, 2] rfl
        have hD : va_D A [oP aP aL aN pk, aI aL cI 60 fL_39, oT aT aB aWK aRE aY aZ tk, aI aWK cI 61 fWK] := hD.sub [3, 0, 1, 2] rfl rfl
        refine lv_istore (lv' := [(5, .int r43), (0, .ref aP), (2, .int x2), (3, .ref aT), (4, .int x4), (6, .int x6)]) hx hb dX0_putWalk_46 hl (by decide) rfl (fun ls hl => ?_)
        obtain ⟨v48, ev48⟩ : ∃ y : Int32, y = x6 + (1 : Int32) := ⟨_, rfl⟩
        have h := h v48 ev48
        refine lv_iinc (v := v48) (lv' := [(6, .int v48), (5, .int r43), (0, .ref aP), (2, .int x2), (3, .ref aT), (4, .int x4)]) hx hb dX0_putWalk_48 hl (k := 5) rfl (by rw [ev48]; rfl) (by decide) rfl (fun ls hl => ?_)
        refine lv_goto (tgt := 7) hx hb dX0_putWalk_51 (by decide) ?_
        exact h H locs ls hP hD hS (lv_sub hl [2, 3, 4, 5, 1, 0] rfl)
  unfold wp_X0_putWalk at h
  intro H locs ls hP hD hS hl
  refine lv_iload_n hx hb dX0_putWalk_0 rfl (lv_at hl 1 rfl) ?_
  refine lv_istore (lv' := [(5, .int x1), (0, .ref aP), (1, .int x1), (2, .int x2), (3, .ref aT), (4, .int x4)]) hx hb dX0_putWalk_1 hl (by decide) rfl (fun ls hl => ?_)
  refine lv_iload hx hb dX0_putWalk_3 (lv_at hl 5 rfl) ?_
  refine lv_istore (lv' := [(6, .int x4), (5, .int x1), (0, .ref aP), (1, .int x1), (2, .int x2), (3, .ref aT), (4, .int x4)]) hx hb dX0_putWalk_5 hl (by decide) rfl (fun ls hl => ?_)
  exact B7 _ _ _ _ _ h H locs ls hP hD hS (lv_sub hl [2, 4, 5, 6, 1, 0] rfl)
set_option maxHeartbeats 4000000 in
set_option maxRecDepth 100000 in
theorem c_X0_putWalk {l : Launch} {dC : Nat → ClassId} {dI : Nat → Nat → Nat} {cI cJ cZ : ClassId} {aP aL aN aT aB aWK aRE aY aZ : Nat} {pk : Int32} {fL : (Nat → Int32)} {tk : Int32} {fWK : (Nat → Int32)} {x1 : Int32} {x2 : Int32} {x4 : Int32} {post : (Nat → Int32) → Prop} (h : wp_X0_putWalk x1 x2 x4 pk fL tk fWK post) : ∀ sz, Met l yX0_putWalk wsX0_putWalk rm_X0_putWalk (mP (dC, dI) (mTy cI cJ cZ) [.ref aP, .int x1, .int x2, .ref aT, .int x4] [oP aP aL aN pk, aI aL cI 60 fL, oT aT aB aWK aRE aY aZ tk, aI aWK cI 61 fWK] sz) (va_Qv (fun (u : (Nat → Int32)) => post u) (mB (dC, dI) (va_A [oP aP aL aN pk, aI aL cI 60 fL, oT aT aB aWK aRE aY aZ tk, aI aWK cI 61 fWK] sz) (fun u => [oP aP aL aN pk, aI aL cI 60 u, oT aT aB aWK aRE aY aZ tk, aI aWK cI 61 fWK])) (va_A [oP aP aL aN pk, aI aL cI 60 fL, oT aT aB aWK aRE aY aZ tk, aI aWK cI 61 fWK] sz)) 0 0 (va_A [oP aP aL aN pk, aI aL cI 60 fL, oT aT aB aWK aRE aY aZ tk, aI aWK cI 61 fWK] sz) := by
  intro sz
  refine Met.ofW (cc := cX0_putWalk) (maxL := 7) (ret := none) (by decide) rfl ?_
  intro p e s m args below meth c s₁ B hml hv
  obtain ⟨rfl, hsz, hP, hK, hD0⟩ := hv
  have hlocks := B.notSynchronized
  subst hsz
  have hD := hD0.self (sz := s.heap.size)
  have hl := lv_entry ([.ref aP, .int x1, .int x2, .ref aT, .int x4]) (n := 7) (Nat.le_of_ble_eq_true rfl)
  rw [lg_entry_eq]
  exact k_X0_putWalk B.exec B.bytes hml (findClass_of_methodNamed B.named) (atoms_spec (ws := wsX0_putWalk) B.pre) hK (fun q hq => Or.inr hq) (fun fL' H locs ls pc hd hp hP hD hS => W.vret B.exec B.bytes B.returns (fun t ht hW => ⟨⟨fL', rfl, hp, by rw [ht]; exact hP, hD⟩, hS.F ht⟩) hS.2.2 hd) h s.heap [] _ hP hD va_S.rf hl

def wp_X0_mendStretch_b57 (x1 : Int32) (x3 : Int32) (x5 : Int32) (z0 : Int32) (pk : Int32) (fL : (Nat → Int32)) (tk : Int32) (fB : (Nat → Int32)) (fWK : (Nat → Int32)) (fRE : (Nat → Int32)) (post : Int32 → (Nat → Int32) → (Nat → Int32) → (Nat → Int32) → Prop)  : Prop := ((z0 = (0 : Int32) → ((z0 = 0 ∨ z0 = 1) ∧ post z0 fL fWK fRE)) ∧ (¬ z0 = (0 : Int32) → ((x5 = (0 : Int32) → wp_X0_putWalk x1 x3 (1 : Int32) pk fL tk fWK (fun (fL_79 : (Nat → Int32)) => ((z0 = 0 ∨ z0 = 1) ∧ post z0 fL_79 fWK fRE))) ∧ (¬ x5 = (0 : Int32) → wp_X0_putWalk x1 x3 (0 : Int32) pk fL tk fWK (fun (fL_79 : (Nat → Int32)) => ((z0 = 0 ∨ z0 = 1) ∧ post z0 fL_79 fWK fRE))))))
def wp_X0_mendStretch_b13 (x1 : Int32) (x2 : Int32) (x3 : Int32) (z0 : Int32) (pk : Int32) (fL : (Nat → Int32)) (tk : Int32) (fB : (Nat → Int32)) (fWK : (Nat → Int32)) (fRE : (Nat → Int32)) (post : Int32 → (Nat → Int32) → (Nat → Int32) → (Nat → Int32) → Prop)  : Prop := ((z0 = (0 : Int32) → wp_X0_previous x1 pk (fun (r37 : Int32) => (vp_in r37 60 ∧ wp_X0_next x2 pk (fun (r47 : Int32) => (vp_in r47 60 ∧ wp_X1_findWalk (fL r37.toNatClampNeg) (fL r47.toNatClampNeg) (x3 + (1 : Int32)) tk fB fWK fRE (fun (r54 : Int32) (fWK_54 : (Nat → Int32)) (fRE_54 : (Nat → Int32)) => wp_X0_mendStretch_b57 x1 x3 z0 r54 pk fL tk fB fWK_54 fRE_54 post)))))) ∧ (¬ z0 = (0 : Int32) → wp_X1_findRing x3 tk fB fWK fRE (fun (r23 : Int32) (fWK_23 : (Nat → Int32)) (fRE_23 : (Nat → Int32)) => wp_X0_mendStretch_b57 x1 x3 z0 r23 pk fL tk fB fWK_23 fRE_23 post)))
def wp_X0_mendStretch (x1 : Int32) (x2 : Int32) (x3 : Int32) (pk : Int32) (fL : (Nat → Int32)) (tk : Int32) (fB : (Nat → Int32)) (fWK : (Nat → Int32)) (fRE : (Nat → Int32)) (post : Int32 → (Nat → Int32) → (Nat → Int32) → (Nat → Int32) → Prop) : Prop := ((¬ x3 = pk → wp_X0_mendStretch_b13 x1 x2 x3 (0 : Int32) pk fL tk fB fWK fRE post) ∧ (x3 = pk → wp_X0_mendStretch_b13 x1 x2 x3 (1 : Int32) pk fL tk fB fWK fRE post))
abbrev rm_X0_mendStretch : Room := { frames := 4, cells := 0, slots := 0, locals := 89 }
theorem hv_X0_mendStretch : yX0_mendStretch.cls = RX0 ∧ yX0_mendStretch.cls ≠ "java/lang/invoke/MethodHandle" ∧ yX0_mendStretch.cls ≠ "java/lang/invoke/VarHandle" ∧ (parseMethodDescriptor yX0_mendStretch.desc).map (fun d => d.parameters.length) = some 4 := by decide +kernel
set_option maxHeartbeats 4000000 in
set_option maxRecDepth 100000 in
theorem k_X0_mendStretch {p : Program} {l : Launch} {e : Env} {s : State} {m : MethodId} {args : Array Value} {below : List Frame} {meth : Method} {c : Code} {Q : State → Prop} {A : Nat → Prop} {dC : Nat → ClassId} {dI : Nat → Nat → Nat} {cI cJ cZ : ClassId} (hx : p.tables.exec = Jvm.exec) (hb : c.code = cX0_mendStretch) (hml : c.maxLocals = 7) (hown : s.vm.findClass RX0 = some m.cls) (hts : ∀ w ∈ wsX0_mendStretch, w.before args s = true) (hK : va_K (dC, dI) vwCl (mTy cI cJ cZ) s) (hA : ∀ q, s.heap.size ≤ q → A q) {aP aL aN aT aB aWK aRE aY aZ : Nat} {pk : Int32} {fL : (Nat → Int32)} {tk : Int32} {fB : (Nat → Int32)} {fWK : (Nat → Int32)} {fRE : (Nat → Int32)} {x1 : Int32} {x2 : Int32} {x3 : Int32} {post : Int32 → (Nat → Int32) → (Nat → Int32) → (Nat → Int32) → Prop} (ret : ∀ (r : Int32) (fL' : (Nat → Int32)) (fWK' : (Nat → Int32)) (fRE' : (Nat → Int32)) (H : Heap) (locs : List Loc) (ls : Array Slot) (pc : Nat), decode cX0_mendStretch pc = .ok (.ireturn, 1) → (r = 0 ∨ r = 1) → post r fL' fWK' fRE' → va_P (dC, dI) vwCl [oP aP aL aN pk, aI aL cI 60 fL', oT aT aB aWK aRE aY aZ tk, aI aB cI 6 fB, aI aWK cI 61 fWK', aI aRE cI 61 fRE'] H → va_D A [oP aP aL aN pk, aI aL cI 60 fL', oT aT aB aWK aRE aY aZ tk, aI aB cI 6 fB, aI aWK cI 61 fWK', aI aRE cI 61 fRE'] → va_S A s.heap H locs → W p l e rm_X0_mendStretch s m args below meth c H locs 0 0 Q (F0 m pc ls [.int r])) (h : wp_X0_mendStretch x1 x2 x3 pk fL tk fB fWK fRE post) : mW p l e rm_X0_mendStretch s m args below meth c 0 0 Q A (dC, dI) 7 [oP aP aL aN pk, aI aL cI 60 fL, oT aT aB aWK aRE aY aZ tk, aI aB cI 6 fB, aI aWK cI 61 fWK, aI aRE cI 61 fRE] [(0, .ref aP), (1, .int x1), (2, .int x2), (3, .int x3), (4, .ref aT)] 0 [] := by
  have in_X0 : ∀ w ∈ wsX00, w ∈ wsX0_mendStretch := fun w hw => List.mem_cons_of_mem _ (List.mem_append_left _ (List.mem_append_right _ hw))
  have k_28 := hts (.fieldLink RX0 28 "RingTasks$Posts" "size" "I") (List.mem_of_getElem? (i := 1) rfl)
  have k_9 := hts (.fieldLink RX0 9 "RingTasks$Posts" "label" "[I") (List.mem_of_getElem? (i := 2) rfl)
  have B57 : ∀ (x1 : Int32) (x3 : Int32) (x5 : Int32) (z0 : Int32) (fL : (Nat → Int32)) (fWK : (Nat → Int32)) (fRE : (Nat → Int32)), wp_X0_mendStretch_b57 x1 x3 x5 z0 pk fL tk fB fWK fRE post → mW p l e rm_X0_mendStretch s m args below meth c 0 0 Q A (dC, dI) 7 [oP aP aL aN pk, aI aL cI 60 fL, oT aT aB aWK aRE aY aZ tk, aI aB cI 6 fB, aI aWK cI 61 fWK, aI aRE cI 61 fRE] [(0, .ref aP), (1, .int x1), (3, .int x3), (4, .ref aT), (5, .int x5)] 57 [.int z0] := by
    intro x1 x3 x5 z0 fL fWK fRE h
    unfold wp_X0_mendStretch_b57 at h
    intro H locs ls hP hD hS hl
    refine lv_istore (lv' := [(6, .int z0), (0, .ref aP), (1, .int x1), (3, .int x3), (4, .ref aT), (5, .int x5)]) hx hb dX0_mendStretch_57 hl (by decide) rfl (fun ls hl => ?_)
    refine lv_iload hx hb dX0_mendStretch_59 (lv_at hl 0 rfl) ?_
    refine lv_if_eq (tgt := 82) hx hb dX0_mendStretch_61 (by decide) (fun q61 => ?_) (fun q61 => ?_)
    · have h := h.1 q61
      refine lv_iload hx hb dX0_mendStretch_82 (lv_at hl 0 rfl) ?_
      exact ret _ _ _ _ H locs ls _ dX0_mendStretch_84 h.1 h.2 hP hD hS
    · have h := h.2 q61
      refine lv_aload_n hx hb dX0_mendStretch_64 rfl (lv_at hl 1 rfl) ?_
      refine lv_iload_n hx hb dX0_mendStretch_65 rfl (lv_at hl 2 rfl) ?_
      refine lv_iload_n hx hb dX0_mendStretch_66 rfl (lv_at hl 3 rfl) ?_
      refine lv_aload hx hb dX0_mendStretch_67 (lv_at hl 4 rfl) ?_
      refine lv_iload hx hb dX0_mendStretch_69 (lv_at hl 5 rfl) ?_
      refine lv_if_eq (tgt := 78) hx hb dX0_mendStretch_71 (by decide) (fun q71 => ?_) (fun q71 => ?_)
      · have h := h.1 q71
        refine lv_iconst (v := 1) hx hb dX0_mendStretch_78 (by decide) ?_
        refine mVv (wr := [aI aB cI 6 fB, aI aRE cI 61 fRE]) (As := [.int x1, .int x3, .ref aT, .int (1 : Int32)]) (rest := []) ⟨hx, hb, hml, hown, hts⟩ (c_X0_putWalk (l := l) (dC := dC) (dI := dI) (cI := cI) (cJ := cJ) (cZ := cZ) (aP := aP) (aL := aL) (aN := aN) (aT := aT) (aB := aB) (aWK := aWK) (aRE := aRE) (aY := aY) (aZ := aZ) h) (cwV 4 hts gX0_mendStretch_X0_putWalk rfl rfl rfl hv_X0_putWalk ⟨Nat.le_of_ble_eq_true rfl, Nat.le_of_ble_eq_true rfl⟩) hK hP hD hS hA [0, 1, 2, 4] [3, 5] rfl rfl rfl rfl (by decide) 0 rfl rfl rfl rfl hl.1 rfl (Nat.le_of_ble_eq_true rfl) ⟨Nat.zero_le _, Nat.zero_le _⟩ dX0_mendStretch_79 (fun fL_79 H locs h hP hD hS => ?_)
        have hP : va_P (dC, dI) vwCl [oP aP aL aN pk, aI aL cI 60 fL_79, oT aT aB aWK aRE aY aZ tk, aI aB cI 6 fB, aI aWK cI 61 fWK, aI aRE cI 61 fRE] H := hP.sub [2, 3, 4, 0, 5, 1] rfl
        have hD : va_D A [oP aP aL aN pk, aI aL cI 60 fL_79, oT aT aB aWK aRE aY aZ tk, aI aB cI 6 fB, aI aWK cI 61 fWK, aI aRE cI 61 fRE] := hD.sub [2, 3, 4, 0, 5, 1] rfl rfl
        refine lv_iload hx hb dX0_mendStretch_82 (lv_at hl 0 rfl) ?_
        exact ret _ _ _ _ H locs ls _ dX0_mendStretch_84 h.1 h.2 hP hD hS
      · have h := h.2 q71
        refine lv_iconst (v := 0) hx hb dX0_mendStretch_74 (by decide) ?_
        refine lv_goto (tgt := 79) hx hb dX0_mendStretch_75 (by decide) ?_
        refine mVv (wr := [aI aB cI 6 fB, aI aRE cI 61 fRE]) (As := [.int x1, .int x3, .ref aT, .int (0 : Int32)]) (rest := []) ⟨hx, hb, hml, hown, hts⟩ (c_X0_putWalk (l := l) (dC := dC) (dI := dI) (cI := cI) (cJ := cJ) (cZ := cZ) (aP := aP) (aL := aL) (aN := aN) (aT := aT) (aB := aB) (aWK := aWK) (aRE := aRE) (aY := aY) (aZ := aZ) h) (cwV 4 hts gX0_mendStretch_X0_putWalk rfl rfl rfl hv_X0_putWalk ⟨Nat.le_of_ble_eq_true rfl, Nat.le_of_ble_eq_true rfl⟩) hK hP hD hS hA [0, 1, 2, 4] [3, 5] rfl rfl rfl rfl (by decide) 0 rfl rfl rfl rfl hl.1 rfl (Nat.le_of_ble_eq_true rfl) ⟨Nat.zero_le _, Nat.zero_le _⟩ dX0_mendStretch_79 (fun fL_79 H locs h hP hD hS => ?_)
        have hP : va_P (dC, dI) vwCl [oP aP aL aN pk, aI aL cI 60 fL_79, oT aT aB aWK aRE aY aZ tk, aI aB cI 6 fB, aI aWK cI 61 fWK, aI aRE cI 61 fRE] H := hP.sub [2, 3, 4, 0, 5, 1] rfl
        have hD : va_D A [oP aP aL aN pk, aI aL cI 60 fL_79, oT aT aB aWK aRE aY aZ tk, aI aB cI 6 fB, aI aWK cI 61 fWK, aI aRE cI 61 fRE] := hD.sub [2, 3, 4, 0, 5, 1] rfl rfl
        refine lv_iload hx hb dX0_mendStretch_82 (lv_at hl 0 rfl) ?_
        exact ret _ _ _ _ H locs ls _ dX0_mendStretch_84 h.1 h.2 hP hD hS
  have B13 : ∀ (x1 : Int32) (x2 : Int32) (x3 : Int32) (z0 : Int32) (fL : (Nat → Int32)) (fWK : (Nat → Int32)) (fRE : (Nat → Int32)), wp_X0_mendStretch_b13 x1 x2 x3 z0 pk fL tk fB fWK fRE post → mW p l e rm_X0_mendStretch s m args below meth c 0 0 Q A (dC, dI) 7 [oP aP aL aN pk, aI aL cI 60 fL, oT aT aB aWK aRE aY aZ tk, aI aB cI 6 fB, aI aWK cI 61 fWK, aI aRE cI 61 fRE] [(0, .ref aP), (1, .int x1), (2, .int x2), (3, .int x3), (4, .ref aT)] 13 [.int z0] := by
    intro x1 x2 x3 z0 fL fWK fRE h
    unfold wp_X0_mendStretch_b13 at h
    intro H locs ls hP hD hS hl
    refine lv_istore (lv' := [(5, .int z0), (0, .ref aP), (1, .int x1), (2, .int x2), (3, .int x3), (4, .ref aT)]) hx hb dX0_mendStretch_13 hl (by decide) rfl (fun ls hl => ?_)
    refine lv_iload hx hb dX0_mendStretch_15 (lv_at hl 0 rfl) ?_
    refine lv_if_eq (tgt := 29) hx hb dX0_mendStretch_17 (by decide) (fun q17 => ?_) (fun q17 => ?_)
    · have h := h.1 q17
      refine lv_aload hx hb dX0_mendStretch_29 (lv_at hl 5 rfl) ?_
      refine lv_aload_n hx hb dX0_mendStretch_31 rfl (lv_at hl 1 rfl) ?_
      refine va_get (D := (dC, dI)) (ci := 0) (v := .ref aL) (C := RX0) (T := TX0) (N := 3) hx hb hts in_X0 hown hK hP 0 rfl rfl 1 (by decide) k_9 (fun _ h9 => h9) rfl dX0_mendStretch_32 ?_
      refine lv_aload_n hx hb dX0_mendStretch_35 rfl (lv_at hl 1 rfl) ?_
      refine lv_iload_n hx hb dX0_mendStretch_36 rfl (lv_at hl 2 rfl) ?_
      refine mVi (wr := [aI aL cI 60 fL, oT aT aB aWK aRE aY aZ tk, aI aB cI 6 fB, aI aWK cI 61 fWK, aI aRE cI 61 fRE]) (As := [.int x1]) (rest := [.ref aL, .ref aT]) ⟨hx, hb, hml, hown, hts⟩ (c_X0_previous (l := l) (dC := dC) (dI := dI) (cI := cI) (cJ := cJ) (cZ := cZ) (aP := aP) (aL := aL) (aN := aN) h) (cwV 1 hts gX0_mendStretch_X0_previous rfl rfl rfl hv_X0_previous ⟨Nat.le_of_ble_eq_true rfl, Nat.le_of_ble_eq_true rfl⟩) hK hP hD hS hA [0] [1, 2, 3, 4, 5] rfl rfl rfl rfl (by decide) 0 rfl rfl rfl rfl hl.1 rfl (Nat.le_of_ble_eq_true rfl) ⟨Nat.zero_le _, Nat.zero_le _⟩ dX0_mendStretch_37 (fun r37 u37 H locs h hP hD hS => ?_)
      have hP : va_P (dC, dI) vwCl [oP aP aL aN pk, aI aL cI 60 fL, oT aT aB aWK aRE aY aZ tk, aI aB cI 6 fB, aI aWK cI 61 fWK, aI aRE cI 61 fRE] H := hP.sub [5, 0, 1, 2, 3, 4] rfl
      have hD : va_D A [oP aP aL aN pk, aI aL cI 60 fL, oT aT aB aWK aRE aY aZ tk, aI aB cI 6 fB, aI aWK cI 61 fWK, aI aRE cI 61 fRE] := hD.sub [5, 0, 1, 2, 3, 4] rfl rfl
      refine va_iald (D := (dC, dI)) hx hb hK hP 1 0 rfl rfl h.1 dX0_mendStretch_40 ?_
      have h := h.2
      refine lv_aload_n hx hb dX0_mendStretch_41 rfl (lv_at hl 1 rfl) ?_
      refine va_get (D := (dC, dI)) (ci := 0) (v := .ref aL) (C := RX0) (T := TX0) (N := 3) hx hb hts in_X0 hown hK hP 0 rfl rfl 1 (by decide) k_9 (fun _ h9 => h9) rfl dX0_mendStretch_42 ?_
      refine lv_aload_n hx hb dX0_mendStretch_45 rfl (lv_at hl 1 rfl) ?_
      refine lv_iload_n hx hb dX0_mendStretch_46 rfl (lv_at hl 3 rfl) ?_
      refine mVi (wr := [aI aL cI 60 fL, oT aT aB aWK aRE aY aZ tk, aI aB cI 6 fB, aI aWK cI 61 fWK, aI aRE cI 61 fRE]) (As := [.int x2]) (rest := [.ref aL, .int (fL r37.toNatClampNeg), .ref aT]) ⟨hx, hb, hml, hown, hts⟩ (c_X0_next (l := l) (dC := dC) (dI := dI) (cI := cI) (cJ := cJ) (cZ := cZ) (aP := aP) (aL := aL) (aN := aN) h) (cwV 1 hts gX0_mendStretch_X0_next rfl rfl rfl hv_X0_next ⟨Nat.le_of_ble_eq_true rfl, Nat.le_of_ble_eq_true rfl⟩) hK hP hD hS hA [0] [1, 2, 3, 4, 5] rfl rfl rfl rfl (by decide) 0 rfl rfl rfl rfl hl.1 rfl (Nat.le_of_ble_eq_true rfl) ⟨Nat.zero_le _, Nat.zero_le _⟩ dX0_mendStretch_47 (fun r47 u47 H locs h hP hD hS => ?_)
      have hP : va_P (dC, dI) vwCl [oP aP aL aN pk, aI aL cI 60 fL, oT aT aB aWK aRE aY aZ tk, aI aB cI 6 fB, aI aWK cI 61 fWK, aI aRE cI 61 fRE] H := hP.sub [5, 0, 1, 2, 3, 4] rfl
      have hD : va_D A [oP aP aL aN pk, aI aL cI 60 fL, oT aT aB aWK aRE aY aZ tk, aI aB cI 6 fB, aI aWK cI 61 fWK, aI aRE cI 61 fRE] := hD.sub [5, 0, 1, 2, 3, 4] rfl rfl
      refine va_iald (D := (dC, dI)) hx hb hK hP 1 0 rfl rfl h.1 dX0_mendStretch_50 ?_
      have h := h.2
      refine lv_iload_n hx hb dX0_mendStretch_51 rfl (lv_at hl 4 rfl) ?_
      refine lv_iconst (v := 1) hx hb dX0_mendStretch_52 (by decide) ?_
      refine lv_iadd hx hb dX0_mendStretch_53 ?_
      refine mVi (wr := [oP aP aL aN pk, aI aL cI 60 fL]) (As := [.int (fL r37.toNatClampNeg), .int (fL r47.toNatClampNeg), .int (x3 + (1 : Int32))]) (rest := []) ⟨hx, hb, hml, hown, hts⟩ (c_X1_findWalk (l := l) (dC := dC) (dI := dI) (cI := cI) (cJ := cJ) (cZ := cZ) (aT := aT) (aB := aB) (aWK := aWK) (aRE := aRE) (aY := aY) (aZ := aZ) h) (cwV 3 hts gX0_mendStretch_X1_findWalk rfl rfl rfl hv_X1_findWalk ⟨Nat.le_of_ble_eq_true rfl, Nat.le_of_ble_eq_true rfl⟩) hK hP hD hS hA [2, 3, 4, 5] [0, 1] rfl rfl rfl rfl (by decide) 1 rfl rfl rfl rfl hl.1 rfl (Nat.le_of_ble_eq_true rfl) ⟨Nat.zero_le _, Nat.zero_le _⟩ dX0_mendStretch_54 (fun r54 u54 H locs h hP hD hS => ?_)
      obtain ⟨fWK_54, fRE_54⟩ := u54
      have hP : va_P (dC, dI) vwCl [oP aP aL aN pk, aI aL cI 60 fL, oT aT aB aWK aRE aY aZ tk, aI aB cI 6 fB, aI aWK cI 61 fWK_54, aI aRE cI 61 fRE_54] H := hP.sub [0, 1, 2, 3, 4, 5] rfl
      have hD : va_D A [oP aP aL aN pk, aI aL cI 60 fL, oT aT aB aWK aRE aY aZ tk, aI aB cI 6 fB, aI aWK cI 61 fWK_54, aI aRE cI 61 fRE_54] := hD.sub [0, 1, 2, 3, 4, 5] rfl rfl
      exact B57 _ _ _ _ _ _ _ h H locs ls hP hD hS (lv_sub hl [1, 2, 4, 5, 0] rfl)
    · have h := h.2 q17
      refine lv_aload hx hb dX0_mendStretch_20 (lv_at hl 5 rfl) ?_
      refine lv_iload_n hx hb dX0_mendStretch_22 rfl (lv_at hl 4 rfl) ?_
      refine mVi (wr := [oP aP aL aN pk, aI aL cI 60 fL]) (As := [.int x3]) (rest := []) ⟨hx, hb, hml, hown, hts⟩ (c_X1_findRing (l := l) (dC := dC) (dI := dI) (cI := cI) (cJ := cJ) (cZ := cZ) (aT := aT) (aB := aB) (aWK := aWK) (aRE := aRE) (aY := aY) (aZ := aZ) h) (cwV 1 hts gX0_mendStretch_X1_findRing rfl rfl rfl hv_X1_findRing ⟨Nat.le_of_ble_eq_true rfl, Nat.le_of_ble_eq_true rfl⟩) hK hP hD hS hA [2, 3, 4, 5] [0, 1] rfl rfl rfl rfl (by decide) 1 rfl rfl rfl rfl hl.1 rfl (Nat.le_of_ble_eq_true rfl) ⟨Nat.zero_le _, Nat.zero_le _⟩ dX0_mendStretch_23 (fun r23 u23 H locs h hP hD hS => ?_)
      obtain ⟨fWK_23, fRE_23⟩ := u23
      have hP : va_P (dC, dI) vwCl [oP aP aL aN pk, aI aL cI 60 fL, oT aT aB aWK aRE aY aZ tk, aI aB cI 6 fB, aI aWK cI 61 fWK_23, aI aRE cI 61 fRE_23] H := hP.sub [0, 1, 2, 3, 4, 5] rfl
      have hD : va_D A [oP aP aL aN pk, aI aL cI 60 fL, oT aT aB aWK aRE aY aZ tk, aI aB cI 6 fB, aI aWK cI 61 fWK_23, aI aRE cI 61 fRE_23] := hD.sub [0, 1, 2, 3, 4, 5] rfl rfl
      refine lv_goto (tgt := 57) hx hb dX0_mendStretch_26 (by decide) ?_
      exact B57 _ _ _ _ _ _ _ h H locs ls hP hD hS (lv_sub hl [1, 2, 4, 5, 0] rfl)
  unfold wp_X0_mendStretch at h
  intro H locs ls hP hD hS hl
  refine lv_iload_n hx hb dX0_mendStretch_0 rfl (lv_at hl 3 rfl) ?_
  refine lv_aload_n hx hb dX0_mendStretch_1 rfl (lv_at hl 0 rfl) ?_
  refine va_get (D := (dC, dI)) (ci := 0) (v := .int pk) (C := RX0) (T := TX0) (N := 3) hx hb hts in_X0 hown hK hP 0 rfl rfl 0 (by decide) k_28 (fun _ h9 => h9) rfl dX0_mendStretch_2 ?_
  refine lv_icmp_ne (tgt := 12) hx hb dX0_mendStretch_5 (by decide) (fun q5 => ?_) (fun q5 => ?_)
  · have h := h.1 q5
    refine lv_iconst (v := 0) hx hb dX0_mendStretch_12 (by decide) ?_
    exact B13 _ _ _ _ _ _ _ h H locs ls hP hD hS (lv_sub hl [0, 1, 2, 3, 4] rfl)
  · have h := h.2 q5
    refine lv_iconst (v := 1) hx hb dX0_mendStretch_8 (by decide) ?_
    refine lv_goto (tgt := 13) hx hb dX0_mendStretch_9 (by decide) ?_
    exact B13 _ _ _ _ _ _ _ h H locs ls hP hD hS (lv_sub hl [0, 1, 2, 3, 4] rfl)
set_option maxHeartbeats 4000000 in
set_option maxRecDepth 100000 in
theorem c_X0_mendStretch {l : Launch} {dC : Nat → ClassId} {dI : Nat → Nat → Nat} {cI cJ cZ : ClassId} {aP aL aN aT aB aWK aRE aY aZ : Nat} {pk : Int32} {fL : (Nat → Int32)} {tk : Int32} {fB : (Nat → Int32)} {fWK : (Nat → Int32)} {fRE : (Nat → Int32)} {x1 : Int32} {x2 : Int32} {x3 : Int32} {post : Int32 → (Nat → Int32) → (Nat → Int32) → (Nat → Int32) → Prop} (h : wp_X0_mendStretch x1 x2 x3 pk fL tk fB fWK fRE post) : ∀ sz, Met l yX0_mendStretch wsX0_mendStretch rm_X0_mendStretch (mP (dC, dI) (mTy cI cJ cZ) [.ref aP, .int x1, .int x2, .int x3, .ref aT] [oP aP aL aN pk, aI aL cI 60 fL, oT aT aB aWK aRE aY aZ tk, aI aB cI 6 fB, aI aWK cI 61 fWK, aI aRE cI 61 fRE] sz) (va_Qi (fun (r : Int32) (u : (Nat → Int32) × (Nat → Int32) × (Nat → Int32)) => post r (u.1) (u.2.1) (u.2.2)) (mB (dC, dI) (va_A [oP aP aL aN pk, aI aL cI 60 fL, oT aT aB aWK aRE aY aZ tk, aI aB cI 6 fB, aI aWK cI 61 fWK, aI aRE cI 61 fRE] sz) (fun u => [oP aP aL aN pk, aI aL cI 60 (u.1), oT aT aB aWK aRE aY aZ tk, aI aB cI 6 fB, aI aWK cI 61 (u.2.1), aI aRE cI 61 (u.2.2)])) (va_A [oP aP aL aN pk, aI aL cI 60 fL, oT aT aB aWK aRE aY aZ tk, aI aB cI 6 fB, aI aWK cI 61 fWK, aI aRE cI 61 fRE] sz)) 0 0 (va_A [oP aP aL aN pk, aI aL cI 60 fL, oT aT aB aWK aRE aY aZ tk, aI aB cI 6 fB, aI aWK cI 61 fWK, aI aRE cI 61 fRE] sz) := by
  intro sz
  refine Met.ofW (cc := cX0_mendStretch) (maxL := 7) (ret := (some .boolean)) (by decide) rfl ?_
  intro p e s m args below meth c s₁ B hml hv
  obtain ⟨rfl, hsz, hP, hK, hD0⟩ := hv
  have hlocks := B.notSynchronized
  subst hsz
  have hD := hD0.self (sz := s.heap.size)
  have hl := lv_entry ([.ref aP, .int x1, .int x2, .int x3, .ref aT]) (n := 7) (Nat.le_of_ble_eq_true rfl)
  rw [lg_entry_eq]
  exact k_X0_mendStretch B.exec B.bytes hml (findClass_of_methodNamed B.named) (atoms_spec (ws := wsX0_mendStretch) B.pre) hK (fun q hq => Or.inr hq) (fun r fL' fWK' fRE' H locs ls pc hd hz hp hP hD hS => W.zret B.exec B.bytes B.returns (m_bz hz) (fun t ht hW => ⟨⟨r, (fL', fWK', fRE'), rfl, hp, by rw [ht]; exact hP, hD⟩, hS.F ht⟩) hS.2.2 hd) h s.heap [] _ hP hD va_S.rf hl

def wp_X0_mendAround_b8 (x3 : Int32) (x4 : Int32) (x5 : Int32) (pk : Int32) (fL : (Nat → Int32)) (tk : Int32) (fB : (Nat → Int32)) (fWK : (Nat → Int32)) (fRE : (Nat → Int32)) (post : Int32 → (Nat → Int32) → (Nat → Int32) → (Nat → Int32) → Prop)  : Prop := ∀ P8 : Int32 → Int32 → Int32 → (Nat → Int32) → (Nat → Int32) → (Nat → Int32) → Prop, (∀ (x3 : Int32) (x4 : Int32) (x5 : Int32) (fL : (Nat → Int32)) (fWK : (Nat → Int32)) (fRE : (Nat → Int32)), ((pk < (((2 : Int32) * x5) + (1 : Int32)) → post (-9 : Int32) fL fWK fRE) ∧ (¬ pk < (((2 : Int32) * x5) + (1 : Int32)) → wp_X0_mendStretch x3 x4 (((2 : Int32) * x5) + (1 : Int32)) pk fL tk fB fWK fRE (fun (r32 : Int32) (fL_32 : (Nat → Int32)) (fWK_32 : (Nat → Int32)) (fRE_32 : (Nat → Int32)) => ((r32 = (0 : Int32) → wp_X0_previous x3 pk (fun (r43 : Int32) => wp_X0_next x4 pk (fun (r50 : Int32) => (∀ v55 : Int32, v55 = x5 + (1 : Int32) → P8 r43 r50 v55 fL_32 fWK_32 fRE_32)))) ∧ (¬ r32 = (0 : Int32) → post x5 fL_32 fWK_32 fRE_32))))) → P8 x3 x4 x5 fL fWK fRE) → P8 x3 x4 x5 fL fWK fRE
def wp_X0_mendAround (x1 : Int32) (pk : Int32) (fL : (Nat → Int32)) (tk : Int32) (fB : (Nat → Int32)) (fWK : (Nat → Int32)) (fRE : (Nat → Int32)) (post : Int32 → (Nat → Int32) → (Nat → Int32) → (Nat → Int32) → Prop) : Prop := wp_X0_mendAround_b8 x1 x1 (0 : Int32) pk fL tk fB fWK fRE post
abbrev rm_X0_mendAround : Room := { frames := 5, cells := 0, slots := 0, locals := 115 }
theorem hv_X0_mendAround : yX0_mendAround.cls = RX0 ∧ yX0_mendAround.cls ≠ "java/lang/invoke/MethodHandle" ∧ yX0_mendAround.cls ≠ "java/lang/invoke/VarHandle" ∧ (parseMethodDescriptor yX0_mendAround.desc).map (fun d => d.parameters.length) = some 2 := by decide +kernel
set_option maxHeartbeats 4000000 in
set_option maxRecDepth 100000 in
theorem k_X0_mendAround {p : Program} {l : Launch} {e : Env} {s : State} {m : MethodId} {args : Array Value} {below : List Frame} {meth : Method} {c : Code} {Q : State → Prop} {A : Nat → Prop} {dC : Nat → ClassId} {dI : Nat → Nat → Nat} {cI cJ cZ : ClassId} (hx : p.tables.exec = Jvm.exec) (hb : c.code = cX0_mendAround) (hml : c.maxLocals = 6) (hown : s.vm.findClass RX0 = some m.cls) (hts : ∀ w ∈ wsX0_mendAround, w.before args s = true) (hK : va_K (dC, dI) vwCl (mTy cI cJ cZ) s) (hA : ∀ q, s.heap.size ≤ q → A q) {aP aL aN aT aB aWK aRE aY aZ : Nat} {pk : Int32} {fL : (Nat → Int32)} {tk : Int32} {fB : (Nat → Int32)} {fWK : (Nat → Int32)} {fRE : (Nat → Int32)} {x1 : Int32} {post : Int32 → (Nat → Int32) → (Nat → Int32) → (Nat → Int32) → Prop} (ret : ∀ (r : Int32) (fL' : (Nat → Int32)) (fWK' : (Nat → Int32)) (fRE' : (Nat → Int32)) (H : Heap) (locs : List Loc) (ls : Array Slot) (pc : Nat), decode cX0_mendAround pc = .ok (.ireturn, 1) → post r fL' fWK' fRE' → va_P (dC, dI) vwCl [oP aP aL aN pk, aI aL cI 60 fL', oT aT aB aWK aRE aY aZ tk, aI aB cI 6 fB, aI aWK cI 61 fWK', aI aRE cI 61 fRE'] H → va_D A [oP aP aL aN pk, aI aL cI 60 fL', oT aT aB aWK aRE aY aZ tk, aI aB cI 6 fB, aI aWK cI 61 fWK', aI aRE cI 61 fRE'] → va_S A s.heap H locs → W p l e rm_X0_mendAround s m args below meth c H locs 0 0 Q (F0 m pc ls [.int r])) (h : wp_X0_mendAround x1 pk fL tk fB fWK fRE post) : mW p l e rm_X0_mendAround s m args below meth c 0 0 Q A (dC, dI) 6 [oP aP aL aN pk, aI aL cI 60 fL, oT aT aB aWK aRE aY aZ tk, aI aB cI 6 fB, aI aWK cI 61 fWK, aI aRE cI 61 fRE] [(0, .ref aP), (1, .int x1), (2, .ref aT)] 0 [] := by
  have in_X0 : ∀ w ∈ wsX00, w ∈ wsX0_mendAround := fun w hw => List.mem_cons_of_mem _ (List.mem_append_left _ (List.mem_append_right _ hw))
  have k_28 := hts (.fieldLink RX0 28 "RingTasks$Posts" "size" "I") (List.mem_of_getElem? (i := 1) rfl)
  have B8 : ∀ (x3 : Int32) (x4 : Int32) (x5 : Int32) (fL : (Nat → Int32)) (fWK : (Nat → Int32)) (fRE : (Nat → Int32)), wp_X0_mendAround_b8 x3 x4 x5 pk fL tk fB fWK fRE post → mW p l e rm_X0_mendAround s m args below meth c 0 0 Q A (dC, dI) 6 [oP aP aL aN pk, aI aL cI 60 fL, oT aT aB aWK aRE aY aZ tk, aI aB cI 6 fB, aI aWK cI 61 fWK, aI aRE cI 61 fRE] [(0, .ref aP), (2, .ref aT), (3, .int x3), (4, .int x4), (5, .int x5)] 8 [] := by
    intro x3 x4 x5 fL fWK fRE h
    unfold wp_X0_mendAround_b8 at h
    refine h (fun (x3 : Int32) (x4 : Int32) (x5 : Int32) (fL : (Nat → Int32)) (fWK : (Nat → Int32)) (fRE : (Nat → Int32)) => mW p l e rm_X0_mendAround s m args below meth c 0 0 Q A (dC, dI) 6 [oP aP aL aN pk, aI aL cI 60 fL, oT aT aB aWK aRE aY aZ tk, aI aB cI 6 fB, aI aWK cI 61 fWK, aI aRE cI 61 fRE] [(0, .ref aP), (2, .ref aT), (3, .int x3), (4, .int x4), (5, .int x5)] 8 []) ?_
    intro x3 x4 x5 fL fWK fRE h
    intro H locs ls hP hD hS hl
    refine lv_iconst (v := 2) hx hb dX0_mendAround_8 (by decide) ?_
    refine lv_iload hx hb dX0_mendAround_9 (lv_at hl 4 rfl) ?_
    refine lv_imul hx hb dX0_mendAround_11 ?_
    refine lv_iconst (v := 1) hx hb dX0_mendAround_12 (by decide) ?_
    refine lv_iadd hx hb dX0_mendAround_13 ?_
    refine lv_aload_n hx hb dX0_mendAround_14 rfl (lv_at hl 0 rfl) ?_
    refine va_get (D := (dC, dI)) (ci := 0) (v := .int pk) (C := RX0) (T := TX0) (N := 3) hx hb hts in_X0 hown hK hP 0 rfl rfl 0 (by decide) k_28 (fun _ h9 => h9) rfl dX0_mendAround_15 ?_
    refine lv_icmp_gt (tgt := 61) hx hb dX0_mendAround_18 (by decide) (fun q18 => ?_) (fun q18 => ?_)
    · have h := h.1 q18
      refine lv_bipush (v := -9) hx hb dX0_mendAround_61 (by decide) ?_
      exact ret _ _ _ _ H locs ls _ dX0_mendAround_63 h hP hD hS
    · have h := h.2 q18
      refine lv_aload_n hx hb dX0_mendAround_21 rfl (lv_at hl 0 rfl) ?_
      refine lv_iload_n hx hb dX0_mendAround_22 rfl (lv_at hl 2 rfl) ?_
      refine lv_iload hx hb dX0_mendAround_23 (lv_at hl 3 rfl) ?_
      refine lv_iconst (v := 2) hx hb dX0_mendAround_25 (by decide) ?_
      refine lv_iload hx hb dX0_mendAround_26 (lv_at hl 4 rfl) ?_
      refine lv_imul hx hb dX0_mendAround_28 ?_
      refine lv_iconst (v := 1) hx hb dX0_mendAround_29 (by decide) ?_
      refine lv_iadd hx hb dX0_mendAround_30 ?_
      refine lv_aload_n hx hb dX0_mendAround_31 rfl (lv_at hl 1 rfl) ?_
      refine mVi (wr := []) (As := [.int x3, .int x4, .int (((2 : Int32) * x5) + (1 : Int32)), .ref aT]) (rest := []) ⟨hx, hb, hml, hown, hts⟩ (c_X0_mendStretch (l := l) (dC := dC) (dI := dI) (cI := cI) (cJ := cJ) (cZ := cZ) (aP := aP) (aL := aL) (aN := aN) (aT := aT) (aB := aB) (aWK := aWK) (aRE := aRE) (aY := aY) (aZ := aZ) h) (cwV 4 hts gX0_mendAround_X0_mendStretch rfl rfl rfl hv_X0_mendStretch ⟨Nat.le_of_ble_eq_true rfl, Nat.le_of_ble_eq_true rfl⟩) hK hP hD hS hA [0, 1, 2, 3, 4, 5] [] rfl rfl rfl rfl (by decide) 0 rfl rfl rfl rfl hl.1 rfl (Nat.le_of_ble_eq_true rfl) ⟨Nat.zero_le _, Nat.zero_le _⟩ dX0_mendAround_32 (fun r32 u32 H locs h hP hD hS => ?_)
      obtain ⟨fL_32, fWK_32, fRE_32⟩ := u32
      have hP : va_P (dC, dI) vwCl [oP aP aL aN pk, aI aL cI 60 fL_32, oT aT aB aWK aRE aY aZ tk, aI aB cI 6 fB, aI aWK cI 61 fWK_32, aI aRE cI 61 fRE_32] H := hP.sub [0, 1, 2, 3, 4, 5] rfl
      have hD : va_D A [oP aP aL aN pk, aI aL cI 60 fL_32, oT aT aB aWK aRE aY aZ tk, aI aB cI 6 fB, aI aWK cI 61 fWK_32, aI aRE cI 61 fRE_32] := hD.sub [0, 1, 2, 3, 4, 5] rfl rfl
      refine lv_if_eq (tgt := 41) hx hb dX0_mendAround_35 (by decide) (fun q35 => ?_) (fun q35 => ?_)
      · have h := h.1 q35
        refine lv_aload_n hx hb dX0_mendAround_41 rfl (lv_at hl 0 rfl) ?_
        refine lv_iload_n hx hb dX0_mendAround_42 rfl (lv_at hl 2 rfl) ?_
        refine mVi (wr := [aI aL cI 60 fL_32, oT aT aB aWK aRE aY aZ tk, aI aB cI 6 fB, aI aWK cI 61 fWK_32, aI aRE cI 61 fRE_32]) (As := [.int x3]) (rest := []) ⟨hx, hb, hml, hown, hts⟩ (c_X0_previous (l := l) (dC := dC) (dI := dI) (cI := cI) (cJ := cJ) (cZ := cZ) (aP := aP) (aL := aL) (aN := aN) h) (cwV 1 hts gX0_mendAround_X0_previous rfl rfl rfl hv_X0_previous ⟨Nat.le_of_ble_eq_true rfl, Nat.le_of_ble_eq_true rfl⟩) hK hP hD hS hA [0] [1, 2, 3, 4, 5] rfl rfl rfl rfl (by decide) 0 rfl rfl rfl rfl hl.1 rfl (Nat.le_of_ble_eq_true rfl) ⟨Nat.zero_le _, Nat.zero_le _⟩ dX0_mendAround_43 (fun r43 u43 H locs h hP hD hS => ?_)
        have hP : va_P (dC, dI) vwCl [oP aP aL aN pk, aI aL cI 60 fL_32, oT aT aB aWK aRE aY aZ tk, aI aB cI 6 fB, aI aWK cI 61 fWK_32, aI aRE cI 61 fRE_32] H := hP.sub [5, 0, 1, 2, 3, 4] rfl
        have hD : va_D A [oP aP aL aN pk, aI aL cI 60 fL_32, oT aT aB aWK aRE aY aZ tk, aI aB cI 6 fB, aI aWK cI 61 fWK_32, aI aRE cI 61 fRE_32] := hD.sub [5, 0, 1, 2, 3, 4] rfl rfl
        refine lv_istore_n (lv' := [(3, .int r43), (0, .ref aP), (2, .ref aT), (4, .int x4), (5, .int x5)]) hx hb dX0_mendAround_46 rfl hl (by decide) rfl (fun ls hl => ?_)
        refine lv_aload_n hx hb dX0_mendAround_47 rfl (lv_at hl 1 rfl) ?_
        refine lv_iload hx hb dX0_mendAround_48 (lv_at hl 3 rfl) ?_
        refine mVi (wr := [aI aL cI 60 fL_32, oT aT aB aWK aRE aY aZ tk, aI aB cI 6 fB, aI aWK cI 61 fWK_32, aI aRE cI 61 fRE_32]) (As := [.int x4]) (rest := []) ⟨hx, hb, hml, hown, hts⟩ (c_X0_next (l := l) (dC := dC) (dI := dI) (cI := cI) (cJ := cJ) (cZ := cZ) (aP := aP) (aL := aL) (aN := aN) h) (cwV 1 hts gX0_mendAround_X0_next rfl rfl rfl hv_X0_next ⟨Nat.le_of_ble_eq_true rfl, Nat.le_of_ble_eq_true rfl⟩) hK hP hD hS hA [0] [1, 2, 3, 4, 5] rfl rfl rfl rfl (by decide) 0 rfl rfl rfl rfl hl.1 rfl (Nat.le_of_ble_eq_true rfl) ⟨Nat.zero_le _, Nat.zero_le _⟩ dX0_mendAround_50 (fun r50 u50 H locs h hP hD hS => ?_)
        have hP : va_P (dC, dI) vwCl [oP aP aL aN pk, aI aL cI 60 fL_32, oT aT aB aWK aRE aY aZ tk, aI aB cI 6 fB, aI aWK cI 61 fWK_32, aI aRE cI 61 fRE_32] H := hP.sub [5, 0, 1, 2, 3, 4] rfl
        have hD : va_D A [oP aP aL aN pk, aI aL cI 60 fL_32, oT aT aB aWK aRE aY aZ tk, aI aB cI 6 fB, aI aWK cI 61 fWK_32, aI aRE cI 61 fRE_32] := hD.sub [5, 0, 1, 2, 3, 4] rfl rfl
        refine lv_istore (lv' := [(4, .int r50), (3, .int r43), (0, .ref aP), (2, .ref aT), (5, .int x5)]) hx hb dX0_mendAround_53 hl (by decide) rfl (fun ls hl => ?_)
        obtain ⟨v55, ev55⟩ : ∃ y : Int32, y = x5 + (1 : Int32) := ⟨_, rfl⟩
        have h := h v55 ev55
        refine lv_iinc (v := v55) (lv' := [(5, .int v55), (4, .int r50), (3, .int r43), (0, .ref aP), (2, .ref aT)]) hx hb dX0_mendAround_55 hl (k := 4) rfl (by rw [ev55]; rfl) (by decide) rfl (fun ls hl => ?_)
        refine lv_goto (tgt := 8) hx hb dX0_mendAround_58 (by decide) ?_
        exact h H locs ls hP hD hS (lv_sub hl [3, 4, 2, 1, 0] rfl)
      · have h := h.2 q35
        refine lv_iload hx hb dX0_mendAround_38 (lv_at hl 4 rfl) ?_
        exact ret _ _ _ _ H locs ls _ dX0_mendAround_40 h hP hD hS
  unfold wp_X0_mendAround at h
  intro H locs ls hP hD hS hl
  refine lv_iload_n hx hb dX0_mendAround_0 rfl (lv_at hl 1 rfl) ?_
  refine lv_istore_n (lv' := [(3, .int x1), (0, .ref aP), (1, .int x1), (2, .ref aT)]) hx hb dX0_mendAround_1 rfl hl (by decide) rfl (fun ls hl => ?_)
  refine lv_iload_n hx hb dX0_mendAround_2 rfl (lv_at hl 2 rfl) ?_
  refine lv_istore (lv' := [(4, .int x1), (3, .int x1), (0, .ref aP), (1, .int x1), (2, .ref aT)]) hx hb dX0_mendAround_3 hl (by decide) rfl (fun ls hl => ?_)
  refine lv_iconst (v := 0) hx hb dX0_mendAround_5 (by decide) ?_
  refine lv_istore (lv' := [(5, .int (0 : Int32)), (4, .int x1), (3, .int x1), (0, .ref aP), (1, .int x1), (2, .ref aT)]) hx hb dX0_mendAround_6 hl (by decide) rfl (fun ls hl => ?_)
  exact B8 _ _ _ _ _ _ h H locs ls hP hD hS (lv_sub hl [3, 5, 2, 1, 0] rfl)
set_option maxHeartbeats 4000000 in
set_option maxRecDepth 100000 in
theorem c_X0_mendAround {l : Launch} {dC : Nat → ClassId} {dI : Nat → Nat → Nat} {cI cJ cZ : ClassId} {aP aL aN aT aB aWK aRE aY aZ : Nat} {pk : Int32} {fL : (Nat → Int32)} {tk : Int32} {fB : (Nat → Int32)} {fWK : (Nat → Int32)} {fRE : (Nat → Int32)} {x1 : Int32} {post : Int32 → (Nat → Int32) → (Nat → Int32) → (Nat → Int32) → Prop} (h : wp_X0_mendAround x1 pk fL tk fB fWK fRE post) : ∀ sz, Met l yX0_mendAround wsX0_mendAround rm_X0_mendAround (mP (dC, dI) (mTy cI cJ cZ) [.ref aP, .int x1, .ref aT] [oP aP aL aN pk, aI aL cI 60 fL, oT aT aB aWK aRE aY aZ tk, aI aB cI 6 fB, aI aWK cI 61 fWK, aI aRE cI 61 fRE] sz) (va_Qi (fun (r : Int32) (u : (Nat → Int32) × (Nat → Int32) × (Nat → Int32)) => post r (u.1) (u.2.1) (u.2.2)) (mB (dC, dI) (va_A [oP aP aL aN pk, aI aL cI 60 fL, oT aT aB aWK aRE aY aZ tk, aI aB cI 6 fB, aI aWK cI 61 fWK, aI aRE cI 61 fRE] sz) (fun u => [oP aP aL aN pk, aI aL cI 60 (u.1), oT aT aB aWK aRE aY aZ tk, aI aB cI 6 fB, aI aWK cI 61 (u.2.1), aI aRE cI 61 (u.2.2)])) (va_A [oP aP aL aN pk, aI aL cI 60 fL, oT aT aB aWK aRE aY aZ tk, aI aB cI 6 fB, aI aWK cI 61 fWK, aI aRE cI 61 fRE] sz)) 0 0 (va_A [oP aP aL aN pk, aI aL cI 60 fL, oT aT aB aWK aRE aY aZ tk, aI aB cI 6 fB, aI aWK cI 61 fWK, aI aRE cI 61 fRE] sz) := by
  intro sz
  refine Met.ofW (cc := cX0_mendAround) (maxL := 6) (ret := (some .int)) (by decide) rfl ?_
  intro p e s m args below meth c s₁ B hml hv
  obtain ⟨rfl, hsz, hP, hK, hD0⟩ := hv
  have hlocks := B.notSynchronized
  subst hsz
  have hD := hD0.self (sz := s.heap.size)
  have hl := lv_entry ([.ref aP, .int x1, .ref aT]) (n := 6) (Nat.le_of_ble_eq_true rfl)
  rw [lg_entry_eq]
  exact k_X0_mendAround B.exec B.bytes hml (findClass_of_methodNamed B.named) (atoms_spec (ws := wsX0_mendAround) B.pre) hK (fun q hq => Or.inr hq) (fun r fL' fWK' fRE' H locs ls pc hd hp hP hD hS => W.iret B.exec B.bytes B.returns (fun t ht hW => ⟨⟨r, (fL', fWK', fRE'), rfl, hp, by rw [ht]; exact hP, hD⟩, hS.F ht⟩) hS.2.2 hd) h s.heap [] _ hP hD va_S.rf hl

def wp_X0_likeNeighbours_b4 (x1 : Int32) (x2 : Int32) (pk : Int32) (fN : (Nat → Int32)) (post : Int32 → Prop)  : Prop := ∀ P4 : Int32 → Int32 → Prop, (∀ (x1 : Int32) (x2 : Int32), ((pk ≤ x2 → post x1) ∧ (¬ pk ≤ x2 → (vp_in x2 60 ∧ wp_X0_next x2 pk (fun (r24 : Int32) => (vp_in r24 60 ∧ ((¬ (fN x2.toNatClampNeg) = (fN r24.toNatClampNeg) → (∀ v34 : Int32, v34 = x2 + (1 : Int32) → P4 x1 v34)) ∧ ((fN x2.toNatClampNeg) = (fN r24.toNatClampNeg) → (∀ v31 : Int32, v31 = x1 + (1 : Int32) → (∀ v34 : Int32, v34 = x2 + (1 : Int32) → P4 v31 v34))))))))) → P4 x1 x2) → P4 x1 x2
def wp_X0_likeNeighbours  (pk : Int32) (fN : (Nat → Int32)) (post : Int32 → Prop) : Prop := wp_X0_likeNeighbours_b4 (0 : Int32) (0 : Int32) pk fN post
abbrev rm_X0_likeNeighbours : Room := { frames := 1, cells := 0, slots := 0, locals := 21 }
theorem hv_X0_likeNeighbours : yX0_likeNeighbours.cls = RX0 ∧ yX0_likeNeighbours.cls ≠ "java/lang/invoke/MethodHandle" ∧ yX0_likeNeighbours.cls ≠ "java/lang/invoke/VarHandle" ∧ (parseMethodDescriptor yX0_likeNeighbours.desc).map (fun d => d.parameters.length) = some 0 := by decide +kernel
set_option maxHeartbeats 4000000 in
set_option maxRecDepth 100000 in
theorem k_X0_likeNeighbours {p : Program} {l : Launch} {e : Env} {s : State} {m : MethodId} {args : Array Value} {below : List Frame} {meth : Method} {c : Code} {Q : State → Prop} {A : Nat → Prop} {dC : Nat → ClassId} {dI : Nat → Nat → Nat} {cI cJ cZ : ClassId} (hx : p.tables.exec = Jvm.exec) (hb : c.code = cX0_likeNeighbours) (hml : c.maxLocals = 3) (hown : s.vm.findClass RX0 = some m.cls) (hts : ∀ w ∈ wsX0_likeNeighbours, w.before args s = true) (hK : va_K (dC, dI) vwCl (mTy cI cJ cZ) s) (hA : ∀ q, s.heap.size ≤ q → A q) {aP aL aN : Nat} {pk : Int32} {fN : (Nat → Int32)}  {post : Int32 → Prop} (ret : ∀ (r : Int32) (H : Heap) (locs : List Loc) (ls : Array Slot) (pc : Nat), decode cX0_likeNeighbours pc = .ok (.ireturn, 1) → post r → va_P (dC, dI) vwCl [oP aP aL aN pk, aI aN cI 60 fN] H → va_D A [oP aP aL aN pk, aI aN cI 60 fN] → va_S A s.heap H locs → W p l e rm_X0_likeNeighbours s m args below meth c H locs 0 0 Q (F0 m pc ls [.int r])) (h : wp_X0_likeNeighbours  pk fN post) : mW p l e rm_X0_likeNeighbours s m args below meth c 0 0 Q A (dC, dI) 3 [oP aP aL aN pk, aI aN cI 60 fN] [(0, .ref aP)] 0 [] := by
  have in_X0 : ∀ w ∈ wsX00, w ∈ wsX0_likeNeighbours := fun w hw => List.mem_cons_of_mem _ (List.mem_append_right _ hw)
  have k_15 := hts (.fieldLink RX0 15 "RingTasks$Posts" "number" "[I") (List.mem_of_getElem? (i := 2) rfl)
  have k_28 := hts (.fieldLink RX0 28 "RingTasks$Posts" "size" "I") (List.mem_of_getElem? (i := 1) rfl)
  have B4 : ∀ (x1 : Int32) (x2 : Int32), wp_X0_likeNeighbours_b4 x1 x2 pk fN post → mW p l e rm_X0_likeNeighbours s m args below meth c 0 0 Q A (dC, dI) 3 [oP aP aL aN pk, aI aN cI 60 fN] [(0, .ref aP), (1, .int x1), (2, .int x2)] 4 [] := by
    intro x1 x2 h
    unfold wp_X0_likeNeighbours_b4 at h
    refine h (fun (x1 : Int32) (x2 : Int32) => mW p l e rm_X0_likeNeighbours s m args below meth c 0 0 Q A (dC, dI) 3 [oP aP aL aN pk, aI aN cI 60 fN] [(0, .ref aP), (1, .int x1), (2, .int x2)] 4 []) ?_
    intro x1 x2 h
    intro H locs ls hP hD hS hl
    refine lv_iload_n hx hb dX0_likeNeighbours_4 rfl (lv_at hl 2 rfl) ?_
    refine lv_aload_n hx hb dX0_likeNeighbours_5 rfl (lv_at hl 0 rfl) ?_
    refine va_get (D := (dC, dI)) (ci := 0) (v := .int pk) (C := RX0) (T := TX0) (N := 3) hx hb hts in_X0 hown hK hP 0 rfl rfl 0 (by decide) k_28 (fun _ h9 => h9) rfl dX0_likeNeighbours_6 ?_
    refine lv_icmp_ge (tgt := 40) hx hb dX0_likeNeighbours_9 (by decide) (fun q9 => ?_) (fun q9 => ?_)
    · have h := h.1 q9
      refine lv_iload_n hx hb dX0_likeNeighbours_40 rfl (lv_at hl 1 rfl) ?_
      exact ret _  H locs ls _ dX0_likeNeighbours_41 h hP hD hS
    · have h := h.2 q9
      refine lv_aload_n hx hb dX0_likeNeighbours_12 rfl (lv_at hl 0 rfl) ?_
      refine va_get (D := (dC, dI)) (ci := 0) (v := .ref aN) (C := RX0) (T := TX0) (N := 3) hx hb hts in_X0 hown hK hP 0 rfl rfl 2 (by decide) k_15 (fun _ h9 => h9) rfl dX0_likeNeighbours_13 ?_
      refine lv_iload_n hx hb dX0_likeNeighbours_16 rfl (lv_at hl 2 rfl) ?_
      refine va_iald (D := (dC, dI)) hx hb hK hP 1 0 rfl rfl h.1 dX0_likeNeighbours_17 ?_
      have h := h.2
      refine lv_aload_n hx hb dX0_likeNeighbours_18 rfl (lv_at hl 0 rfl) ?_
      refine va_get (D := (dC, dI)) (ci := 0) (v := .ref aN) (C := RX0) (T := TX0) (N := 3) hx hb hts in_X0 hown hK hP 0 rfl rfl 2 (by decide) k_15 (fun _ h9 => h9) rfl dX0_likeNeighbours_19 ?_
      refine lv_aload_n hx hb dX0_likeNeighbours_22 rfl (lv_at hl 0 rfl) ?_
      refine lv_iload_n hx hb dX0_likeNeighbours_23 rfl (lv_at hl 2 rfl) ?_
      refine mVi (wr := [aI aN cI 60 fN]) (As := [.int x2]) (rest := [.ref aN, .int (fN x2.toNatClampNeg)]) ⟨hx, hb, hml, hown, hts⟩ (c_X0_next (l := l) (dC := dC) (dI := dI) (cI := cI) (cJ := cJ) (cZ := cZ) (aP := aP) (aL := aL) (aN := aN) h) (cwV 1 hts gX0_likeNeighbours_X0_next rfl rfl rfl hv_X0_next ⟨Nat.le_of_ble_eq_true rfl, Nat.le_of_ble_eq_true rfl⟩) hK hP hD hS hA [0] [1] rfl rfl rfl rfl (by decide) 0 rfl rfl rfl rfl hl.1 rfl (Nat.le_of_ble_eq_true rfl) ⟨Nat.zero_le _, Nat.zero_le _⟩ dX0_likeNeighbours_24 (fun r24 u24 H locs h hP hD hS => ?_)
      have hP : va_P (dC, dI) vwCl [oP aP aL aN pk, aI aN cI 60 fN] H := hP.sub [1, 0] rfl
      have hD : va_D A [oP aP aL aN pk, aI aN cI 60 fN] := hD.sub [1, 0] rfl rfl
      refine va_iald (D := (dC, dI)) hx hb hK hP 1 0 rfl rfl h.1 dX0_likeNeighbours_27 ?_
      have h := h.2
      refine lv_icmp_ne (tgt := 34) hx hb dX0_likeNeighbours_28 (by decide) (fun q28 => ?_) (fun q28 => ?_)
      · have h := h.1 q28
        obtain ⟨v34, ev34⟩ : ∃ y : Int32, y = x2 + (1 : Int32) := ⟨_, rfl⟩
        have h := h v34 ev34
        refine lv_iinc (v := v34) (lv' := [(2, .int v34), (0, .ref aP), (1, .int x1)]) hx hb dX0_likeNeighbours_34 hl (k := 2) rfl (by rw [ev34]; rfl) (by decide) rfl (fun ls hl => ?_)
        refine lv_goto (tgt := 4) hx hb dX0_likeNeighbours_37 (by decide) ?_
        exact h H locs ls hP hD hS (lv_sub hl [1, 2, 0] rfl)
      · have h := h.2 q28
        obtain ⟨v31, ev31⟩ : ∃ y : Int32, y = x1 + (1 : Int32) := ⟨_, rfl⟩
        have h := h v31 ev31
        refine lv_iinc (v := v31) (lv' := [(1, .int v31), (0, .ref aP), (2, .int x2)]) hx hb dX0_likeNeighbours_31 hl (k := 1) rfl (by rw [ev31]; rfl) (by decide) rfl (fun ls hl => ?_)
        obtain ⟨v34, ev34⟩ : ∃ y : Int32, y = x2 + (1 : Int32) := ⟨_, rfl⟩
        have h := h v34 ev34
        refine lv_iinc (v := v34) (lv' := [(2, .int v34), (1, .int v31), (0, .ref aP)]) hx hb dX0_likeNeighbours_34 hl (k := 2) rfl (by rw [ev34]; rfl) (by decide) rfl (fun ls hl => ?_)
        refine lv_goto (tgt := 4) hx hb dX0_likeNeighbours_37 (by decide) ?_
        exact h H locs ls hP hD hS (lv_sub hl [2, 1, 0] rfl)
  unfold wp_X0_likeNeighbours at h
  intro H locs ls hP hD hS hl
  refine lv_iconst (v := 0) hx hb dX0_likeNeighbours_0 (by decide) ?_
  refine lv_istore_n (lv' := [(1, .int (0 : Int32)), (0, .ref aP)]) hx hb dX0_likeNeighbours_1 rfl hl (by decide) rfl (fun ls hl => ?_)
  refine lv_iconst (v := 0) hx hb dX0_likeNeighbours_2 (by decide) ?_
  refine lv_istore_n (lv' := [(2, .int (0 : Int32)), (1, .int (0 : Int32)), (0, .ref aP)]) hx hb dX0_likeNeighbours_3 rfl hl (by decide) rfl (fun ls hl => ?_)
  exact B4 _ _ h H locs ls hP hD hS (lv_sub hl [2, 1, 0] rfl)
set_option maxHeartbeats 4000000 in
set_option maxRecDepth 100000 in
theorem c_X0_likeNeighbours {l : Launch} {dC : Nat → ClassId} {dI : Nat → Nat → Nat} {cI cJ cZ : ClassId} {aP aL aN : Nat} {pk : Int32} {fN : (Nat → Int32)}  {post : Int32 → Prop} (h : wp_X0_likeNeighbours  pk fN post) : ∀ sz, Met l yX0_likeNeighbours wsX0_likeNeighbours rm_X0_likeNeighbours (mP (dC, dI) (mTy cI cJ cZ) [.ref aP] [oP aP aL aN pk, aI aN cI 60 fN] sz) (va_Qi (fun (r : Int32) (u : Unit) => post r ) (mB (dC, dI) (va_A [oP aP aL aN pk, aI aN cI 60 fN] sz) (fun u => [oP aP aL aN pk, aI aN cI 60 fN])) (va_A [oP aP aL aN pk, aI aN cI 60 fN] sz)) 0 0 (va_A [oP aP aL aN pk, aI aN cI 60 fN] sz) := by
  intro sz
  refine Met.ofW (cc := cX0_likeNeighbours) (maxL := 3) (ret := (some .int)) (by decide) rfl ?_
  intro p e s m args below meth c s₁ B hml hv
  obtain ⟨rfl, hsz, hP, hK, hD0⟩ := hv
  have hlocks := B.notSynchronized
  subst hsz
  have hD := hD0.self (sz := s.heap.size)
  have hl := lv_entry ([.ref aP]) (n := 3) (Nat.le_of_ble_eq_true rfl)
  rw [lg_entry_eq]
  exact k_X0_likeNeighbours B.exec B.bytes hml (findClass_of_methodNamed B.named) (atoms_spec (ws := wsX0_likeNeighbours) B.pre) hK (fun q hq => Or.inr hq) (fun r H locs ls pc hd hp hP hD hS => W.iret B.exec B.bytes B.returns (fun t ht hW => ⟨⟨r, (), rfl, hp, by rw [ht]; exact hP, hD⟩, hS.F ht⟩) hS.2.2 hd) h s.heap [] _ hP hD va_S.rf hl

def wp_X0_greatestNumber_b4 (x1 : Int32) (x2 : Int32) (pk : Int32) (fN : (Nat → Int32)) (post : Int32 → Prop)  : Prop := ∀ P4 : Int32 → Int32 → Prop, (∀ (x1 : Int32) (x2 : Int32), ((pk ≤ x2 → post x1) ∧ (¬ pk ≤ x2 → (vp_in x2 60 ∧ (∀ v22 : Int32, v22 = (if x1 < (fN x2.toNatClampNeg) then (fN x2.toNatClampNeg) else x1) → (∀ v23 : Int32, v23 = x2 + (1 : Int32) → P4 v22 v23))))) → P4 x1 x2) → P4 x1 x2
def wp_X0_greatestNumber  (pk : Int32) (fN : (Nat → Int32)) (post : Int32 → Prop) : Prop := wp_X0_greatestNumber_b4 (0 : Int32) (0 : Int32) pk fN post
abbrev rm_X0_greatestNumber : Room := { frames := 1, cells := 0, slots := 0, locals := 26 }
theorem hv_X0_greatestNumber : yX0_greatestNumber.cls = RX0 ∧ yX0_greatestNumber.cls ≠ "java/lang/invoke/MethodHandle" ∧ yX0_greatestNumber.cls ≠ "java/lang/invoke/VarHandle" ∧ (parseMethodDescriptor yX0_greatestNumber.desc).map (fun d => d.parameters.length) = some 0 := by decide +kernel
set_option maxHeartbeats 4000000 in
set_option maxRecDepth 100000 in
theorem k_X0_greatestNumber {p : Program} {l : Launch} {e : Env} {s : State} {m : MethodId} {args : Array Value} {below : List Frame} {meth : Method} {c : Code} {Q : State → Prop} {A : Nat → Prop} {dC : Nat → ClassId} {dI : Nat → Nat → Nat} {cI cJ cZ : ClassId} (hx : p.tables.exec = Jvm.exec) (hb : c.code = cX0_greatestNumber) (hml : c.maxLocals = 3) (hown : s.vm.findClass RX0 = some m.cls) (hts : ∀ w ∈ wsX0_greatestNumber, w.before args s = true) (hK : va_K (dC, dI) vwCl (mTy cI cJ cZ) s) (hA : ∀ q, s.heap.size ≤ q → A q) {aP aL aN : Nat} {pk : Int32} {fN : (Nat → Int32)}  {post : Int32 → Prop} (ret : ∀ (r : Int32) (H : Heap) (locs : List Loc) (ls : Array Slot) (pc : Nat), decode cX0_greatestNumber pc = .ok (.ireturn, 1) → post r → va_P (dC, dI) vwCl [oP aP aL aN pk, aI aN cI 60 fN] H → va_D A [oP aP aL aN pk, aI aN cI 60 fN] → va_S A s.heap H locs → W p l e rm_X0_greatestNumber s m args below meth c H locs 0 0 Q (F0 m pc ls [.int r])) (h : wp_X0_greatestNumber  pk fN post) : mW p l e rm_X0_greatestNumber s m args below meth c 0 0 Q A (dC, dI) 3 [oP aP aL aN pk, aI aN cI 60 fN] [(0, .ref aP)] 0 [] := by
  have in_X0 : ∀ w ∈ wsX00, w ∈ wsX0_greatestNumber := fun w hw => List.mem_cons_of_mem _ (List.mem_append_right _ hw)
  have kw_code_Lib_Math_max_name_Lib_Math_max_code_2_some_int_ := hts (.code Lib.Math.max.name Lib.Math.max.code 2 (some .int)) (List.mem_of_getElem? (i := 6) rfl)
  have k_15 := hts (.fieldLink RX0 15 "RingTasks$Posts" "number" "[I") (List.mem_of_getElem? (i := 2) rfl)
  have k_28 := hts (.fieldLink RX0 28 "RingTasks$Posts" "size" "I") (List.mem_of_getElem? (i := 1) rfl)
  have kw_initialized_java_lang_Math_ := hts (.initialized "java/lang/Math") (List.mem_of_getElem? (i := 5) rfl)
  have k_77 := hts (.methodLink RX0 77 Lib.Math.max.name) (List.mem_of_getElem? (i := 3) rfl)
  have kw_static_Lib_Math_max_name := hts (.static Lib.Math.max.name) (List.mem_of_getElem? (i := 4) rfl)
  have B4 : ∀ (x1 : Int32) (x2 : Int32), wp_X0_greatestNumber_b4 x1 x2 pk fN post → mW p l e rm_X0_greatestNumber s m args below meth c 0 0 Q A (dC, dI) 3 [oP aP aL aN pk, aI aN cI 60 fN] [(0, .ref aP), (1, .int x1), (2, .int x2)] 4 [] := by
    intro x1 x2 h
    unfold wp_X0_greatestNumber_b4 at h
    refine h (fun (x1 : Int32) (x2 : Int32) => mW p l e rm_X0_greatestNumber s m args below meth c 0 0 Q A (dC, dI) 3 [oP aP aL aN pk, aI aN cI 60 fN] [(0, .ref aP), (1, .int x1), (2, .int x2)] 4 []) ?_
    intro x1 x2 h
    intro H locs ls hP hD hS hl
    refine lv_iload_n hx hb dX0_greatestNumber_4 rfl (lv_at hl 2 rfl) ?_
    refine lv_aload_n hx hb dX0_greatestNumber_5 rfl (lv_at hl 0 rfl) ?_
    refine va_get (D := (dC, dI)) (ci := 0) (v := .int pk) (C := RX0) (T := TX0) (N := 3) hx hb hts in_X0 hown hK hP 0 rfl rfl 0 (by decide) k_28 (fun _ h9 => h9) rfl dX0_greatestNumber_6 ?_
    refine lv_icmp_ge (tgt := 29) hx hb dX0_greatestNumber_9 (by decide) (fun q9 => ?_) (fun q9 => ?_)
    · have h := h.1 q9
      refine lv_iload_n hx hb dX0_greatestNumber_29 rfl (lv_at hl 1 rfl) ?_
      exact ret _  H locs ls _ dX0_greatestNumber_30 h hP hD hS
    · have h := h.2 q9
      refine lv_iload_n hx hb dX0_greatestNumber_12 rfl (lv_at hl 1 rfl) ?_
      refine lv_aload_n hx hb dX0_greatestNumber_13 rfl (lv_at hl 0 rfl) ?_
      refine va_get (D := (dC, dI)) (ci := 0) (v := .ref aN) (C := RX0) (T := TX0) (N := 3) hx hb hts in_X0 hown hK hP 0 rfl rfl 2 (by decide) k_15 (fun _ h9 => h9) rfl dX0_greatestNumber_14 ?_
      refine lv_iload_n hx hb dX0_greatestNumber_17 rfl (lv_at hl 2 rfl) ?_
      refine va_iald (D := (dC, dI)) hx hb hK hP 1 0 rfl rfl h.1 dX0_greatestNumber_18 ?_
      have h := h.2
      refine va_mmax hx hb (hml.trans hl.1.symm) hown k_77 kw_static_Lib_Math_max_name kw_initialized_java_lang_Math_ kw_code_Lib_Math_max_name_Lib_Math_max_code_2_some_int_ (Nat.le_of_ble_eq_true rfl) (Nat.le_of_ble_eq_true rfl) (Nat.le_of_ble_eq_true rfl) (Nat.le_of_ble_eq_true rfl) dX0_greatestNumber_19 ?_
      refine lv_topi (fun v22 ev22 => ?_)
      have h := h v22 ev22
      refine lv_istore_n (lv' := [(1, .int v22), (0, .ref aP), (2, .int x2)]) hx hb dX0_greatestNumber_22 rfl hl (by decide) rfl (fun ls hl => ?_)
      obtain ⟨v23, ev23⟩ : ∃ y : Int32, y = x2 + (1 : Int32) := ⟨_, rfl⟩
      have h := h v23 ev23
      refine lv_iinc (v := v23) (lv' := [(2, .int v23), (1, .int v22), (0, .ref aP)]) hx hb dX0_greatestNumber_23 hl (k := 2) rfl (by rw [ev23]; rfl) (by decide) rfl (fun ls hl => ?_)
      refine lv_goto (tgt := 4) hx hb dX0_greatestNumber_26 (by decide) ?_
      exact h H locs ls hP hD hS (lv_sub hl [2, 1, 0] rfl)
  unfold wp_X0_greatestNumber at h
  intro H locs ls hP hD hS hl
  refine lv_iconst (v := 0) hx hb dX0_greatestNumber_0 (by decide) ?_
  refine lv_istore_n (lv' := [(1, .int (0 : Int32)), (0, .ref aP)]) hx hb dX0_greatestNumber_1 rfl hl (by decide) rfl (fun ls hl => ?_)
  refine lv_iconst (v := 0) hx hb dX0_greatestNumber_2 (by decide) ?_
  refine lv_istore_n (lv' := [(2, .int (0 : Int32)), (1, .int (0 : Int32)), (0, .ref aP)]) hx hb dX0_greatestNumber_3 rfl hl (by decide) rfl (fun ls hl => ?_)
  exact B4 _ _ h H locs ls hP hD hS (lv_sub hl [2, 1, 0] rfl)
set_option maxHeartbeats 4000000 in
set_option maxRecDepth 100000 in
theorem c_X0_greatestNumber {l : Launch} {dC : Nat → ClassId} {dI : Nat → Nat → Nat} {cI cJ cZ : ClassId} {aP aL aN : Nat} {pk : Int32} {fN : (Nat → Int32)}  {post : Int32 → Prop} (h : wp_X0_greatestNumber  pk fN post) : ∀ sz, Met l yX0_greatestNumber wsX0_greatestNumber rm_X0_greatestNumber (mP (dC, dI) (mTy cI cJ cZ) [.ref aP] [oP aP aL aN pk, aI aN cI 60 fN] sz) (va_Qi (fun (r : Int32) (u : Unit) => post r ) (mB (dC, dI) (va_A [oP aP aL aN pk, aI aN cI 60 fN] sz) (fun u => [oP aP aL aN pk, aI aN cI 60 fN])) (va_A [oP aP aL aN pk, aI aN cI 60 fN] sz)) 0 0 (va_A [oP aP aL aN pk, aI aN cI 60 fN] sz) := by
  intro sz
  refine Met.ofW (cc := cX0_greatestNumber) (maxL := 3) (ret := (some .int)) (by decide) rfl ?_
  intro p e s m args below meth c s₁ B hml hv
  obtain ⟨rfl, hsz, hP, hK, hD0⟩ := hv
  have hlocks := B.notSynchronized
  subst hsz
  have hD := hD0.self (sz := s.heap.size)
  have hl := lv_entry ([.ref aP]) (n := 3) (Nat.le_of_ble_eq_true rfl)
  rw [lg_entry_eq]
  exact k_X0_greatestNumber B.exec B.bytes hml (findClass_of_methodNamed B.named) (atoms_spec (ws := wsX0_greatestNumber) B.pre) hK (fun q hq => Or.inr hq) (fun r H locs ls pc hd hp hP hD hS => W.iret B.exec B.bytes B.returns (fun t ht hW => ⟨⟨r, (), rfl, hp, by rw [ht]; exact hP, hD⟩, hS.F ht⟩) hS.2.2 hd) h s.heap [] _ hP hD va_S.rf hl

def wp_X0_shortened (x0 : Int32) (x1 : Int32)  (post : Int32 → Prop) : Prop := (∀ v3 : Int32, v3 = (x0 ^^^ x1) → wp_J6_bitCount_0f7a4 ((v3 &&& (-v3)) - (1 : Int32)) (fun (r10 : Int32) => post (((2 : Int32) * r10) + ((x0 >>> (r10 &&& 31)) &&& (1 : Int32)))))
abbrev rm_X0_shortened : Room := { frames := 1, cells := 0, slots := 0, locals := 20 }
theorem hv_X0_shortened : yX0_shortened.cls ≠ "java/lang/invoke/MethodHandle" ∧ yX0_shortened.cls ≠ "java/lang/invoke/VarHandle" ∧ (parseMethodDescriptor yX0_shortened.desc).map (fun d => d.parameters.length) = some 2 := by decide +kernel
set_option maxHeartbeats 4000000 in
set_option maxRecDepth 100000 in
theorem k_X0_shortened {p : Program} {l : Launch} {e : Env} {s : State} {m : MethodId} {args : Array Value} {below : List Frame} {meth : Method} {c : Code} {Q : State → Prop} {A : Nat → Prop} {dC : Nat → ClassId} {dI : Nat → Nat → Nat} {cI cJ cZ : ClassId} (hx : p.tables.exec = Jvm.exec) (hb : c.code = cX0_shortened) (hml : c.maxLocals = 4) (hown : s.vm.findClass RX0 = some m.cls) (hts : ∀ w ∈ wsX0_shortened, w.before args s = true) (hK : va_K (dC, dI) vwCl (mTy cI cJ cZ) s) (hA : ∀ q, s.heap.size ≤ q → A q)  {x0 : Int32} {x1 : Int32} {post : Int32 → Prop} (ret : ∀ (r : Int32) (H : Heap) (locs : List Loc) (ls : Array Slot) (pc : Nat), decode cX0_shortened pc = .ok (.ireturn, 1) → post r → va_P (dC, dI) vwCl [] H → va_D A [] → va_S A s.heap H locs → W p l e rm_X0_shortened s m args below meth c H locs 0 0 Q (F0 m pc ls [.int r])) (h : wp_X0_shortened x0 x1  post) : mW p l e rm_X0_shortened s m args below meth c 0 0 Q A (dC, dI) 4 [] [(0, .int x0), (1, .int x1)] 0 [] := by
  unfold wp_X0_shortened at h
  intro H locs ls hP hD hS hl
  refine lv_iload_n hx hb dX0_shortened_0 rfl (lv_at hl 0 rfl) ?_
  refine lv_iload_n hx hb dX0_shortened_1 rfl (lv_at hl 1 rfl) ?_
  refine lv_ixor hx hb dX0_shortened_2 ?_
  refine lv_topi (fun v3 ev3 => ?_)
  have h := h v3 ev3
  refine lv_istore_n (lv' := [(2, .int v3), (0, .int x0), (1, .int x1)]) hx hb dX0_shortened_3 rfl hl (by decide) rfl (fun ls hl => ?_)
  refine lv_iload_n hx hb dX0_shortened_4 rfl (lv_at hl 0 rfl) ?_
  refine lv_iload_n hx hb dX0_shortened_5 rfl (lv_at hl 0 rfl) ?_
  refine lv_ineg hx hb dX0_shortened_6 ?_
  refine lv_iand hx hb dX0_shortened_7 ?_
  refine lv_iconst (v := 1) hx hb dX0_shortened_8 (by decide) ?_
  refine lv_isub hx hb dX0_shortened_9 ?_
  refine mSi (wr := []) (As := [.int ((v3 &&& (-v3)) - (1 : Int32))]) (rest := []) ⟨hx, hb, hml, hown, hts⟩ (c_J6_bitCount_0f7a4 (l := l) (dC := dC) (dI := dI) (cI := cI) (cJ := cJ) (cZ := cZ)  h) (va_cwS 1 hts gX0_shortened_J6_bitCount_0f7a4 rfl rfl rfl hv_J6_bitCount_0f7a4 ⟨Nat.le_of_ble_eq_true rfl, Nat.le_of_ble_eq_true rfl⟩) hK hP hD hS hA [] [] rfl rfl rfl rfl (by decide) rfl hl.1 rfl (Nat.le_of_ble_eq_true rfl) ⟨Nat.zero_le _, Nat.zero_le _⟩ dX0_shortened_10 (fun r10 u10 H locs h hP hD hS => ?_)
  have hP : va_P (dC, dI) vwCl [] H := hP.sub [] rfl
  have hD : va_D A [] := hD.sub [] rfl rfl
  refine lv_istore_n (lv' := [(3, .int r10), (2, .int v3), (0, .int x0), (1, .int x1)]) hx hb dX0_shortened_13 rfl hl (by decide) rfl (fun ls hl => ?_)
  refine lv_iconst (v := 2) hx hb dX0_shortened_14 (by decide) ?_
  refine lv_iload_n hx hb dX0_shortened_15 rfl (lv_at hl 0 rfl) ?_
  refine lv_imul hx hb dX0_shortened_16 ?_
  refine lv_iload_n hx hb dX0_shortened_17 rfl (lv_at hl 2 rfl) ?_
  refine lv_iload_n hx hb dX0_shortened_18 rfl (lv_at hl 0 rfl) ?_
  refine lv_ishr hx hb dX0_shortened_19 ?_
  refine lv_iconst (v := 1) hx hb dX0_shortened_20 (by decide) ?_
  refine lv_iand hx hb dX0_shortened_21 ?_
  refine lv_iadd hx hb dX0_shortened_22 ?_
  exact ret _  H locs ls _ dX0_shortened_23 h hP hD hS
set_option maxHeartbeats 4000000 in
set_option maxRecDepth 100000 in
theorem c_X0_shortened {l : Launch} {dC : Nat → ClassId} {dI : Nat → Nat → Nat} {cI cJ cZ : ClassId}  {x0 : Int32} {x1 : Int32} {post : Int32 → Prop} (h : wp_X0_shortened x0 x1  post) : ∀ sz, Met l yX0_shortened wsX0_shortened rm_X0_shortened (mP (dC, dI) (mTy cI cJ cZ) [.int x0, .int x1] [] sz) (va_Qi (fun (r : Int32) (u : Unit) => post r ) (mB (dC, dI) (va_A [] sz) (fun u => [])) (va_A [] sz)) 0 0 (va_A [] sz) := by
  intro sz
  refine Met.ofW (cc := cX0_shortened) (maxL := 4) (ret := (some .int)) (by decide) rfl ?_
  intro p e s m args below meth c s₁ B hml hv
  obtain ⟨rfl, hsz, hP, hK, hD0⟩ := hv
  have hlocks := B.notSynchronized
  subst hsz
  have hD := hD0.self (sz := s.heap.size)
  have hl := lv_entry ([.int x0, .int x1]) (n := 4) (Nat.le_of_ble_eq_true rfl)
  rw [lg_entry_eq]
  exact k_X0_shortened B.exec B.bytes hml (findClass_of_methodNamed B.named) (atoms_spec (ws := wsX0_shortened) B.pre) hK (fun q hq => Or.inr hq) (fun r H locs ls pc hd hp hP hD hS => W.iret B.exec B.bytes B.returns (fun t ht hW => ⟨⟨r, (), rfl, hp, by rw [ht]; exact hP, hD⟩, hS.F ht⟩) hS.2.2 hd) h s.heap [] _ hP hD va_S.rf hl

def wp_X0_doRound_b39 (x1 : Int32) (x2 : Int32) (z0 : Int32) (pk : Int32) (fN : (Nat → Int32)) (post : (Nat → Int32) → Prop) (P9 : Int32 → (Nat → Int32) → Prop) : Prop := (vp_in x2 60 ∧ wp_X0_shortened (fN x2.toNatClampNeg) z0 (fun (r52 : Int32) => (vp_in x2 60 ∧ (∀ fN_55 : (Nat → Int32), fN_55 = upd fN x2.toNatClampNeg r52 → (∀ v56 : Int32, v56 = x2 + (1 : Int32) → P9 v56 fN_55)))))
def wp_X0_doRound_b9 (x1 : Int32) (x2 : Int32) (pk : Int32) (fN : (Nat → Int32)) (post : (Nat → Int32) → Prop)  : Prop := ∀ P9 : Int32 → (Nat → Int32) → Prop, (∀ (x2 : Int32) (fN : (Nat → Int32)), ((pk ≤ x2 → post fN) ∧ (¬ pk ≤ x2 → ((pk ≤ (x2 + (1 : Int32)) → wp_X0_doRound_b39 x1 x2 x1 pk fN post P9) ∧ (¬ pk ≤ (x2 + (1 : Int32)) → (vp_in (x2 + (1 : Int32)) 60 ∧ wp_X0_doRound_b39 x1 x2 (fN (x2 + (1 : Int32)).toNatClampNeg) pk fN post P9))))) → P9 x2 fN) → P9 x2 fN
def wp_X0_doRound  (pk : Int32) (fN : (Nat → Int32)) (post : (Nat → Int32) → Prop) : Prop := (vp_in (0 : Int32) 60 ∧ (∀ v6 : Int32, v6 = (fN (0 : Int32).toNatClampNeg) → wp_X0_doRound_b9 v6 (0 : Int32) pk fN post))
abbrev rm_X0_doRound : Room := { frames := 2, cells := 0, slots := 0, locals := 43 }
theorem hv_X0_doRound : yX0_doRound.cls = RX0 ∧ yX0_doRound.cls ≠ "java/lang/invoke/MethodHandle" ∧ yX0_doRound.cls ≠ "java/lang/invoke/VarHandle" ∧ (parseMethodDescriptor yX0_doRound.desc).map (fun d => d.parameters.length) = some 0 := by decide +kernel
set_option maxHeartbeats 4000000 in
set_option maxRecDepth 100000 in
theorem k_X0_doRound {p : Program} {l : Launch} {e : Env} {s : State} {m : MethodId} {args : Array Value} {below : List Frame} {meth : Method} {c : Code} {Q : State → Prop} {A : Nat → Prop} {dC : Nat → ClassId} {dI : Nat → Nat → Nat} {cI cJ cZ : ClassId} (hx : p.tables.exec = Jvm.exec) (hb : c.code = cX0_doRound) (hml : c.maxLocals = 4) (hown : s.vm.findClass RX0 = some m.cls) (hts : ∀ w ∈ wsX0_doRound, w.before args s = true) (hK : va_K (dC, dI) vwCl (mTy cI cJ cZ) s) (hA : ∀ q, s.heap.size ≤ q → A q) {aP aL aN : Nat} {pk : Int32} {fN : (Nat → Int32)}  {post : (Nat → Int32) → Prop} (ret : ∀ (fN' : (Nat → Int32)) (H : Heap) (locs : List Loc) (ls : Array Slot) (pc : Nat), decode cX0_doRound pc = .ok (.return_, 1) → post fN' → va_P (dC, dI) vwCl [oP aP aL aN pk, aI aN cI 60 fN'] H → va_D A [oP aP aL aN pk, aI aN cI 60 fN'] → va_S A s.heap H locs → W p l e rm_X0_doRound s m args below meth c H locs 0 0 Q (F0 m pc ls [])) (h : wp_X0_doRound  pk fN post) : mW p l e rm_X0_doRound s m args below meth c 0 0 Q A (dC, dI) 4 [oP aP aL aN pk, aI aN cI 60 fN] [(0, .ref aP)] 0 [] := by
  have in_X0 : ∀ w ∈ wsX00, w ∈ wsX0_doRound := fun w hw => List.mem_cons_of_mem _ (List.mem_append_right _ hw)
  have k_15 := hts (.fieldLink RX0 15 "RingTasks$Posts" "number" "[I") (List.mem_of_getElem? (i := 1) rfl)
  have k_28 := hts (.fieldLink RX0 28 "RingTasks$Posts" "size" "I") (List.mem_of_getElem? (i := 2) rfl)
  have B39 : ∀ (x1 : Int32) (x2 : Int32) (z0 : Int32) (fN : (Nat → Int32)), ∀ (P9 : Int32 → (Nat → Int32) → Prop) (hP9 : ∀ (x2 : Int32) (fN : (Nat → Int32)), P9 x2 fN → mW p l e rm_X0_doRound s m args below meth c 0 0 Q A (dC, dI) 4 [oP aP aL aN pk, aI aN cI 60 fN] [(0, .ref aP), (1, .int x1), (2, .int x2)] 9 []), wp_X0_doRound_b39 x1 x2 z0 pk fN post P9 → mW p l e rm_X0_doRound s m args below meth c 0 0 Q A (dC, dI) 4 [oP aP aL aN pk, aI aN cI 60 fN] [(0, .ref aP), (1, .int x1), (2, .int x2)] 39 [.int z0] := by
    intro x1 x2 z0 fN P9 hP9 h
    unfold wp_X0_doRound_b39 at h
    intro H locs ls hP hD hS hl
    refine lv_istore_n (lv' := [(3, .int z0), (0, .ref aP), (1, .int x1), (2, .int x2)]) hx hb dX0_doRound_39 rfl hl (by decide) rfl (fun ls hl => ?_)
    refine lv_aload_n hx hb dX0_doRound_40 rfl (lv_at hl 1 rfl) ?_
    refine va_get (D := (dC, dI)) (ci := 0) (v := .ref aN) (C := RX0) (T := TX0) (N := 3) hx hb hts in_X0 hown hK hP 0 rfl rfl 2 (by decide) k_15 (fun _ h9 => h9) rfl dX0_doRound_41 ?_
    refine lv_iload_n hx hb dX0_doRound_44 rfl (lv_at hl 3 rfl) ?_
    refine lv_aload_n hx hb dX0_doRound_45 rfl (lv_at hl 1 rfl) ?_
    refine va_get (D := (dC, dI)) (ci := 0) (v := .ref aN) (C := RX0) (T := TX0) (N := 3) hx hb hts in_X0 hown hK hP 0 rfl rfl 2 (by decide) k_15 (fun _ h9 => h9) rfl dX0_doRound_46 ?_
    refine lv_iload_n hx hb dX0_doRound_49 rfl (lv_at hl 3 rfl) ?_
    refine va_iald (D := (dC, dI)) hx hb hK hP 1 0 rfl rfl h.1 dX0_doRound_50 ?_
    have h := h.2
    refine lv_iload_n hx hb dX0_doRound_51 rfl (lv_at hl 0 rfl) ?_
    refine mSi (wr := [oP aP aL aN pk, aI aN cI 60 fN]) (As := [.int (fN x2.toNatClampNeg), .int z0]) (rest := [.int x2, .ref aN]) ⟨hx, hb, hml, hown, hts⟩ (c_X0_shortened (l := l) (dC := dC) (dI := dI) (cI := cI) (cJ := cJ) (cZ := cZ)  h) (va_cwS 2 hts gX0_doRound_X0_shortened rfl rfl rfl hv_X0_shortened ⟨Nat.le_of_ble_eq_true rfl, Nat.le_of_ble_eq_true rfl⟩) hK hP hD hS hA [] [0, 1] rfl rfl rfl rfl (by decide) rfl hl.1 rfl (Nat.le_of_ble_eq_true rfl) ⟨Nat.zero_le _, Nat.zero_le _⟩ dX0_doRound_52 (fun r52 u52 H locs h hP hD hS => ?_)
    have hP : va_P (dC, dI) vwCl [oP aP aL aN pk, aI aN cI 60 fN] H := hP.sub [0, 1] rfl
    have hD : va_D A [oP aP aL aN pk, aI aN cI 60 fN] := hD.sub [0, 1] rfl rfl
    refine va_iast (D := (dC, dI)) hx hb hK hP hD hS 1 0 rfl rfl h.1 dX0_doRound_55 (fun H locs hP hD hS => ?_)
    obtain ⟨fN_55, efN_55⟩ : ∃ y, y = upd fN x2.toNatClampNeg r52 := ⟨_, rfl⟩
    have h := h.2 fN_55 efN_55
    have hP : va_P (dC, dI) vwCl [oP aP aL aN pk, aI aN cI 60 fN_55] H := by rw [efN_55]; exact hP
    have hD : va_D A [oP aP aL aN pk, aI aN cI 60 fN_55] := by rw [efN_55]; exact hD
    obtain ⟨v56, ev56⟩ : ∃ y : Int32, y = x2 + (1 : Int32) := ⟨_, rfl⟩
    have h := h v56 ev56
    refine lv_iinc (v := v56) (lv' := [(2, .int v56), (3, .int z0), (0, .ref aP), (1, .int x1)]) hx hb dX0_doRound_56 hl (k := 3) rfl (by rw [ev56]; rfl) (by decide) rfl (fun ls hl => ?_)
    refine lv_goto (tgt := 9) hx hb dX0_doRound_59 (by decide) ?_
    exact hP9 _ _ h H locs ls hP hD hS (lv_sub hl [2, 3, 0] rfl)
  have B9 : ∀ (x1 : Int32) (x2 : Int32) (fN : (Nat → Int32)), wp_X0_doRound_b9 x1 x2 pk fN post → mW p l e rm_X0_doRound s m args below meth c 0 0 Q A (dC, dI) 4 [oP aP aL aN pk, aI aN cI 60 fN] [(0, .ref aP), (1, .int x1), (2, .int x2)] 9 [] := by
    intro x1 x2 fN h
    unfold wp_X0_doRound_b9 at h
    refine h (fun (x2 : Int32) (fN : (Nat → Int32)) => mW p l e rm_X0_doRound s m args below meth c 0 0 Q A (dC, dI) 4 [oP aP aL aN pk, aI aN cI 60 fN] [(0, .ref aP), (1, .int x1), (2, .int x2)] 9 []) ?_
    intro x2 fN h
    intro H locs ls hP hD hS hl
    refine lv_iload_n hx hb dX0_doRound_9 rfl (lv_at hl 2 rfl) ?_
    refine lv_aload_n hx hb dX0_doRound_10 rfl (lv_at hl 0 rfl) ?_
    refine va_get (D := (dC, dI)) (ci := 0) (v := .int pk) (C := RX0) (T := TX0) (N := 3) hx hb hts in_X0 hown hK hP 0 rfl rfl 0 (by decide) k_28 (fun _ h9 => h9) rfl dX0_doRound_11 ?_
    refine lv_icmp_ge (tgt := 62) hx hb dX0_doRound_14 (by decide) (fun q14 => ?_) (fun q14 => ?_)
    · have h := h.1 q14
      exact ret _ H locs ls _ dX0_doRound_62 h hP hD hS
    · have h := h.2 q14
      refine lv_iload_n hx hb dX0_doRound_17 rfl (lv_at hl 2 rfl) ?_
      refine lv_iconst (v := 1) hx hb dX0_doRound_18 (by decide) ?_
      refine lv_iadd hx hb dX0_doRound_19 ?_
      refine lv_aload_n hx hb dX0_doRound_20 rfl (lv_at hl 0 rfl) ?_
      refine va_get (D := (dC, dI)) (ci := 0) (v := .int pk) (C := RX0) (T := TX0) (N := 3) hx hb hts in_X0 hown hK hP 0 rfl rfl 0 (by decide) k_28 (fun _ h9 => h9) rfl dX0_doRound_21 ?_
      refine lv_icmp_ge (tgt := 38) hx hb dX0_doRound_24 (by decide) (fun q24 => ?_) (fun q24 => ?_)
      · have h := h.1 q24
        refine lv_iload_n hx hb dX0_doRound_38 rfl (lv_at hl 1 rfl) ?_
        exact B39 _ _ _ _ _ (fun _ _ hq => hq) h H locs ls hP hD hS (lv_sub hl [0, 1, 2] rfl)
      · have h := h.2 q24
        refine lv_aload_n hx hb dX0_doRound_27 rfl (lv_at hl 0 rfl) ?_
        refine va_get (D := (dC, dI)) (ci := 0) (v := .ref aN) (C := RX0) (T := TX0) (N := 3) hx hb hts in_X0 hown hK hP 0 rfl rfl 2 (by decide) k_15 (fun _ h9 => h9) rfl dX0_doRound_28 ?_
        refine lv_iload_n hx hb dX0_doRound_31 rfl (lv_at hl 2 rfl) ?_
        refine lv_iconst (v := 1) hx hb dX0_doRound_32 (by decide) ?_
        refine lv_iadd hx hb dX0_doRound_33 ?_
        refine va_iald (D := (dC, dI)) hx hb hK hP 1 0 rfl rfl h.1 dX0_doRound_34 ?_
        have h := h.2
        refine lv_goto (tgt := 39) hx hb dX0_doRound_35 (by decide) ?_
        exact B39 _ _ _ _ _ (fun _ _ hq => hq) h H locs ls hP hD hS (lv_sub hl [0, 1, 2] rfl)
  unfold wp_X0_doRound at h
  intro H locs ls hP hD hS hl
  refine lv_aload_n hx hb dX0_doRound_0 rfl (lv_at hl 0 rfl) ?_
  refine va_get (D := (dC, dI)) (ci := 0) (v := .ref aN) (C := RX0) (T := TX0) (N := 3) hx hb hts in_X0 hown hK hP 0 rfl rfl 2 (by decide) k_15 (fun _ h9 => h9) rfl dX0_doRound_1 ?_
  refine lv_iconst (v := 0) hx hb dX0_doRound_4 (by decide) ?_
  refine va_iald (D := (dC, dI)) hx hb hK hP 1 0 rfl rfl h.1 dX0_doRound_5 ?_
  have h := h.2
  refine lv_topi (fun v6 ev6 => ?_)
  have h := h v6 ev6
  refine lv_istore_n (lv' := [(1, .int v6), (0, .ref aP)]) hx hb dX0_doRound_6 rfl hl (by decide) rfl (fun ls hl => ?_)
  refine lv_iconst (v := 0) hx hb dX0_doRound_7 (by decide) ?_
  refine lv_istore_n (lv' := [(2, .int (0 : Int32)), (1, .int v6), (0, .ref aP)]) hx hb dX0_doRound_8 rfl hl (by decide) rfl (fun ls hl => ?_)
  exact B9 _ _ _ h H locs ls hP hD hS (lv_sub hl [2, 1, 0] rfl)
set_option maxHeartbeats 4000000 in
set_option maxRecDepth 100000 in
theorem c_X0_doRound {l : Launch} {dC : Nat → ClassId} {dI : Nat → Nat → Nat} {cI cJ cZ : ClassId} {aP aL aN : Nat} {pk : Int32} {fN : (Nat → Int32)}  {post : (Nat → Int32) → Prop} (h : wp_X0_doRound  pk fN post) : ∀ sz, Met l yX0_doRound wsX0_doRound rm_X0_doRound (mP (dC, dI) (mTy cI cJ cZ) [.ref aP] [oP aP aL aN pk, aI aN cI 60 fN] sz) (va_Qv (fun (u : (Nat → Int32)) => post u) (mB (dC, dI) (va_A [oP aP aL aN pk, aI aN cI 60 fN] sz) (fun u => [oP aP aL aN pk, aI aN cI 60 u])) (va_A [oP aP aL aN pk, aI aN cI 60 fN] sz)) 0 0 (va_A [oP aP aL aN pk, aI aN cI 60 fN] sz) := by
  intro sz
  refine Met.ofW (cc := cX0_doRound) (maxL := 4) (ret := none) (by decide) rfl ?_
  intro p e s m args below meth c s₁ B hml hv
  obtain ⟨rfl, hsz, hP, hK, hD0⟩ := hv
  have hlocks := B.notSynchronized
  subst hsz
  have hD := hD0.self (sz := s.heap.size)
  have hl := lv_entry ([.ref aP]) (n := 4) (Nat.le_of_ble_eq_true rfl)
  rw [lg_entry_eq]
  exact k_X0_doRound B.exec B.bytes hml (findClass_of_methodNamed B.named) (atoms_spec (ws := wsX0_doRound) B.pre) hK (fun q hq => Or.inr hq) (fun fN' H locs ls pc hd hp hP hD hS => W.vret B.exec B.bytes B.returns (fun t ht hW => ⟨⟨fN', rfl, hp, by rw [ht]; exact hP, hD⟩, hS.F ht⟩) hS.2.2 hd) h s.heap [] _ hP hD va_S.rf hl

def wp_X0_leastBeside_b2 (x0 : Int32) (x1 : Int32) (x2 : Int32)  (post : Int32 → Prop)  : Prop := ∀ P2 : Int32 → Prop, (∀ (x2 : Int32), (((2 : Int32) ≤ x2 → post (2 : Int32)) ∧ (¬ (2 : Int32) ≤ x2 → ((x2 = x0 → (∀ v19 : Int32, v19 = x2 + (1 : Int32) → P2 v19)) ∧ (¬ x2 = x0 → ((x2 = x1 → (∀ v19 : Int32, v19 = x2 + (1 : Int32) → P2 v19)) ∧ (¬ x2 = x1 → post x2)))))) → P2 x2) → P2 x2
def wp_X0_leastBeside (x0 : Int32) (x1 : Int32)  (post : Int32 → Prop) : Prop := wp_X0_leastBeside_b2 x0 x1 (0 : Int32) post
abbrev rm_X0_leastBeside : Room := { frames := 0, cells := 0, slots := 0, locals := 0 }
theorem hv_X0_leastBeside : yX0_leastBeside.cls ≠ "java/lang/invoke/MethodHandle" ∧ yX0_leastBeside.cls ≠ "java/lang/invoke/VarHandle" ∧ (parseMethodDescriptor yX0_leastBeside.desc).map (fun d => d.parameters.length) = some 2 := by decide +kernel
set_option maxHeartbeats 4000000 in
set_option maxRecDepth 100000 in
theorem k_X0_leastBeside {p : Program} {l : Launch} {e : Env} {s : State} {m : MethodId} {args : Array Value} {below : List Frame} {meth : Method} {c : Code} {Q : State → Prop} {A : Nat → Prop} {dC : Nat → ClassId} {dI : Nat → Nat → Nat} {cI cJ cZ : ClassId} (hx : p.tables.exec = Jvm.exec) (hb : c.code = cX0_leastBeside) (hml : c.maxLocals = 3) (hown : s.vm.findClass RX0 = some m.cls) (hts : ∀ w ∈ wsX0_leastBeside, w.before args s = true) (hK : va_K (dC, dI) vwCl (mTy cI cJ cZ) s) (hA : ∀ q, s.heap.size ≤ q → A q)  {x0 : Int32} {x1 : Int32} {post : Int32 → Prop} (ret : ∀ (r : Int32) (H : Heap) (locs : List Loc) (ls : Array Slot) (pc : Nat), decode cX0_leastBeside pc = .ok (.ireturn, 1) → post r → va_P (dC, dI) vwCl [] H → va_D A [] → va_S A s.heap H locs → W p l e rm_X0_leastBeside s m args below meth c H locs 0 0 Q (F0 m pc ls [.int r])) (h : wp_X0_leastBeside x0 x1  post) : mW p l e rm_X0_leastBeside s m args below meth c 0 0 Q A (dC, dI) 3 [] [(0, .int x0), (1, .int x1)] 0 [] := by
  have B2 : ∀ (x0 : Int32) (x1 : Int32) (x2 : Int32), wp_X0_leastBeside_b2 x0 x1 x2  post → mW p l e rm_X0_leastBeside s m args below meth c 0 0 Q A (dC, dI) 3 [] [(0, .int x0), (1, .int x1), (2, .int x2)] 2 [] := by
    intro x0 x1 x2 h
    unfold wp_X0_leastBeside_b2 at h
    refine h (fun (x2 : Int32) => mW p l e rm_X0_leastBeside s m args below meth c 0 0 Q A (dC, dI) 3 [] [(0, .int x0), (1, .int x1), (2, .int x2)] 2 []) ?_
    intro x2 h
    intro H locs ls hP hD hS hl
    refine lv_iload_n hx hb dX0_leastBeside_2 rfl (lv_at hl 2 rfl) ?_
    refine lv_iconst (v := 2) hx hb dX0_leastBeside_3 (by decide) ?_
    refine lv_icmp_ge (tgt := 25) hx hb dX0_leastBeside_4 (by decide) (fun q4 => ?_) (fun q4 => ?_)
    · have h := h.1 q4
      refine lv_iconst (v := 2) hx hb dX0_leastBeside_25 (by decide) ?_
      exact ret _  H locs ls _ dX0_leastBeside_26 h hP hD hS
    · have h := h.2 q4
      refine lv_iload_n hx hb dX0_leastBeside_7 rfl (lv_at hl 2 rfl) ?_
      refine lv_iload_n hx hb dX0_leastBeside_8 rfl (lv_at hl 0 rfl) ?_
      refine lv_icmp_eq (tgt := 19) hx hb dX0_leastBeside_9 (by decide) (fun q9 => ?_) (fun q9 => ?_)
      · have h := h.1 q9
        obtain ⟨v19, ev19⟩ : ∃ y : Int32, y = x2 + (1 : Int32) := ⟨_, rfl⟩
        have h := h v19 ev19
        refine lv_iinc (v := v19) (lv' := [(2, .int v19), (0, .int x0), (1, .int x1)]) hx hb dX0_leastBeside_19 hl (k := 2) rfl (by rw [ev19]; rfl) (by decide) rfl (fun ls hl => ?_)
        refine lv_goto (tgt := 2) hx hb dX0_leastBeside_22 (by decide) ?_
        exact h H locs ls hP hD hS (lv_sub hl [1, 2, 0] rfl)
      · have h := h.2 q9
        refine lv_iload_n hx hb dX0_leastBeside_12 rfl (lv_at hl 2 rfl) ?_
        refine lv_iload_n hx hb dX0_leastBeside_13 rfl (lv_at hl 1 rfl) ?_
        refine lv_icmp_eq (tgt := 19) hx hb dX0_leastBeside_14 (by decide) (fun q14 => ?_) (fun q14 => ?_)
        · have h := h.1 q14
          obtain ⟨v19, ev19⟩ : ∃ y : Int32, y = x2 + (1 : Int32) := ⟨_, rfl⟩
          have h := h v19 ev19
          refine lv_iinc (v := v19) (lv' := [(2, .int v19), (0, .int x0), (1, .int x1)]) hx hb dX0_leastBeside_19 hl (k := 2) rfl (by rw [ev19]; rfl) (by decide) rfl (fun ls hl => ?_)
          refine lv_goto (tgt := 2) hx hb dX0_leastBeside_22 (by decide) ?_
          exact h H locs ls hP hD hS (lv_sub hl [1, 2, 0] rfl)
        · have h := h.2 q14
          refine lv_iload_n hx hb dX0_leastBeside_17 rfl (lv_at hl 2 rfl) ?_
          exact ret _  H locs ls _ dX0_leastBeside_18 h hP hD hS
  unfold wp_X0_leastBeside at h
  intro H locs ls hP hD hS hl
  refine lv_iconst (v := 0) hx hb dX0_leastBeside_0 (by decide) ?_
  refine lv_istore_n (lv' := [(2, .int (0 : Int32)), (0, .int x0), (1, .int x1)]) hx hb dX0_leastBeside_1 rfl hl (by decide) rfl (fun ls hl => ?_)
  exact B2 _ _ _ h H locs ls hP hD hS (lv_sub hl [1, 2, 0] rfl)
set_option maxHeartbeats 4000000 in
set_option maxRecDepth 100000 in
theorem c_X0_leastBeside {l : Launch} {dC : Nat → ClassId} {dI : Nat → Nat → Nat} {cI cJ cZ : ClassId}  {x0 : Int32} {x1 : Int32} {post : Int32 → Prop} (h : wp_X0_leastBeside x0 x1  post) : ∀ sz, Met l yX0_leastBeside wsX0_leastBeside rm_X0_leastBeside (mP (dC, dI) (mTy cI cJ cZ) [.int x0, .int x1] [] sz) (va_Qi (fun (r : Int32) (u : Unit) => post r ) (mB (dC, dI) (va_A [] sz) (fun u => [])) (va_A [] sz)) 0 0 (va_A [] sz) := by
  intro sz
  refine Met.ofW (cc := cX0_leastBeside) (maxL := 3) (ret := (some .int)) (by decide) rfl ?_
  intro p e s m args below meth c s₁ B hml hv
  obtain ⟨rfl, hsz, hP, hK, hD0⟩ := hv
  have hlocks := B.notSynchronized
  subst hsz
  have hD := hD0.self (sz := s.heap.size)
  have hl := lv_entry ([.int x0, .int x1]) (n := 3) (Nat.le_of_ble_eq_true rfl)
  rw [lg_entry_eq]
  exact k_X0_leastBeside B.exec B.bytes hml (findClass_of_methodNamed B.named) (atoms_spec (ws := wsX0_leastBeside) B.pre) hK (fun q hq => Or.inr hq) (fun r H locs ls pc hd hp hP hD hS => W.iret B.exec B.bytes B.returns (fun t ht hW => ⟨⟨r, (), rfl, hp, by rw [ht]; exact hP, hD⟩, hS.F ht⟩) hS.2.2 hd) h s.heap [] _ hP hD va_S.rf hl

def wp_X0_giveUpColour_b2 (x1 : Int32) (x2 : Int32) (pk : Int32) (fN : (Nat → Int32)) (post : (Nat → Int32) → Prop)  : Prop := ∀ P2 : Int32 → (Nat → Int32) → Prop, (∀ (x2 : Int32) (fN : (Nat → Int32)), ((pk ≤ x2 → post fN) ∧ (¬ pk ≤ x2 → (vp_in x2 60 ∧ ((¬ (fN x2.toNatClampNeg) = x1 → (∀ v49 : Int32, v49 = x2 + (1 : Int32) → P2 v49 fN)) ∧ ((fN x2.toNatClampNeg) = x1 → wp_X0_previous x2 pk (fun (r31 : Int32) => (vp_in r31 60 ∧ wp_X0_next x2 pk (fun (r41 : Int32) => (vp_in r41 60 ∧ wp_X0_leastBeside (fN r31.toNatClampNeg) (fN r41.toNatClampNeg) (fun (r45 : Int32) => (vp_in x2 60 ∧ (∀ fN_48 : (Nat → Int32), fN_48 = upd fN x2.toNatClampNeg r45 → (∀ v49 : Int32, v49 = x2 + (1 : Int32) → P2 v49 fN_48))))))))))))) → P2 x2 fN) → P2 x2 fN
def wp_X0_giveUpColour (x1 : Int32) (pk : Int32) (fN : (Nat → Int32)) (post : (Nat → Int32) → Prop) : Prop := wp_X0_giveUpColour_b2 x1 (0 : Int32) pk fN post
abbrev rm_X0_giveUpColour : Room := { frames := 1, cells := 0, slots := 0, locals := 22 }
theorem hv_X0_giveUpColour : yX0_giveUpColour.cls = RX0 ∧ yX0_giveUpColour.cls ≠ "java/lang/invoke/MethodHandle" ∧ yX0_giveUpColour.cls ≠ "java/lang/invoke/VarHandle" ∧ (parseMethodDescriptor yX0_giveUpColour.desc).map (fun d => d.parameters.length) = some 1 := by decide +kernel
set_option maxHeartbeats 4000000 in
set_option maxRecDepth 100000 in
theorem k_X0_giveUpColour {p : Program} {l : Launch} {e : Env} {s : State} {m : MethodId} {args : Array Value} {below : List Frame} {meth : Method} {c : Code} {Q : State → Prop} {A : Nat → Prop} {dC : Nat → ClassId} {dI : Nat → Nat → Nat} {cI cJ cZ : ClassId} (hx : p.tables.exec = Jvm.exec) (hb : c.code = cX0_giveUpColour) (hml : c.maxLocals = 3) (hown : s.vm.findClass RX0 = some m.cls) (hts : ∀ w ∈ wsX0_giveUpColour, w.before args s = true) (hK : va_K (dC, dI) vwCl (mTy cI cJ cZ) s) (hA : ∀ q, s.heap.size ≤ q → A q) {aP aL aN : Nat} {pk : Int32} {fN : (Nat → Int32)} {x1 : Int32} {post : (Nat → Int32) → Prop} (ret : ∀ (fN' : (Nat → Int32)) (H : Heap) (locs : List Loc) (ls : Array Slot) (pc : Nat), decode cX0_giveUpColour pc = .ok (.return_, 1) → post fN' → va_P (dC, dI) vwCl [oP aP aL aN pk, aI aN cI 60 fN'] H → va_D A [oP aP aL aN pk, aI aN cI 60 fN'] → va_S A s.heap H locs → W p l e rm_X0_giveUpColour s m args below meth c H locs 0 0 Q (F0 m pc ls [])) (h : wp_X0_giveUpColour x1 pk fN post) : mW p l e rm_X0_giveUpColour s m args below meth c 0 0 Q A (dC, dI) 3 [oP aP aL aN pk, aI aN cI 60 fN] [(0, .ref aP), (1, .int x1)] 0 [] := by
  have in_X0 : ∀ w ∈ wsX00, w ∈ wsX0_giveUpColour := fun w hw => List.mem_cons_of_mem _ (List.mem_append_right _ hw)
  have k_15 := hts (.fieldLink RX0 15 "RingTasks$Posts" "number" "[I") (List.mem_of_getElem? (i := 2) rfl)
  have k_28 := hts (.fieldLink RX0 28 "RingTasks$Posts" "size" "I") (List.mem_of_getElem? (i := 1) rfl)
  have B2 : ∀ (x1 : Int32) (x2 : Int32) (fN : (Nat → Int32)), wp_X0_giveUpColour_b2 x1 x2 pk fN post → mW p l e rm_X0_giveUpColour s m args below meth c 0 0 Q A (dC, dI) 3 [oP aP aL aN pk, aI aN cI 60 fN] [(0, .ref aP), (1, .int x1), (2, .int x2)] 2 [] := by
    intro x1 x2 fN h
    unfold wp_X0_giveUpColour_b2 at h
    refine h (fun (x2 : Int32) (fN : (Nat → Int32)) => mW p l e rm_X0_giveUpColour s m args below meth c 0 0 Q A (dC, dI) 3 [oP aP aL aN pk, aI aN cI 60 fN] [(0, .ref aP), (1, .int x1), (2, .int x2)] 2 []) ?_
    intro x2 fN h
    intro H locs ls hP hD hS hl
    refine lv_iload_n hx hb dX0_giveUpColour_2 rfl (lv_at hl 2 rfl) ?_
    refine lv_aload_n hx hb dX0_giveUpColour_3 rfl (lv_at hl 0 rfl) ?_
    refine va_get (D := (dC, dI)) (ci := 0) (v := .int pk) (C := RX0) (T := TX0) (N := 3) hx hb hts in_X0 hown hK hP 0 rfl rfl 0 (by decide) k_28 (fun _ h9 => h9) rfl dX0_giveUpColour_4 ?_
    refine lv_icmp_ge (tgt := 55) hx hb dX0_giveUpColour_7 (by decide) (fun q7 => ?_) (fun q7 => ?_)
    · have h := h.1 q7
      exact ret _ H locs ls _ dX0_giveUpColour_55 h hP hD hS
    · have h := h.2 q7
      refine lv_aload_n hx hb dX0_giveUpColour_10 rfl (lv_at hl 0 rfl) ?_
      refine va_get (D := (dC, dI)) (ci := 0) (v := .ref aN) (C := RX0) (T := TX0) (N := 3) hx hb hts in_X0 hown hK hP 0 rfl rfl 2 (by decide) k_15 (fun _ h9 => h9) rfl dX0_giveUpColour_11 ?_
      refine lv_iload_n hx hb dX0_giveUpColour_14 rfl (lv_at hl 2 rfl) ?_
      refine va_iald (D := (dC, dI)) hx hb hK hP 1 0 rfl rfl h.1 dX0_giveUpColour_15 ?_
      have h := h.2
      refine lv_iload_n hx hb dX0_giveUpColour_16 rfl (lv_at hl 1 rfl) ?_
      refine lv_icmp_ne (tgt := 49) hx hb dX0_giveUpColour_17 (by decide) (fun q17 => ?_) (fun q17 => ?_)
      · have h := h.1 q17
        obtain ⟨v49, ev49⟩ : ∃ y : Int32, y = x2 + (1 : Int32) := ⟨_, rfl⟩
        have h := h v49 ev49
        refine lv_iinc (v := v49) (lv' := [(2, .int v49), (0, .ref aP), (1, .int x1)]) hx hb dX0_giveUpColour_49 hl (k := 2) rfl (by rw [ev49]; rfl) (by decide) rfl (fun ls hl => ?_)
        refine lv_goto (tgt := 2) hx hb dX0_giveUpColour_52 (by decide) ?_
        exact h H locs ls hP hD hS (lv_sub hl [1, 2, 0] rfl)
      · have h := h.2 q17
        refine lv_aload_n hx hb dX0_giveUpColour_20 rfl (lv_at hl 0 rfl) ?_
        refine va_get (D := (dC, dI)) (ci := 0) (v := .ref aN) (C := RX0) (T := TX0) (N := 3) hx hb hts in_X0 hown hK hP 0 rfl rfl 2 (by decide) k_15 (fun _ h9 => h9) rfl dX0_giveUpColour_21 ?_
        refine lv_iload_n hx hb dX0_giveUpColour_24 rfl (lv_at hl 2 rfl) ?_
        refine lv_aload_n hx hb dX0_giveUpColour_25 rfl (lv_at hl 0 rfl) ?_
        refine va_get (D := (dC, dI)) (ci := 0) (v := .ref aN) (C := RX0) (T := TX0) (N := 3) hx hb hts in_X0 hown hK hP 0 rfl rfl 2 (by decide) k_15 (fun _ h9 => h9) rfl dX0_giveUpColour_26 ?_
        refine lv_aload_n hx hb dX0_giveUpColour_29 rfl (lv_at hl 0 rfl) ?_
        refine lv_iload_n hx hb dX0_giveUpColour_30 rfl (lv_at hl 2 rfl) ?_
        refine mVi (wr := [aI aN cI 60 fN]) (As := [.int x2]) (rest := [.ref aN, .int x2, .ref aN]) ⟨hx, hb, hml, hown, hts⟩ (c_X0_previous (l := l) (dC := dC) (dI := dI) (cI := cI) (cJ := cJ) (cZ := cZ) (aP := aP) (aL := aL) (aN := aN) h) (cwV 1 hts gX0_giveUpColour_X0_previous rfl rfl rfl hv_X0_previous ⟨Nat.le_of_ble_eq_true rfl, Nat.le_of_ble_eq_true rfl⟩) hK hP hD hS hA [0] [1] rfl rfl rfl rfl (by decide) 0 rfl rfl rfl rfl hl.1 rfl (Nat.le_of_ble_eq_true rfl) ⟨Nat.zero_le _, Nat.zero_le _⟩ dX0_giveUpColour_31 (fun r31 u31 H locs h hP hD hS => ?_)
        have hP : va_P (dC, dI) vwCl [oP aP aL aN pk, aI aN cI 60 fN] H := hP.sub [1, 0] rfl
        have hD : va_D A [oP aP aL aN pk, aI aN cI 60 fN] := hD.sub [1, 0] rfl rfl
        refine va_iald (D := (dC, dI)) hx hb hK hP 1 0 rfl rfl h.1 dX0_giveUpColour_34 ?_
        have h := h.2
        refine lv_aload_n hx hb dX0_giveUpColour_35 rfl (lv_at hl 0 rfl) ?_
        refine va_get (D := (dC, dI)) (ci := 0) (v := .ref aN) (C := RX0) (T := TX0) (N := 3) hx hb hts in_X0 hown hK hP 0 rfl rfl 2 (by decide) k_15 (fun _ h9 => h9) rfl dX0_giveUpColour_36 ?_
        refine lv_aload_n hx hb dX0_giveUpColour_39 rfl (lv_at hl 0 rfl) ?_
        refine lv_iload_n hx hb dX0_giveUpColour_40 rfl (lv_at hl 2 rfl) ?_
        refine mVi (wr := [aI aN cI 60 fN]) (As := [.int x2]) (rest := [.ref aN, .int (fN r31.toNatClampNeg), .int x2, .ref aN]) ⟨hx, hb, hml, hown, hts⟩ (c_X0_next (l := l) (dC := dC) (dI := dI) (cI := cI) (cJ := cJ) (cZ := cZ) (aP := aP) (aL := aL) (aN := aN) h) (cwV 1 hts gX0_giveUpColour_X0_next rfl rfl rfl hv_X0_next ⟨Nat.le_of_ble_eq_true rfl, Nat.le_of_ble_eq_true rfl⟩) hK hP hD hS hA [0] [1] rfl rfl rfl rfl (by decide) 0 rfl rfl rfl rfl hl.1 rfl (Nat.le_of_ble_eq_true rfl) ⟨Nat.zero_le _, Nat.zero_le _⟩ dX0_giveUpColour_41 (fun r41 u41 H locs h hP hD hS => ?_)
        have hP : va_P (dC, dI) vwCl [oP aP aL aN pk, aI aN cI 60 fN] H := hP.sub [1, 0] rfl
        have hD : va_D A [oP aP aL aN pk, aI aN cI 60 fN] := hD.sub [1, 0] rfl rfl
        refine va_iald (D := (dC, dI)) hx hb hK hP 1 0 rfl rfl h.1 dX0_giveUpColour_44 ?_
        have h := h.2
        refine mSi (wr := [oP aP aL aN pk, aI aN cI 60 fN]) (As := [.int (fN r31.toNatClampNeg), .int (fN r41.toNatClampNeg)]) (rest := [.int x2, .ref aN]) ⟨hx, hb, hml, hown, hts⟩ (c_X0_leastBeside (l := l) (dC := dC) (dI := dI) (cI := cI) (cJ := cJ) (cZ := cZ)  h) (va_cwS 2 hts gX0_giveUpColour_X0_leastBeside rfl rfl rfl hv_X0_leastBeside ⟨Nat.le_of_ble_eq_true rfl, Nat.le_of_ble_eq_true rfl⟩) hK hP hD hS hA [] [0, 1] rfl rfl rfl rfl (by decide) rfl hl.1 rfl (Nat.le_of_ble_eq_true rfl) ⟨Nat.zero_le _, Nat.zero_le _⟩ dX0_giveUpColour_45 (fun r45 u45 H locs h hP hD hS => ?_)
        have hP : va_P (dC, dI) vwCl [oP aP aL aN pk, aI aN cI 60 fN] H := hP.sub [0, 1] rfl
        have hD : va_D A [oP aP aL aN pk, aI aN cI 60 fN] := hD.sub [0, 1] rfl rfl
        refine va_iast (D := (dC, dI)) hx hb hK hP hD hS 1 0 rfl rfl h.1 dX0_giveUpColour_48 (fun H locs hP hD hS => ?_)
        obtain ⟨fN_48, efN_48⟩ : ∃ y, y = upd fN x2.toNatClampNeg r45 := ⟨_, rfl⟩
        have h := h.2 fN_48 efN_48
        have hP : va_P (dC, dI) vwCl [oP aP aL aN pk, aI aN cI 60 fN_48] H := by rw [efN_48]; exact hP
        have hD : va_D A [oP aP aL aN pk, aI aN cI 60 fN_48] := by rw [efN_48]; exact hD
        obtain ⟨v49, ev49⟩ : ∃ y : Int32, y = x2 + (1 : Int32) := ⟨_, rfl⟩
        have h := h v49 ev49
        refine lv_iinc (v := v49) (lv' := [(2, .int v49), (0, .ref aP), (1, .int x1)]) hx hb dX0_giveUpColour_49 hl (k := 2) rfl (by rw [ev49]; rfl) (by decide) rfl (fun ls hl => ?_)
        refine lv_goto (tgt := 2) hx hb dX0_giveUpColour_52 (by decide) ?_
        exact h H locs ls hP hD hS (lv_sub hl [1, 2, 0] rfl)
  unfold wp_X0_giveUpColour at h
  intro H locs ls hP hD hS hl
  refine lv_iconst (v := 0) hx hb dX0_giveUpColour_0 (by decide) ?_
  refine lv_istore_n (lv' := [(2, .int (0 : Int32)), (0, .ref aP), (1, .int x1)]) hx hb dX0_giveUpColour_1 rfl hl (by decide) rfl (fun ls hl => ?_)
  exact B2 _ _ _ h H locs ls hP hD hS (lv_sub hl [1, 2, 0] rfl)
set_option maxHeartbeats 4000000 in
set_option maxRecDepth 100000 in
theorem c_X0_giveUpColour {l : Launch} {dC : Nat → ClassId} {dI : Nat → Nat → Nat} {cI cJ cZ : ClassId} {aP aL aN : Nat} {pk : Int32} {fN : (Nat → Int32)} {x1 : Int32} {post : (Nat → Int32) → Prop} (h : wp_X0_giveUpColour x1 pk fN post) : ∀ sz, Met l yX0_giveUpColour wsX0_giveUpColour rm_X0_giveUpColour (mP (dC, dI) (mTy cI cJ cZ) [.ref aP, .int x1] [oP aP aL aN pk, aI aN cI 60 fN] sz) (va_Qv (fun (u : (Nat → Int32)) => post u) (mB (dC, dI) (va_A [oP aP aL aN pk, aI aN cI 60 fN] sz) (fun u => [oP aP aL aN pk, aI aN cI 60 u])) (va_A [oP aP aL aN pk, aI aN cI 60 fN] sz)) 0 0 (va_A [oP aP aL aN pk, aI aN cI 60 fN] sz) := by
  intro sz
  refine Met.ofW (cc := cX0_giveUpColour) (maxL := 3) (ret := none) (by decide) rfl ?_
  intro p e s m args below meth c s₁ B hml hv
  obtain ⟨rfl, hsz, hP, hK, hD0⟩ := hv
  have hlocks := B.notSynchronized
  subst hsz
  have hD := hD0.self (sz := s.heap.size)
  have hl := lv_entry ([.ref aP, .int x1]) (n := 3) (Nat.le_of_ble_eq_true rfl)
  rw [lg_entry_eq]
  exact k_X0_giveUpColour B.exec B.bytes hml (findClass_of_methodNamed B.named) (atoms_spec (ws := wsX0_giveUpColour) B.pre) hK (fun q hq => Or.inr hq) (fun fN' H locs ls pc hd hp hP hD hS => W.vret B.exec B.bytes B.returns (fun t ht hW => ⟨⟨fN', rfl, hp, by rw [ht]; exact hP, hD⟩, hS.F ht⟩) hS.2.2 hd) h s.heap [] _ hP hD va_S.rf hl

def wp_X0_takeNumbers  (pk : Int32) (fL : (Nat → Int32)) (fN : (Nat → Int32)) (post : (Nat → Int32) → Prop) : Prop := (¬ (0 : Int32) < 0 ∧ ¬ (0 : Int32) < 0 ∧ ¬ pk < 0 ∧ (0 : Int32).toNatClampNeg + pk.toNatClampNeg ≤ 60 ∧ (0 : Int32).toNatClampNeg + pk.toNatClampNeg ≤ 60 ∧ (∀ fL_14 : (Nat → Int32), fL_14 = va_cpy fN fL (0 : Int32).toNatClampNeg (0 : Int32).toNatClampNeg pk.toNatClampNeg → post fL_14))
abbrev rm_X0_takeNumbers : Room := { frames := 1, cells := 0, slots := 0, locals := 26 }
theorem hv_X0_takeNumbers : yX0_takeNumbers.cls = RX0 ∧ yX0_takeNumbers.cls ≠ "java/lang/invoke/MethodHandle" ∧ yX0_takeNumbers.cls ≠ "java/lang/invoke/VarHandle" ∧ (parseMethodDescriptor yX0_takeNumbers.desc).map (fun d => d.parameters.length) = some 0 := by decide +kernel
set_option maxHeartbeats 4000000 in
set_option maxRecDepth 100000 in
theorem k_X0_takeNumbers {p : Program} {l : Launch} {e : Env} {s : State} {m : MethodId} {args : Array Value} {below : List Frame} {meth : Method} {c : Code} {Q : State → Prop} {A : Nat → Prop} {dC : Nat → ClassId} {dI : Nat → Nat → Nat} {cI cJ cZ : ClassId} (hx : p.tables.exec = Jvm.exec) (hb : c.code = cX0_takeNumbers) (hml : c.maxLocals = 1) (hown : s.vm.findClass RX0 = some m.cls) (hts : ∀ w ∈ wsX0_takeNumbers, w.before args s = true) (hK : va_K (dC, dI) vwCl (mTy cI cJ cZ) s) (hA : ∀ q, s.heap.size ≤ q → A q) {aP aL aN : Nat} {pk : Int32} {fL : (Nat → Int32)} {fN : (Nat → Int32)}  {post : (Nat → Int32) → Prop} (ret : ∀ (fL' : (Nat → Int32)) (H : Heap) (locs : List Loc) (ls : Array Slot) (pc : Nat), decode cX0_takeNumbers pc = .ok (.return_, 1) → post fL' → va_P (dC, dI) vwCl [oP aP aL aN pk, aI aL cI 60 fL', aI aN cI 60 fN] H → va_D A [oP aP aL aN pk, aI aL cI 60 fL', aI aN cI 60 fN] → va_S A s.heap H locs → W p l e rm_X0_takeNumbers s m args below meth c H locs 0 0 Q (F0 m pc ls [])) (h : wp_X0_takeNumbers  pk fL fN post) : mW p l e rm_X0_takeNumbers s m args below meth c 0 0 Q A (dC, dI) 1 [oP aP aL aN pk, aI aL cI 60 fL, aI aN cI 60 fN] [(0, .ref aP)] 0 [] := by
  have in_X0 : ∀ w ∈ wsX00, w ∈ wsX0_takeNumbers := fun w hw => List.mem_cons_of_mem _ (List.mem_append_right _ hw)
  have k_15 := hts (.fieldLink RX0 15 "RingTasks$Posts" "number" "[I") (List.mem_of_getElem? (i := 1) rfl)
  have k_28 := hts (.fieldLink RX0 28 "RingTasks$Posts" "size" "I") (List.mem_of_getElem? (i := 3) rfl)
  have k_9 := hts (.fieldLink RX0 9 "RingTasks$Posts" "label" "[I") (List.mem_of_getElem? (i := 2) rfl)
  have kw_initialized_java_lang_System_ := hts (.initialized "java/lang/System") (List.mem_of_getElem? (i := 7) rfl)
  have k_91 := hts (.methodLink RX0 91 arraycopyName) (List.mem_of_getElem? (i := 4) rfl)
  have kw_native_arraycopyName := hts (.native arraycopyName) (List.mem_of_getElem? (i := 5) rfl)
  have kw_static_arraycopyName := hts (.static arraycopyName) (List.mem_of_getElem? (i := 6) rfl)
  unfold wp_X0_takeNumbers at h
  intro H locs ls hP hD hS hl
  refine lv_aload_n hx hb dX0_takeNumbers_0 rfl (lv_at hl 0 rfl) ?_
  refine va_get (D := (dC, dI)) (ci := 0) (v := .ref aN) (C := RX0) (T := TX0) (N := 3) hx hb hts in_X0 hown hK hP 0 rfl rfl 2 (by decide) k_15 (fun _ h9 => h9) rfl dX0_takeNumbers_1 ?_
  refine lv_iconst (v := 0) hx hb dX0_takeNumbers_4 (by decide) ?_
  refine lv_aload_n hx hb dX0_takeNumbers_5 rfl (lv_at hl 0 rfl) ?_
  refine va_get (D := (dC, dI)) (ci := 0) (v := .ref aL) (C := RX0) (T := TX0) (N := 3) hx hb hts in_X0 hown hK hP 0 rfl rfl 1 (by decide) k_9 (fun _ h9 => h9) rfl dX0_takeNumbers_6 ?_
  refine lv_iconst (v := 0) hx hb dX0_takeNumbers_9 (by decide) ?_
  refine lv_aload_n hx hb dX0_takeNumbers_10 rfl (lv_at hl 0 rfl) ?_
  refine va_get (D := (dC, dI)) (ci := 0) (v := .int pk) (C := RX0) (T := TX0) (N := 3) hx hb hts in_X0 hown hK hP 0 rfl rfl 0 (by decide) k_28 (fun _ h9 => h9) rfl dX0_takeNumbers_11 ?_
  refine va_copyi (D := (dC, dI)) hx hb (hml.trans hl.1.symm) hown k_91 kw_native_arraycopyName kw_static_arraycopyName kw_initialized_java_lang_System_ hK hP hD hS 2 1 0 0 rfl rfl rfl rfl rfl h.1 h.2.1 h.2.2.1 h.2.2.2.1 h.2.2.2.2.1 (fun _ _ => rfl) (Nat.le_of_ble_eq_true rfl) (Nat.le_of_ble_eq_true rfl) dX0_takeNumbers_14 (fun H locs hP hD hS => ?_)
  obtain ⟨fL_14, efL_14⟩ : ∃ y, y = va_cpy fN fL (0 : Int32).toNatClampNeg (0 : Int32).toNatClampNeg pk.toNatClampNeg := ⟨_, rfl⟩
  have h := h.2.2.2.2.2 fL_14 efL_14
  have hP : va_P (dC, dI) vwCl [oP aP aL aN pk, aI aL cI 60 fL_14, aI aN cI 60 fN] H := by rw [efL_14]; exact hP
  have hD : va_D A [oP aP aL aN pk, aI aL cI 60 fL_14, aI aN cI 60 fN] := by rw [efL_14]; exact hD
  exact ret _ H locs ls _ dX0_takeNumbers_17 h hP hD hS
set_option maxHeartbeats 4000000 in
set_option maxRecDepth 100000 in
theorem c_X0_takeNumbers {l : Launch} {dC : Nat → ClassId} {dI : Nat → Nat → Nat} {cI cJ cZ : ClassId} {aP aL aN : Nat} {pk : Int32} {fL : (Nat → Int32)} {fN : (Nat → Int32)}  {post : (Nat → Int32) → Prop} (h : wp_X0_takeNumbers  pk fL fN post) : ∀ sz, Met l yX0_takeNumbers wsX0_takeNumbers rm_X0_takeNumbers (mP (dC, dI) (mTy cI cJ cZ) [.ref aP] [oP aP aL aN pk, aI aL cI 60 fL, aI aN cI 60 fN] sz) (va_Qv (fun (u : (Nat → Int32)) => post u) (mB (dC, dI) (va_A [oP aP aL aN pk, aI aL cI 60 fL, aI aN cI 60 fN] sz) (fun u => [oP aP aL aN pk, aI aL cI 60 u, aI aN cI 60 fN])) (va_A [oP aP aL aN pk, aI aL cI 60 fL, aI aN cI 60 fN] sz)) 0 0 (va_A [oP aP aL aN pk, aI aL cI 60 fL, aI aN cI 60 fN] sz) := by
  intro sz
  refine Met.ofW (cc := cX0_takeNumbers) (maxL := 1) (ret := none) (by decide) rfl ?_
  intro p e s m args below meth c s₁ B hml hv
  obtain ⟨rfl, hsz, hP, hK, hD0⟩ := hv
  have hlocks := B.notSynchronized
  subst hsz
  have hD := hD0.self (sz := s.heap.size)
  have hl := lv_entry ([.ref aP]) (n := 1) (Nat.le_of_ble_eq_true rfl)
  rw [lg_entry_eq]
  exact k_X0_takeNumbers B.exec B.bytes hml (findClass_of_methodNamed B.named) (atoms_spec (ws := wsX0_takeNumbers) B.pre) hK (fun q hq => Or.inr hq) (fun fL' H locs ls pc hd hp hP hD hS => W.vret B.exec B.bytes B.returns (fun t ht hW => ⟨⟨fL', rfl, hp, by rw [ht]; exact hP, hD⟩, hS.F ht⟩) hS.2.2 hd) h s.heap [] _ hP hD va_S.rf hl

def wp_X0_standsBefore_b2 (x1 : Int32) (x2 : Int32) (nA : Nat) (fA : (Nat → Int32)) (post : Int32 → Prop)  : Prop := ∀ P2 : Int32 → Prop, (∀ (x2 : Int32), ((x1 ≤ x2 → post (0 : Int32)) ∧ (¬ x1 ≤ x2 → (vp_in x2 nA ∧ (vp_in x1 nA ∧ ((¬ (fA x2.toNatClampNeg) = (fA x1.toNatClampNeg) → (∀ v18 : Int32, v18 = x2 + (1 : Int32) → P2 v18)) ∧ ((fA x2.toNatClampNeg) = (fA x1.toNatClampNeg) → post (1 : Int32))))))) → P2 x2) → P2 x2
def wp_X0_standsBefore (x1 : Int32) (nA : Nat) (fA : (Nat → Int32)) (post : Int32 → Prop) : Prop := wp_X0_standsBefore_b2 x1 (0 : Int32) nA fA post
abbrev rm_X0_standsBefore : Room := { frames := 0, cells := 0, slots := 0, locals := 0 }
theorem hv_X0_standsBefore : yX0_standsBefore.cls ≠ "java/lang/invoke/MethodHandle" ∧ yX0_standsBefore.cls ≠ "java/lang/invoke/VarHandle" ∧ (parseMethodDescriptor yX0_standsBefore.desc).map (fun d => d.parameters.length) = some 2 := by decide +kernel
set_option maxHeartbeats 4000000 in
set_option maxRecDepth 100000 in
theorem k_X0_standsBefore {p : Program} {l : Launch} {e : Env} {s : State} {m : MethodId} {args : Array Value} {below : List Frame} {meth : Method} {c : Code} {Q : State → Prop} {A : Nat → Prop} {dC : Nat → ClassId} {dI : Nat → Nat → Nat} {cI cJ cZ : ClassId} (hx : p.tables.exec = Jvm.exec) (hb : c.code = cX0_standsBefore) (hml : c.maxLocals = 3) (hown : s.vm.findClass RX0 = some m.cls) (hts : ∀ w ∈ wsX0_standsBefore, w.before args s = true) (hK : va_K (dC, dI) vwCl (mTy cI cJ cZ) s) (hA : ∀ q, s.heap.size ≤ q → A q) {aA : Nat} {nA : Nat} {fA : (Nat → Int32)} {x1 : Int32} {post : Int32 → Prop} (ret : ∀ (r : Int32) (H : Heap) (locs : List Loc) (ls : Array Slot) (pc : Nat), decode cX0_standsBefore pc = .ok (.ireturn, 1) → (r = 0 ∨ r = 1) → post r → va_P (dC, dI) vwCl [aI aA cI nA fA] H → va_D A [aI aA cI nA fA] → va_S A s.heap H locs → W p l e rm_X0_standsBefore s m args below meth c H locs 0 0 Q (F0 m pc ls [.int r])) (h : wp_X0_standsBefore x1 nA fA post) : mW p l e rm_X0_standsBefore s m args below meth c 0 0 Q A (dC, dI) 3 [aI aA cI nA fA] [(0, .ref aA), (1, .int x1)] 0 [] := by
  have B2 : ∀ (x1 : Int32) (x2 : Int32), wp_X0_standsBefore_b2 x1 x2 nA fA post → mW p l e rm_X0_standsBefore s m args below meth c 0 0 Q A (dC, dI) 3 [aI aA cI nA fA] [(0, .ref aA), (1, .int x1), (2, .int x2)] 2 [] := by
    intro x1 x2 h
    unfold wp_X0_standsBefore_b2 at h
    refine h (fun (x2 : Int32) => mW p l e rm_X0_standsBefore s m args below meth c 0 0 Q A (dC, dI) 3 [aI aA cI nA fA] [(0, .ref aA), (1, .int x1), (2, .int x2)] 2 []) ?_
    intro x2 h
    intro H locs ls hP hD hS hl
    refine lv_iload_n hx hb dX0_standsBefore_2 rfl (lv_at hl 2 rfl) ?_
    refine lv_iload_n hx hb dX0_standsBefore_3 rfl (lv_at hl 1 rfl) ?_
    refine lv_icmp_ge (tgt := 24) hx hb dX0_standsBefore_4 (by decide) (fun q4 => ?_) (fun q4 => ?_)
    · have h := h.1 q4
      refine lv_iconst (v := 0) hx hb dX0_standsBefore_24 (by decide) ?_
      exact ret _  H locs ls _ dX0_standsBefore_25 (Or.inl rfl) h hP hD hS
    · have h := h.2 q4
      refine lv_aload_n hx hb dX0_standsBefore_7 rfl (lv_at hl 0 rfl) ?_
      refine lv_iload_n hx hb dX0_standsBefore_8 rfl (lv_at hl 2 rfl) ?_
      refine va_iald (D := (dC, dI)) hx hb hK hP 0 0 rfl rfl h.1 dX0_standsBefore_9 ?_
      have h := h.2
      refine lv_aload_n hx hb dX0_standsBefore_10 rfl (lv_at hl 0 rfl) ?_
      refine lv_iload_n hx hb dX0_standsBefore_11 rfl (lv_at hl 1 rfl) ?_
      refine va_iald (D := (dC, dI)) hx hb hK hP 0 0 rfl rfl h.1 dX0_standsBefore_12 ?_
      have h := h.2
      refine lv_icmp_ne (tgt := 18) hx hb dX0_standsBefore_13 (by decide) (fun q13 => ?_) (fun q13 => ?_)
      · have h := h.1 q13
        obtain ⟨v18, ev18⟩ : ∃ y : Int32, y = x2 + (1 : Int32) := ⟨_, rfl⟩
        have h := h v18 ev18
        refine lv_iinc (v := v18) (lv' := [(2, .int v18), (0, .ref aA), (1, .int x1)]) hx hb dX0_standsBefore_18 hl (k := 2) rfl (by rw [ev18]; rfl) (by decide) rfl (fun ls hl => ?_)
        refine lv_goto (tgt := 2) hx hb dX0_standsBefore_21 (by decide) ?_
        exact h H locs ls hP hD hS (lv_sub hl [1, 2, 0] rfl)
      · have h := h.2 q13
        refine lv_iconst (v := 1) hx hb dX0_standsBefore_16 (by decide) ?_
        exact ret _  H locs ls _ dX0_standsBefore_17 (Or.inr rfl) h hP hD hS
  unfold wp_X0_standsBefore at h
  intro H locs ls hP hD hS hl
  refine lv_iconst (v := 0) hx hb dX0_standsBefore_0 (by decide) ?_
  refine lv_istore_n (lv' := [(2, .int (0 : Int32)), (0, .ref aA), (1, .int x1)]) hx hb dX0_standsBefore_1 rfl hl (by decide) rfl (fun ls hl => ?_)
  exact B2 _ _ h H locs ls hP hD hS (lv_sub hl [1, 2, 0] rfl)
set_option maxHeartbeats 4000000 in
set_option maxRecDepth 100000 in
theorem c_X0_standsBefore {l : Launch} {dC : Nat → ClassId} {dI : Nat → Nat → Nat} {cI cJ cZ : ClassId} {aA : Nat} {nA : Nat} {fA : (Nat → Int32)} {x1 : Int32} {post : Int32 → Prop} (h : wp_X0_standsBefore x1 nA fA post) : ∀ sz, Met l yX0_standsBefore wsX0_standsBefore rm_X0_standsBefore (mP (dC, dI) (mTy cI cJ cZ) [.ref aA, .int x1] [aI aA cI nA fA] sz) (va_Qi (fun (r : Int32) (u : Unit) => post r ) (mB (dC, dI) (va_A [aI aA cI nA fA] sz) (fun u => [aI aA cI nA fA])) (va_A [aI aA cI nA fA] sz)) 0 0 (va_A [aI aA cI nA fA] sz) := by
  intro sz
  refine Met.ofW (cc := cX0_standsBefore) (maxL := 3) (ret := (some .boolean)) (by decide) rfl ?_
  intro p e s m args below meth c s₁ B hml hv
  obtain ⟨rfl, hsz, hP, hK, hD0⟩ := hv
  have hlocks := B.notSynchronized
  subst hsz
  have hD := hD0.self (sz := s.heap.size)
  have hl := lv_entry ([.ref aA, .int x1]) (n := 3) (Nat.le_of_ble_eq_true rfl)
  rw [lg_entry_eq]
  exact k_X0_standsBefore B.exec B.bytes hml (findClass_of_methodNamed B.named) (atoms_spec (ws := wsX0_standsBefore) B.pre) hK (fun q hq => Or.inr hq) (fun r H locs ls pc hd hz hp hP hD hS => W.zret B.exec B.bytes B.returns (m_bz hz) (fun t ht hW => ⟨⟨r, (), rfl, hp, by rw [ht]; exact hP, hD⟩, hS.F ht⟩) hS.2.2 hd) h s.heap [] _ hP hD va_S.rf hl

def wp_X0_unlike_b4 (x2 : Int32) (x3 : Int32) (nA : Nat) (pk : Int32) (fA : (Nat → Int32)) (post : Int32 → Prop)  : Prop := ∀ P4 : Int32 → Int32 → Prop, (∀ (x2 : Int32) (x3 : Int32), ((pk ≤ x3 → post x2) ∧ (¬ pk ≤ x3 → (((Int32.ofNat nA) ≤ x3 → post x2) ∧ (¬ (Int32.ofNat nA) ≤ x3 → wp_X0_standsBefore x3 nA fA (fun (r20 : Int32) => ((¬ r20 = (0 : Int32) → (∀ v29 : Int32, v29 = x3 + (1 : Int32) → P4 x2 v29)) ∧ (r20 = (0 : Int32) → (∀ v26 : Int32, v26 = x2 + (1 : Int32) → (∀ v29 : Int32, v29 = x3 + (1 : Int32) → P4 v26 v29))))))))) → P4 x2 x3) → P4 x2 x3
def wp_X0_unlike  (nA : Nat) (pk : Int32) (fA : (Nat → Int32)) (post : Int32 → Prop) : Prop := wp_X0_unlike_b4 (0 : Int32) (0 : Int32) nA pk fA post
abbrev rm_X0_unlike : Room := { frames := 1, cells := 0, slots := 0, locals := 22 }
theorem hv_X0_unlike : yX0_unlike.cls = RX0 ∧ yX0_unlike.cls ≠ "java/lang/invoke/MethodHandle" ∧ yX0_unlike.cls ≠ "java/lang/invoke/VarHandle" ∧ (parseMethodDescriptor yX0_unlike.desc).map (fun d => d.parameters.length) = some 1 := by decide +kernel
set_option maxHeartbeats 4000000 in
set_option maxRecDepth 100000 in
theorem k_X0_unlike {p : Program} {l : Launch} {e : Env} {s : State} {m : MethodId} {args : Array Value} {below : List Frame} {meth : Method} {c : Code} {Q : State → Prop} {A : Nat → Prop} {dC : Nat → ClassId} {dI : Nat → Nat → Nat} {cI cJ cZ : ClassId} (hx : p.tables.exec = Jvm.exec) (hb : c.code = cX0_unlike) (hml : c.maxLocals = 4) (hown : s.vm.findClass RX0 = some m.cls) (hts : ∀ w ∈ wsX0_unlike, w.before args s = true) (hK : va_K (dC, dI) vwCl (mTy cI cJ cZ) s) (hA : ∀ q, s.heap.size ≤ q → A q) {aP aL aN aA : Nat} {nA : Nat} {pk : Int32} {fA : (Nat → Int32)}  {post : Int32 → Prop} (ret : ∀ (r : Int32) (H : Heap) (locs : List Loc) (ls : Array Slot) (pc : Nat), decode cX0_unlike pc = .ok (.ireturn, 1) → post r → va_P (dC, dI) vwCl [oP aP aL aN pk, aI aA cI nA fA] H → va_D A [oP aP aL aN pk, aI aA cI nA fA] → va_S A s.heap H locs → W p l e rm_X0_unlike s m args below meth c H locs 0 0 Q (F0 m pc ls [.int r])) (h : wp_X0_unlike  nA pk fA post) : mW p l e rm_X0_unlike s m args below meth c 0 0 Q A (dC, dI) 4 [oP aP aL aN pk, aI aA cI nA fA] [(0, .ref aP), (1, .ref aA)] 0 [] := by
  have in_X0 : ∀ w ∈ wsX00, w ∈ wsX0_unlike := fun w hw => List.mem_cons_of_mem _ (List.mem_append_right _ hw)
  have k_28 := hts (.fieldLink RX0 28 "RingTasks$Posts" "size" "I") (List.mem_of_getElem? (i := 1) rfl)
  have B4 : ∀ (x2 : Int32) (x3 : Int32), wp_X0_unlike_b4 x2 x3 nA pk fA post → mW p l e rm_X0_unlike s m args below meth c 0 0 Q A (dC, dI) 4 [oP aP aL aN pk, aI aA cI nA fA] [(0, .ref aP), (1, .ref aA), (2, .int x2), (3, .int x3)] 4 [] := by
    intro x2 x3 h
    unfold wp_X0_unlike_b4 at h
    refine h (fun (x2 : Int32) (x3 : Int32) => mW p l e rm_X0_unlike s m args below meth c 0 0 Q A (dC, dI) 4 [oP aP aL aN pk, aI aA cI nA fA] [(0, .ref aP), (1, .ref aA), (2, .int x2), (3, .int x3)] 4 []) ?_
    intro x2 x3 h
    intro H locs ls hP hD hS hl
    refine lv_iload_n hx hb dX0_unlike_4 rfl (lv_at hl 3 rfl) ?_
    refine lv_aload_n hx hb dX0_unlike_5 rfl (lv_at hl 0 rfl) ?_
    refine va_get (D := (dC, dI)) (ci := 0) (v := .int pk) (C := RX0) (T := TX0) (N := 3) hx hb hts in_X0 hown hK hP 0 rfl rfl 0 (by decide) k_28 (fun _ h9 => h9) rfl dX0_unlike_6 ?_
    refine lv_icmp_ge (tgt := 35) hx hb dX0_unlike_9 (by decide) (fun q9 => ?_) (fun q9 => ?_)
    · have h := h.1 q9
      refine lv_iload_n hx hb dX0_unlike_35 rfl (lv_at hl 2 rfl) ?_
      exact ret _  H locs ls _ dX0_unlike_36 h hP hD hS
    · have h := h.2 q9
      refine lv_iload_n hx hb dX0_unlike_12 rfl (lv_at hl 3 rfl) ?_
      refine lv_aload_n hx hb dX0_unlike_13 rfl (lv_at hl 1 rfl) ?_
      refine va_alen (D := (dC, dI)) (v := (Int32.ofNat nA)) hx hb hK hP 1 0 rfl rfl rfl dX0_unlike_14 ?_
      refine lv_icmp_ge (tgt := 35) hx hb dX0_unlike_15 (by decide) (fun q15 => ?_) (fun q15 => ?_)
      · have h := h.1 q15
        refine lv_iload_n hx hb dX0_unlike_35 rfl (lv_at hl 2 rfl) ?_
        exact ret _  H locs ls _ dX0_unlike_36 h hP hD hS
      · have h := h.2 q15
        refine lv_aload_n hx hb dX0_unlike_18 rfl (lv_at hl 1 rfl) ?_
        refine lv_iload_n hx hb dX0_unlike_19 rfl (lv_at hl 3 rfl) ?_
        refine mSi (wr := [oP aP aL aN pk]) (As := [.ref aA, .int x3]) (rest := []) ⟨hx, hb, hml, hown, hts⟩ (c_X0_standsBefore (l := l) (dC := dC) (dI := dI) (cI := cI) (cJ := cJ) (cZ := cZ) (aA := aA) h) (va_cwS 2 hts gX0_unlike_X0_standsBefore rfl rfl rfl hv_X0_standsBefore ⟨Nat.le_of_ble_eq_true rfl, Nat.le_of_ble_eq_true rfl⟩) hK hP hD hS hA [1] [0] rfl rfl rfl rfl (by decide) rfl hl.1 rfl (Nat.le_of_ble_eq_true rfl) ⟨Nat.zero_le _, Nat.zero_le _⟩ dX0_unlike_20 (fun r20 u20 H locs h hP hD hS => ?_)
        have hP : va_P (dC, dI) vwCl [oP aP aL aN pk, aI aA cI nA fA] H := hP.sub [0, 1] rfl
        have hD : va_D A [oP aP aL aN pk, aI aA cI nA fA] := hD.sub [0, 1] rfl rfl
        refine lv_if_ne (tgt := 29) hx hb dX0_unlike_23 (by decide) (fun q23 => ?_) (fun q23 => ?_)
        · have h := h.1 q23
          obtain ⟨v29, ev29⟩ : ∃ y : Int32, y = x3 + (1 : Int32) := ⟨_, rfl⟩
          have h := h v29 ev29
          refine lv_iinc (v := v29) (lv' := [(3, .int v29), (0, .ref aP), (1, .ref aA), (2, .int x2)]) hx hb dX0_unlike_29 hl (k := 3) rfl (by rw [ev29]; rfl) (by decide) rfl (fun ls hl => ?_)
          refine lv_goto (tgt := 4) hx hb dX0_unlike_32 (by decide) ?_
          exact h H locs ls hP hD hS (lv_sub hl [1, 2, 3, 0] rfl)
        · have h := h.2 q23
          obtain ⟨v26, ev26⟩ : ∃ y : Int32, y = x2 + (1 : Int32) := ⟨_, rfl⟩
          have h := h v26 ev26
          refine lv_iinc (v := v26) (lv' := [(2, .int v26), (0, .ref aP), (1, .ref aA), (3, .int x3)]) hx hb dX0_unlike_26 hl (k := 2) rfl (by rw [ev26]; rfl) (by decide) rfl (fun ls hl => ?_)
          obtain ⟨v29, ev29⟩ : ∃ y : Int32, y = x3 + (1 : Int32) := ⟨_, rfl⟩
          have h := h v29 ev29
          refine lv_iinc (v := v29) (lv' := [(3, .int v29), (2, .int v26), (0, .ref aP), (1, .ref aA)]) hx hb dX0_unlike_29 hl (k := 3) rfl (by rw [ev29]; rfl) (by decide) rfl (fun ls hl => ?_)
          refine lv_goto (tgt := 4) hx hb dX0_unlike_32 (by decide) ?_
          exact h H locs ls hP hD hS (lv_sub hl [2, 3, 1, 0] rfl)
  unfold wp_X0_unlike at h
  intro H locs ls hP hD hS hl
  refine lv_iconst (v := 0) hx hb dX0_unlike_0 (by decide) ?_
  refine lv_istore_n (lv' := [(2, .int (0 : Int32)), (0, .ref aP), (1, .ref aA)]) hx hb dX0_unlike_1 rfl hl (by decide) rfl (fun ls hl => ?_)
  refine lv_iconst (v := 0) hx hb dX0_unlike_2 (by decide) ?_
  refine lv_istore_n (lv' := [(3, .int (0 : Int32)), (2, .int (0 : Int32)), (0, .ref aP), (1, .ref aA)]) hx hb dX0_unlike_3 rfl hl (by decide) rfl (fun ls hl => ?_)
  exact B4 _ _ h H locs ls hP hD hS (lv_sub hl [2, 3, 1, 0] rfl)
set_option maxHeartbeats 4000000 in
set_option maxRecDepth 100000 in
theorem c_X0_unlike {l : Launch} {dC : Nat → ClassId} {dI : Nat → Nat → Nat} {cI cJ cZ : ClassId} {aP aL aN aA : Nat} {nA : Nat} {pk : Int32} {fA : (Nat → Int32)}  {post : Int32 → Prop} (h : wp_X0_unlike  nA pk fA post) : ∀ sz, Met l yX0_unlike wsX0_unlike rm_X0_unlike (mP (dC, dI) (mTy cI cJ cZ) [.ref aP, .ref aA] [oP aP aL aN pk, aI aA cI nA fA] sz) (va_Qi (fun (r : Int32) (u : Unit) => post r ) (mB (dC, dI) (va_A [oP aP aL aN pk, aI aA cI nA fA] sz) (fun u => [oP aP aL aN pk, aI aA cI nA fA])) (va_A [oP aP aL aN pk, aI aA cI nA fA] sz)) 0 0 (va_A [oP aP aL aN pk, aI aA cI nA fA] sz) := by
  intro sz
  refine Met.ofW (cc := cX0_unlike) (maxL := 4) (ret := (some .int)) (by decide) rfl ?_
  intro p e s m args below meth c s₁ B hml hv
  obtain ⟨rfl, hsz, hP, hK, hD0⟩ := hv
  have hlocks := B.notSynchronized
  subst hsz
  have hD := hD0.self (sz := s.heap.size)
  have hl := lv_entry ([.ref aP, .ref aA]) (n := 4) (Nat.le_of_ble_eq_true rfl)
  rw [lg_entry_eq]
  exact k_X0_unlike B.exec B.bytes hml (findClass_of_methodNamed B.named) (atoms_spec (ws := wsX0_unlike) B.pre) hK (fun q hq => Or.inr hq) (fun r H locs ls pc hd hp hP hD hS => W.iret B.exec B.bytes B.returns (fun t ht hW => ⟨⟨r, (), rfl, hp, by rw [ht]; exact hP, hD⟩, hS.F ht⟩) hS.2.2 hd) h s.heap [] _ hP hD va_S.rf hl
