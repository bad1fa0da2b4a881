def wp_X3_in (x0 : Int32) (x1 : Int32) (x2 : Int32)  (post : Int32 → Prop) : Prop := ((x0 < x1 → post (0 : Int32)) ∧ (¬ x0 < x1 → ((x2 < x0 → post (0 : Int32)) ∧ (¬ x2 < x0 → post (1 : Int32)))))
abbrev rm_X3_in : Room := { frames := 0, cells := 0, slots := 0, locals := 0 }
theorem hv_X3_in : yX3_in.cls ≠ "java/lang/invoke/MethodHandle" ∧ yX3_in.cls ≠ "java/lang/invoke/VarHandle" ∧ (parseMethodDescriptor yX3_in.desc).map (fun d => d.parameters.length) = some 3 := by decide +kernel
set_option maxHeartbeats 4000000 in
set_option maxRecDepth 100000 in
theorem k_X3_in {p : Program} {l : Launch} {e : Env} {s : State} {m : MethodId} {args : Array Value} {below : List Frame} {meth : Method} {c : Code} {Q : State → Prop} {A : Nat → Prop} {dC : Nat → ClassId} {dI : Nat → Nat → Nat} {cI cJ cZ : ClassId} (hx : p.tables.exec = Jvm.exec) (hb : c.code = cX3_in) (hml : c.maxLocals = 3) (hown : s.vm.findClass RX3 = some m.cls) (hts : ∀ w ∈ wsX3_in, w.before args s = true) (hK : va_K (dC, dI) vwCl (mTy cI cJ cZ) s) (hA : ∀ q, s.heap.size ≤ q → A q)  {x0 : Int32} {x1 : Int32} {x2 : Int32} {post : Int32 → Prop} (ret : ∀ (r : Int32) (H : Heap) (locs : List Loc) (ls : Array Slot) (pc : Nat), decode cX3_in pc = .ok (.ireturn, 1) → (r = 0 ∨ r = 1) → post r → va_P (dC, dI) vwCl [] H → va_D A [] → va_S A s.heap H locs → W p l e rm_X3_in s m args below meth c H locs 0 0 Q (F0 m pc ls [.int r])) (h : wp_X3_in x0 x1 x2  post) : mW p l e rm_X3_in s m args below meth c 0 0 Q A (dC, dI) 3 [] [(0, .int x0), (1, .int x1), (2, .int x2)] 0 [] := by
  unfold wp_X3_in at h
  intro H locs ls hP hD hS hl
  refine lv_iload_n hx hb dX3_in_0 rfl (lv_at hl 0 rfl) ?_
  refine lv_iload_n hx hb dX3_in_1 rfl (lv_at hl 1 rfl) ?_
  refine lv_icmp_lt (tgt := 14) hx hb dX3_in_2 (by decide) (fun q2 => ?_) (fun q2 => ?_)
  · have h := h.1 q2
    refine lv_iconst (v := 0) hx hb dX3_in_14 (by decide) ?_
    exact ret _  H locs ls _ dX3_in_15 (Or.inl rfl) h hP hD hS
  · have h := h.2 q2
    refine lv_iload_n hx hb dX3_in_5 rfl (lv_at hl 0 rfl) ?_
    refine lv_iload_n hx hb dX3_in_6 rfl (lv_at hl 2 rfl) ?_
    refine lv_icmp_gt (tgt := 14) hx hb dX3_in_7 (by decide) (fun q7 => ?_) (fun q7 => ?_)
    · have h := h.1 q7
      refine lv_iconst (v := 0) hx hb dX3_in_14 (by decide) ?_
      exact ret _  H locs ls _ dX3_in_15 (Or.inl rfl) h hP hD hS
    · have h := h.2 q7
      refine lv_iconst (v := 1) hx hb dX3_in_10 (by decide) ?_
      refine lv_goto (tgt := 15) hx hb dX3_in_11 (by decide) ?_
      exact ret _  H locs ls _ dX3_in_15 (Or.inr rfl) h hP hD hS
set_option maxHeartbeats 4000000 in
set_option maxRecDepth 100000 in
theorem c_X3_in {l : Launch} {dC : Nat → ClassId} {dI : Nat → Nat → Nat} {cI cJ cZ : ClassId}  {x0 : Int32} {x1 : Int32} {x2 : Int32} {post : Int32 → Prop} (h : wp_X3_in x0 x1 x2  post) : ∀ sz, Met l yX3_in wsX3_in rm_X3_in (mP (dC, dI) (mTy cI cJ cZ) [.int x0, .int x1, .int x2] [] sz) (va_Qi (fun (r : Int32) (u : Unit) => post r ) (mB (dC, dI) (va_A [] sz) (fun u => [])) (va_A [] sz)) 0 0 (va_A [] sz) := by
  intro sz
  refine Met.ofW (cc := cX3_in) (maxL := 3) (ret := (some .boolean)) (by decide) rfl ?_
  intro p e s m args below meth c s₁ B hml hv
  obtain ⟨rfl, hsz, hP, hK, hD0⟩ := hv
  have hlocks := B.notSynchronized
  subst hsz
  have hD := hD0.self (sz := s.heap.size)
  have hl := lv_entry ([.int x0, .int x1, .int x2]) (n := 3) (Nat.le_of_ble_eq_true rfl)
  rw [lg_entry_eq]
  exact k_X3_in B.exec B.bytes hml (findClass_of_methodNamed B.named) (atoms_spec (ws := wsX3_in) B.pre) hK (fun q hq => Or.inr hq) (fun r H locs ls pc hd hz hp hP hD hS => W.zret B.exec B.bytes B.returns (m_bz hz) (fun t ht hW => ⟨⟨r, (), rfl, hp, by rw [ht]; exact hP, hD⟩, hS.F ht⟩) hS.2.2 hd) h s.heap [] _ hP hD va_S.rf hl

def wp_X3_isLabel (x1 : Int32) (mk : Int32) (mp : Int32) (post : Int32 → Prop) : Prop := wp_X3_in x1 (0 : Int32) (mk - (1 : Int32)) (fun (r8 : Int32) => ((r8 = 0 ∨ r8 = 1) ∧ post r8 ))
abbrev rm_X3_isLabel : Room := { frames := 1, cells := 0, slots := 0, locals := 22 }
theorem hv_X3_isLabel : yX3_isLabel.cls = RX3 ∧ yX3_isLabel.cls ≠ "java/lang/invoke/MethodHandle" ∧ yX3_isLabel.cls ≠ "java/lang/invoke/VarHandle" ∧ (parseMethodDescriptor yX3_isLabel.desc).map (fun d => d.parameters.length) = some 1 := by decide +kernel
set_option maxHeartbeats 4000000 in
set_option maxRecDepth 100000 in
theorem k_X3_isLabel {p : Program} {l : Launch} {e : Env} {s : State} {m : MethodId} {args : Array Value} {below : List Frame} {meth : Method} {c : Code} {Q : State → Prop} {A : Nat → Prop} {dC : Nat → ClassId} {dI : Nat → Nat → Nat} {cI cJ cZ : ClassId} (hx : p.tables.exec = Jvm.exec) (hb : c.code = cX3_isLabel) (hml : c.maxLocals = 2) (hown : s.vm.findClass RX3 = some m.cls) (hts : ∀ w ∈ wsX3_isLabel, w.before args s = true) (hK : va_K (dC, dI) vwCl (mTy cI cJ cZ) s) (hA : ∀ q, s.heap.size ≤ q → A q) {aM aMM aML aMY aMT aMR aMB aMN : Nat} {mk : Int32} {mp : Int32} {x1 : Int32} {post : Int32 → Prop} (ret : ∀ (r : Int32) (H : Heap) (locs : List Loc) (ls : Array Slot) (pc : Nat), decode cX3_isLabel pc = .ok (.ireturn, 1) → (r = 0 ∨ r = 1) → post r → va_P (dC, dI) vwCl [oM aM aMM aML aMY aMT aMR aMB aMN mk mp] H → va_D A [oM aM aMM aML aMY aMT aMR aMB aMN mk mp] → va_S A s.heap H locs → W p l e rm_X3_isLabel s m args below meth c H locs 0 0 Q (F0 m pc ls [.int r])) (h : wp_X3_isLabel x1 mk mp post) : mW p l e rm_X3_isLabel s m args below meth c 0 0 Q A (dC, dI) 2 [oM aM aMM aML aMY aMT aMR aMB aMN mk mp] [(0, .ref aM), (1, .int x1)] 0 [] := by
  have in_X3 : ∀ w ∈ wsX30, w ∈ wsX3_isLabel := fun w hw => List.mem_cons_of_mem _ (List.mem_append_right _ hw)
  have k_40 := hts (.fieldLink RX3 40 "RingTasksModel" "labels" "I") (List.mem_of_getElem? (i := 1) rfl)
  unfold wp_X3_isLabel at h
  intro H locs ls hP hD hS hl
  refine lv_iload_n hx hb dX3_isLabel_0 rfl (lv_at hl 1 rfl) ?_
  refine lv_iconst (v := 0) hx hb dX3_isLabel_1 (by decide) ?_
  refine lv_aload_n hx hb dX3_isLabel_2 rfl (lv_at hl 0 rfl) ?_
  refine va_get (D := (dC, dI)) (ci := 3) (v := .int mk) (C := RX3) (T := TX3) (N := 9) hx hb hts in_X3 hown hK hP 0 rfl rfl 0 (by decide) k_40 (fun _ h9 => h9) rfl dX3_isLabel_3 ?_
  refine lv_iconst (v := 1) hx hb dX3_isLabel_6 (by decide) ?_
  refine lv_isub hx hb dX3_isLabel_7 ?_
  refine mSi (wr := [oM aM aMM aML aMY aMT aMR aMB aMN mk mp]) (As := [.int x1, .int (0 : Int32), .int (mk - (1 : Int32))]) (rest := []) ⟨hx, hb, hml, hown, hts⟩ (c_X3_in (l := l) (dC := dC) (dI := dI) (cI := cI) (cJ := cJ) (cZ := cZ)  h) (va_cwS 3 hts gX3_isLabel_X3_in rfl rfl rfl hv_X3_in ⟨Nat.le_of_ble_eq_true rfl, Nat.le_of_ble_eq_true rfl⟩) hK hP hD hS hA [] [0] rfl rfl rfl rfl (by decide) rfl hl.1 rfl (Nat.le_of_ble_eq_true rfl) ⟨Nat.zero_le _, Nat.zero_le _⟩ dX3_isLabel_8 (fun r8 u8 H locs h hP hD hS => ?_)
  have hP : va_P (dC, dI) vwCl [oM aM aMM aML aMY aMT aMR aMB aMN mk mp] H := hP.sub [0] rfl
  have hD : va_D A [oM aM aMM aML aMY aMT aMR aMB aMN mk mp] := hD.sub [0] rfl rfl
  exact ret _  H locs ls _ dX3_isLabel_11 h.1 h.2 hP hD hS
set_option maxHeartbeats 4000000 in
set_option maxRecDepth 100000 in
theorem c_X3_isLabel {l : Launch} {dC : Nat → ClassId} {dI : Nat → Nat → Nat} {cI cJ cZ : ClassId} {aM aMM aML aMY aMT aMR aMB aMN : Nat} {mk : Int32} {mp : Int32} {x1 : Int32} {post : Int32 → Prop} (h : wp_X3_isLabel x1 mk mp post) : ∀ sz, Met l yX3_isLabel wsX3_isLabel rm_X3_isLabel (mP (dC, dI) (mTy cI cJ cZ) [.ref aM, .int x1] [oM aM aMM aML aMY aMT aMR aMB aMN mk mp] sz) (va_Qi (fun (r : Int32) (u : Unit) => post r ) (mB (dC, dI) (va_A [oM aM aMM aML aMY aMT aMR aMB aMN mk mp] sz) (fun u => [oM aM aMM aML aMY aMT aMR aMB aMN mk mp])) (va_A [oM aM aMM aML aMY aMT aMR aMB aMN mk mp] sz)) 0 0 (va_A [oM aM aMM aML aMY aMT aMR aMB aMN mk mp] sz) := by
  intro sz
  refine Met.ofW (cc := cX3_isLabel) (maxL := 2) (ret := (some .boolean)) (by decide) rfl ?_
  intro p e s m args below meth c s₁ B hml hv
  obtain ⟨rfl, hsz, hP, hK, hD0⟩ := hv
  have hlocks := B.notSynchronized
  subst hsz
  have hD := hD0.self (sz := s.heap.size)
  have hl := lv_entry ([.ref aM, .int x1]) (n := 2) (Nat.le_of_ble_eq_true rfl)
  rw [lg_entry_eq]
  exact k_X3_isLabel B.exec B.bytes hml (findClass_of_methodNamed B.named) (atoms_spec (ws := wsX3_isLabel) B.pre) hK (fun q hq => Or.inr hq) (fun r H locs ls pc hd hz hp hP hD hS => W.zret B.exec B.bytes B.returns (m_bz hz) (fun t ht hW => ⟨⟨r, (), rfl, hp, by rw [ht]; exact hP, hD⟩, hS.F ht⟩) hS.2.2 hd) h s.heap [] _ hP hD va_S.rf hl

def wp_X3_begin_b59 (x2 : Int32) (mk : Int32) (mp : Int32) (fMM : (Nat → Int32)) (fMB : (Nat → Int32)) (post : Int32 → (Nat → Int32) → (Nat → Int32) → Prop)  : Prop := ∀ P59 : Int32 → (Nat → Int32) → Prop, (∀ (x2 : Int32) (fMB : (Nat → Int32)), (((60 : Int32) ≤ x2 → post mk fMM fMB) ∧ (¬ (60 : Int32) ≤ x2 → (vp_in x2 60 ∧ (∀ fMB_71 : (Nat → Int32), fMB_71 = upd fMB x2.toNatClampNeg (0 : Int32) → (∀ v72 : Int32, v72 = x2 + (1 : Int32) → P59 v72 fMB_71))))) → P59 x2 fMB) → P59 x2 fMB
def wp_X3_begin_b7 (x1 : Int32) (x2 : Int32) (mk : Int32) (mp : Int32) (fMM : (Nat → Int32)) (fMB : (Nat → Int32)) (post : Int32 → (Nat → Int32) → (Nat → Int32) → Prop)  : Prop := ∀ P7 : Int32 → (Nat → Int32) → Prop, (∀ (x2 : Int32) (fMM : (Nat → Int32)), (((36 : Int32) ≤ x2 → wp_X3_begin_b59 (0 : Int32) mk mp fMM fMB post) ∧ (¬ (36 : Int32) ≤ x2 → (¬ (6 : Int32) = (0 : Int32) ∧ (¬ (6 : Int32) = (0 : Int32) ∧ (((x2 / (6 : Int32)) = (x2 - x2 / (6 : Int32) * (6 : Int32)) → (vp_in x2 36 ∧ (∀ fMM_50 : (Nat → Int32), fMM_50 = upd fMM x2.toNatClampNeg (vp_nar .boolean (0 : Int32)) → (∀ v51 : Int32, v51 = x2 + (1 : Int32) → P7 v51 fMM_50)))) ∧ (¬ (x2 / (6 : Int32)) = (x2 - x2 / (6 : Int32) * (6 : Int32)) → (¬ (6 : Int32) = (0 : Int32) ∧ ((x1 ≤ (x2 / (6 : Int32)) → (vp_in x2 36 ∧ (∀ fMM_50 : (Nat → Int32), fMM_50 = upd fMM x2.toNatClampNeg (vp_nar .boolean (0 : Int32)) → (∀ v51 : Int32, v51 = x2 + (1 : Int32) → P7 v51 fMM_50)))) ∧ (¬ x1 ≤ (x2 / (6 : Int32)) → (¬ (6 : Int32) = (0 : Int32) ∧ ((x1 ≤ (x2 - x2 / (6 : Int32) * (6 : Int32)) → (vp_in x2 36 ∧ (∀ fMM_50 : (Nat → Int32), fMM_50 = upd fMM x2.toNatClampNeg (vp_nar .boolean (0 : Int32)) → (∀ v51 : Int32, v51 = x2 + (1 : Int32) → P7 v51 fMM_50)))) ∧ (¬ x1 ≤ (x2 - x2 / (6 : Int32) * (6 : Int32)) → (vp_in x2 36 ∧ (∀ fMM_50 : (Nat → Int32), fMM_50 = upd fMM x2.toNatClampNeg (vp_nar .boolean (1 : Int32)) → (∀ v51 : Int32, v51 = x2 + (1 : Int32) → P7 v51 fMM_50))))))))))))))) → P7 x2 fMM) → P7 x2 fMM
def wp_X3_begin (x1 : Int32) (mk : Int32) (mp : Int32) (fMM : (Nat → Int32)) (fMB : (Nat → Int32)) (post : Int32 → (Nat → Int32) → (Nat → Int32) → Prop) : Prop := wp_X3_begin_b7 x1 (0 : Int32) x1 mp fMM fMB post
abbrev rm_X3_begin : Room := { frames := 0, cells := 0, slots := 0, locals := 0 }
theorem hv_X3_begin : yX3_begin.cls = RX3 ∧ yX3_begin.cls ≠ "java/lang/invoke/MethodHandle" ∧ yX3_begin.cls ≠ "java/lang/invoke/VarHandle" ∧ (parseMethodDescriptor yX3_begin.desc).map (fun d => d.parameters.length) = some 1 := by decide +kernel
set_option maxHeartbeats 4000000 in
set_option maxRecDepth 100000 in
theorem k_X3_begin {p : Program} {l : Launch} {e : Env} {s : State} {m : MethodId} {args : Array Value} {below : List Frame} {meth : Method} {c : Code} {Q : State → Prop} {A : Nat → Prop} {dC : Nat → ClassId} {dI : Nat → Nat → Nat} {cI cJ cZ : ClassId} (hx : p.tables.exec = Jvm.exec) (hb : c.code = cX3_begin) (hml : c.maxLocals = 3) (hown : s.vm.findClass RX3 = some m.cls) (hts : ∀ w ∈ wsX3_begin, w.before args s = true) (hK : va_K (dC, dI) vwCl (mTy cI cJ cZ) s) (hA : ∀ q, s.heap.size ≤ q → A q) {aM aMM aML aMY aMT aMR aMB aMN : Nat} {mk : Int32} {mp : Int32} {fMM : (Nat → Int32)} {fMB : (Nat → Int32)} {x1 : Int32} {post : Int32 → (Nat → Int32) → (Nat → Int32) → Prop} (ret : ∀ (mk' : Int32) (fMM' : (Nat → Int32)) (fMB' : (Nat → Int32)) (H : Heap) (locs : List Loc) (ls : Array Slot) (pc : Nat), decode cX3_begin pc = .ok (.return_, 1) → post mk' fMM' fMB' → va_P (dC, dI) vwCl [oM aM aMM aML aMY aMT aMR aMB aMN mk' mp, aI aMM cZ 36 fMM', aI aMB cI 60 fMB'] H → va_D A [oM aM aMM aML aMY aMT aMR aMB aMN mk' mp, aI aMM cZ 36 fMM', aI aMB cI 60 fMB'] → va_S A s.heap H locs → W p l e rm_X3_begin s m args below meth c H locs 0 0 Q (F0 m pc ls [])) (h : wp_X3_begin x1 mk mp fMM fMB post) : mW p l e rm_X3_begin s m args below meth c 0 0 Q A (dC, dI) 3 [oM aM aMM aML aMY aMT aMR aMB aMN mk mp, aI aMM cZ 36 fMM, aI aMB cI 60 fMB] [(0, .ref aM), (1, .int x1)] 0 [] := by
  have in_X3 : ∀ w ∈ wsX30, w ∈ wsX3_begin := fun w hw => List.mem_cons_of_mem _ (List.mem_append_right _ hw)
  have k_27 := hts (.fieldLink RX3 27 "RingTasksModel" "label" "[I") (List.mem_of_getElem? (i := 3) rfl)
  have k_40 := hts (.fieldLink RX3 40 "RingTasksModel" "labels" "I") (List.mem_of_getElem? (i := 1) rfl)
  have k_7 := hts (.fieldLink RX3 7 "RingTasksModel" "may" "[Z") (List.mem_of_getElem? (i := 2) rfl)
  have B59 : ∀ (x2 : Int32) (mk : Int32) (fMM : (Nat → Int32)) (fMB : (Nat → Int32)), wp_X3_begin_b59 x2 mk mp fMM fMB post → mW p l e rm_X3_begin s m args below meth c 0 0 Q A (dC, dI) 3 [oM aM aMM aML aMY aMT aMR aMB aMN mk mp, aI aMM cZ 36 fMM, aI aMB cI 60 fMB] [(0, .ref aM), (2, .int x2)] 59 [] := by
    intro x2 mk fMM fMB h
    unfold wp_X3_begin_b59 at h
    refine h (fun (x2 : Int32) (fMB : (Nat → Int32)) => mW p l e rm_X3_begin s m args below meth c 0 0 Q A (dC, dI) 3 [oM aM aMM aML aMY aMT aMR aMB aMN mk mp, aI aMM cZ 36 fMM, aI aMB cI 60 fMB] [(0, .ref aM), (2, .int x2)] 59 []) ?_
    intro x2 fMB h
    intro H locs ls hP hD hS hl
    refine lv_iload_n hx hb dX3_begin_59 rfl (lv_at hl 1 rfl) ?_
    refine lv_bipush (v := 60) hx hb dX3_begin_60 (by decide) ?_
    refine lv_icmp_ge (tgt := 78) hx hb dX3_begin_62 (by decide) (fun q62 => ?_) (fun q62 => ?_)
    · have h := h.1 q62
      exact ret _ _ _ H locs ls _ dX3_begin_78 h hP hD hS
    · have h := h.2 q62
      refine lv_aload_n hx hb dX3_begin_65 rfl (lv_at hl 0 rfl) ?_
      refine va_get (D := (dC, dI)) (ci := 3) (v := .ref aMB) (C := RX3) (T := TX3) (N := 9) hx hb hts in_X3 hown hK hP 0 rfl rfl 7 (by decide) k_27 (fun _ h9 => h9) rfl dX3_begin_66 ?_
      refine lv_iload_n hx hb dX3_begin_69 rfl (lv_at hl 1 rfl) ?_
      refine lv_iconst (v := 0) hx hb dX3_begin_70 (by decide) ?_
      refine va_iast (D := (dC, dI)) hx hb hK hP hD hS 2 0 rfl rfl h.1 dX3_begin_71 (fun H locs hP hD hS => ?_)
      obtain ⟨fMB_71, efMB_71⟩ : ∃ y, y = upd fMB x2.toNatClampNeg (0 : Int32) := ⟨_, rfl⟩
      have h := h.2 fMB_71 efMB_71
      have hP : va_P (dC, dI) vwCl [oM aM aMM aML aMY aMT aMR aMB aMN mk mp, aI aMM cZ 36 fMM, aI aMB cI 60 fMB_71] H := by rw [efMB_71]; exact hP
      have hD : va_D A [oM aM aMM aML aMY aMT aMR aMB aMN mk mp, aI aMM cZ 36 fMM, aI aMB cI 60 fMB_71] := by rw [efMB_71]; exact hD
      obtain ⟨v72, ev72⟩ : ∃ y : Int32, y = x2 + (1 : Int32) := ⟨_, rfl⟩
      have h := h v72 ev72
      refine lv_iinc (v := v72) (lv' := [(2, .int v72), (0, .ref aM)]) hx hb dX3_begin_72 hl (k := 1) rfl (by rw [ev72]; rfl) (by decide) rfl (fun ls hl => ?_)
      refine lv_goto (tgt := 59) hx hb dX3_begin_75 (by decide) ?_
      exact h H locs ls hP hD hS (lv_sub hl [1, 0] rfl)
  have B7 : ∀ (x1 : Int32) (x2 : Int32) (mk : Int32) (fMM : (Nat → Int32)) (fMB : (Nat → Int32)), wp_X3_begin_b7 x1 x2 mk mp fMM fMB post → mW p l e rm_X3_begin s m args below meth c 0 0 Q A (dC, dI) 3 [oM aM aMM aML aMY aMT aMR aMB aMN mk mp, aI aMM cZ 36 fMM, aI aMB cI 60 fMB] [(0, .ref aM), (1, .int x1), (2, .int x2)] 7 [] := by
    intro x1 x2 mk fMM fMB h
    unfold wp_X3_begin_b7 at h
    refine h (fun (x2 : Int32) (fMM : (Nat → Int32)) => mW p l e rm_X3_begin s m args below meth c 0 0 Q A (dC, dI) 3 [oM aM aMM aML aMY aMT aMR aMB aMN mk mp, aI aMM cZ 36 fMM, aI aMB cI 60 fMB] [(0, .ref aM), (1, .int x1), (2, .int x2)] 7 []) ?_
    intro x2 fMM h
    intro H locs ls hP hD hS hl
    refine lv_iload_n hx hb dX3_begin_7 rfl (lv_at hl 2 rfl) ?_
    refine lv_bipush (v := 36) hx hb dX3_begin_8 (by decide) ?_
    refine lv_icmp_ge (tgt := 57) hx hb dX3_begin_10 (by decide) (fun q10 => ?_) (fun q10 => ?_)
    · have h := h.1 q10
      refine lv_iconst (v := 0) hx hb dX3_begin_57 (by decide) ?_
      refine lv_istore_n (lv' := [(2, .int (0 : Int32)), (0, .ref aM), (1, .int x1)]) hx hb dX3_begin_58 rfl hl (by decide) rfl (fun ls hl => ?_)
      exact B59 _ _ _ _ h H locs ls hP hD hS (lv_sub hl [1, 0] rfl)
    · have h := h.2 q10
      refine lv_aload_n hx hb dX3_begin_13 rfl (lv_at hl 0 rfl) ?_
      refine va_get (D := (dC, dI)) (ci := 3) (v := .ref aMM) (C := RX3) (T := TX3) (N := 9) hx hb hts in_X3 hown hK hP 0 rfl rfl 1 (by decide) k_7 (fun _ h9 => h9) rfl dX3_begin_14 ?_
      refine lv_iload_n hx hb dX3_begin_17 rfl (lv_at hl 2 rfl) ?_
      refine lv_iload_n hx hb dX3_begin_18 rfl (lv_at hl 2 rfl) ?_
      refine lv_bipush (v := 6) hx hb dX3_begin_19 (by decide) ?_
      refine lv_idiv hx hb dX3_begin_21 h.1 ?_
      have h := h.2
      refine lv_iload_n hx hb dX3_begin_22 rfl (lv_at hl 2 rfl) ?_
      refine lv_bipush (v := 6) hx hb dX3_begin_23 (by decide) ?_
      refine lv_irem hx hb dX3_begin_25 h.1 ?_
      have h := h.2
      refine lv_icmp_eq (tgt := 49) hx hb dX3_begin_26 (by decide) (fun q26 => ?_) (fun q26 => ?_)
      · have h := h.1 q26
        refine lv_iconst (v := 0) hx hb dX3_begin_49 (by decide) ?_
        refine va_zast (D := (dC, dI)) hx hb hK hP hD hS 1 2 rfl rfl h.1 dX3_begin_50 (fun H locs hP hD hS => ?_)
        obtain ⟨fMM_50, efMM_50⟩ : ∃ y, y = upd fMM x2.toNatClampNeg (vp_nar .boolean (0 : Int32)) := ⟨_, rfl⟩
        have h := h.2 fMM_50 efMM_50
        have hP : va_P (dC, dI) vwCl [oM aM aMM aML aMY aMT aMR aMB aMN mk mp, aI aMM cZ 36 fMM_50, aI aMB cI 60 fMB] H := by rw [efMM_50]; exact hP
        have hD : va_D A [oM aM aMM aML aMY aMT aMR aMB aMN mk mp, aI aMM cZ 36 fMM_50, aI aMB cI 60 fMB] := by rw [efMM_50]; exact hD
        obtain ⟨v51, ev51⟩ : ∃ y : Int32, y = x2 + (1 : Int32) := ⟨_, rfl⟩
        have h := h v51 ev51
        refine lv_iinc (v := v51) (lv' := [(2, .int v51), (0, .ref aM), (1, .int x1)]) hx hb dX3_begin_51 hl (k := 2) rfl (by rw [ev51]; rfl) (by decide) rfl (fun ls hl => ?_)
        refine lv_goto (tgt := 7) hx hb dX3_begin_54 (by decide) ?_
        exact h H locs ls hP hD hS (lv_sub hl [1, 2, 0] rfl)
      · have h := h.2 q26
        refine lv_iload_n hx hb dX3_begin_29 rfl (lv_at hl 2 rfl) ?_
        refine lv_bipush (v := 6) hx hb dX3_begin_30 (by decide) ?_
        refine lv_idiv hx hb dX3_begin_32 h.1 ?_
        have h := h.2
        refine lv_iload_n hx hb dX3_begin_33 rfl (lv_at hl 1 rfl) ?_
        refine lv_icmp_ge (tgt := 49) hx hb dX3_begin_34 (by decide) (fun q34 => ?_) (fun q34 => ?_)
        · have h := h.1 q34
          refine lv_iconst (v := 0) hx hb dX3_begin_49 (by decide) ?_
          refine va_zast (D := (dC, dI)) hx hb hK hP hD hS 1 2 rfl rfl h.1 dX3_begin_50 (fun H locs hP hD hS => ?_)
          obtain ⟨fMM_50, efMM_50⟩ : ∃ y, y = upd fMM x2.toNatClampNeg (vp_nar .boolean (0 : Int32)) := ⟨_, rfl⟩
          have h := h.2 fMM_50 efMM_50
          have hP : va_P (dC, dI) vwCl [oM aM aMM aML aMY aMT aMR aMB aMN mk mp, aI aMM cZ 36 fMM_50, aI aMB cI 60 fMB] H := by rw [efMM_50]; exact hP
          have hD : va_D A [oM aM aMM aML aMY aMT aMR aMB aMN mk mp, aI aMM cZ 36 fMM_50, aI aMB cI 60 fMB] := by rw [efMM_50]; exact hD
          obtain ⟨v51, ev51⟩ : ∃ y : Int32, y = x2 + (1 : Int32) := ⟨_, rfl⟩
          have h := h v51 ev51
          refine lv_iinc (v := v51) (lv' := [(2, .int v51), (0, .ref aM), (1, .int x1)]) hx hb dX3_begin_51 hl (k := 2) rfl (by rw [ev51]; rfl) (by decide) rfl (fun ls hl => ?_)
          refine lv_goto (tgt := 7) hx hb dX3_begin_54 (by decide) ?_
          exact h H locs ls hP hD hS (lv_sub hl [1, 2, 0] rfl)
        · have h := h.2 q34
          refine lv_iload_n hx hb dX3_begin_37 rfl (lv_at hl 2 rfl) ?_
          refine lv_bipush (v := 6) hx hb dX3_begin_38 (by decide) ?_
          refine lv_irem hx hb dX3_begin_40 h.1 ?_
          have h := h.2
          refine lv_iload_n hx hb dX3_begin_41 rfl (lv_at hl 1 rfl) ?_
          refine lv_icmp_ge (tgt := 49) hx hb dX3_begin_42 (by decide) (fun q42 => ?_) (fun q42 => ?_)
          · have h := h.1 q42
            refine lv_iconst (v := 0) hx hb dX3_begin_49 (by decide) ?_
            refine va_zast (D := (dC, dI)) hx hb hK hP hD hS 1 2 rfl rfl h.1 dX3_begin_50 (fun H locs hP hD hS => ?_)
            obtain ⟨fMM_50, efMM_50⟩ : ∃ y, y = upd fMM x2.toNatClampNeg (vp_nar .boolean (0 : Int32)) := ⟨_, rfl⟩
            have h := h.2 fMM_50 efMM_50
            have hP : va_P (dC, dI) vwCl [oM aM aMM aML aMY aMT aMR aMB aMN mk mp, aI aMM cZ 36 fMM_50, aI aMB cI 60 fMB] H := by rw [efMM_50]; exact hP
            have hD : va_D A [oM aM aMM aML aMY aMT aMR aMB aMN mk mp, aI aMM cZ 36 fMM_50, aI aMB cI 60 fMB] := by rw [efMM_50]; exact hD
            obtain ⟨v51, ev51⟩ : ∃ y : Int32, y = x2 + (1 : Int32) := ⟨_, rfl⟩
            have h := h v51 ev51
            refine lv_iinc (v := v51) (lv' := [(2, .int v51), (0, .ref aM), (1, .int x1)]) hx hb dX3_begin_51 hl (k := 2) rfl (by rw [ev51]; rfl) (by decide) rfl (fun ls hl => ?_)
            refine lv_goto (tgt := 7) hx hb dX3_begin_54 (by decide) ?_
            exact h H locs ls hP hD hS (lv_sub hl [1, 2, 0] rfl)
          · have h := h.2 q42
            refine lv_iconst (v := 1) hx hb dX3_begin_45 (by decide) ?_
            refine lv_goto (tgt := 50) hx hb dX3_begin_46 (by decide) ?_
            refine va_zast (D := (dC, dI)) hx hb hK hP hD hS 1 2 rfl rfl h.1 dX3_begin_50 (fun H locs hP hD hS => ?_)
            obtain ⟨fMM_50, efMM_50⟩ : ∃ y, y = upd fMM x2.toNatClampNeg (vp_nar .boolean (1 : Int32)) := ⟨_, rfl⟩
            have h := h.2 fMM_50 efMM_50
            have hP : va_P (dC, dI) vwCl [oM aM aMM aML aMY aMT aMR aMB aMN mk mp, aI aMM cZ 36 fMM_50, aI aMB cI 60 fMB] H := by rw [efMM_50]; exact hP
            have hD : va_D A [oM aM aMM aML aMY aMT aMR aMB aMN mk mp, aI aMM cZ 36 fMM_50, aI aMB cI 60 fMB] := by rw [efMM_50]; exact hD
            obtain ⟨v51, ev51⟩ : ∃ y : Int32, y = x2 + (1 : Int32) := ⟨_, rfl⟩
            have h := h v51 ev51
            refine lv_iinc (v := v51) (lv' := [(2, .int v51), (0, .ref aM), (1, .int x1)]) hx hb dX3_begin_51 hl (k := 2) rfl (by rw [ev51]; rfl) (by decide) rfl (fun ls hl => ?_)
            refine lv_goto (tgt := 7) hx hb dX3_begin_54 (by decide) ?_
            exact h H locs ls hP hD hS (lv_sub hl [1, 2, 0] rfl)
  unfold wp_X3_begin at h
  intro H locs ls hP hD hS hl
  refine lv_aload_n hx hb dX3_begin_0 rfl (lv_at hl 0 rfl) ?_
  refine lv_iload_n hx hb dX3_begin_1 rfl (lv_at hl 1 rfl) ?_
  refine va_put (D := (dC, dI)) (ci := 3) (v := .int x1) (ty := .int) (C := RX3) (T := TX3) (N := 9) hx hb hts in_X3 tyX3 tyX3_ok nmX3 hown hK hP hD hS 0 rfl rfl 0 (by decide) k_40 (fun _ h9 => h9) rfl (by decide +kernel) rfl rfl (Nat.le_of_ble_eq_true rfl) dX3_begin_2 (fun H locs hP hD hS => ?_)
  have hP : va_P (dC, dI) vwCl [oM aM aMM aML aMY aMT aMR aMB aMN x1 mp, aI aMM cZ 36 fMM, aI aMB cI 60 fMB] H := hP
  have hD : va_D A [oM aM aMM aML aMY aMT aMR aMB aMN x1 mp, aI aMM cZ 36 fMM, aI aMB cI 60 fMB] := hD
  refine lv_iconst (v := 0) hx hb dX3_begin_5 (by decide) ?_
  refine lv_istore_n (lv' := [(2, .int (0 : Int32)), (0, .ref aM), (1, .int x1)]) hx hb dX3_begin_6 rfl hl (by decide) rfl (fun ls hl => ?_)
  exact B7 _ _ _ _ _ h H locs ls hP hD hS (lv_sub hl [1, 2, 0] rfl)
set_option maxHeartbeats 4000000 in
set_option maxRecDepth 100000 in
theorem c_X3_begin {l : Launch} {dC : Nat → ClassId} {dI : Nat → Nat → Nat} {cI cJ cZ : ClassId} {aM aMM aML aMY aMT aMR aMB aMN : Nat} {mk : Int32} {mp : Int32} {fMM : (Nat → Int32)} {fMB : (Nat → Int32)} {x1 : Int32} {post : Int32 → (Nat → Int32) → (Nat → Int32) → Prop} (h : wp_X3_begin x1 mk mp fMM fMB post) : ∀ sz, Met l yX3_begin wsX3_begin rm_X3_begin (mP (dC, dI) (mTy cI cJ cZ) [.ref aM, .int x1] [oM aM aMM aML aMY aMT aMR aMB aMN mk mp, aI aMM cZ 36 fMM, aI aMB cI 60 fMB] sz) (va_Qv (fun (u : Int32 × (Nat → Int32) × (Nat → Int32)) => post (u.1) (u.2.1) (u.2.2)) (mB (dC, dI) (va_A [oM aM aMM aML aMY aMT aMR aMB aMN mk mp, aI aMM cZ 36 fMM, aI aMB cI 60 fMB] sz) (fun u => [oM aM aMM aML aMY aMT aMR aMB aMN (u.1) mp, aI aMM cZ 36 (u.2.1), aI aMB cI 60 (u.2.2)])) (va_A [oM aM aMM aML aMY aMT aMR aMB aMN mk mp, aI aMM cZ 36 fMM, aI aMB cI 60 fMB] sz)) 0 0 (va_A [oM aM aMM aML aMY aMT aMR aMB aMN mk mp, aI aMM cZ 36 fMM, aI aMB cI 60 fMB] sz) := by
  intro sz
  refine Met.ofW (cc := cX3_begin) (maxL := 3) (ret := none) (by decide) rfl ?_
  intro p e s m args below meth c s₁ B hml hv
  obtain ⟨rfl, hsz, hP, hK, hD0⟩ := hv
  have hlocks := B.notSynchronized
  subst hsz
  have hD := hD0.self (sz := s.heap.size)
  have hl := lv_entry ([.ref aM, .int x1]) (n := 3) (Nat.le_of_ble_eq_true rfl)
  rw [lg_entry_eq]
  exact k_X3_begin B.exec B.bytes hml (findClass_of_methodNamed B.named) (atoms_spec (ws := wsX3_begin) B.pre) hK (fun q hq => Or.inr hq) (fun mk' fMM' fMB' H locs ls pc hd hp hP hD hS => W.vret B.exec B.bytes B.returns (fun t ht hW => ⟨⟨(mk', fMM', fMB'), rfl, hp, by rw [ht]; exact hP, hD⟩, hS.F ht⟩) hS.2.2 hd) h s.heap [] _ hP hD va_S.rf hl

def wp_X3_labels (x1 : Int32) (mk : Int32) (mp : Int32) (fMM : (Nat → Int32)) (fMB : (Nat → Int32)) (post : Int32 → Int32 → (Nat → Int32) → (Nat → Int32) → Prop) : Prop := wp_X3_in x1 (1 : Int32) (6 : Int32) (fun (r4 : Int32) => ((¬ r4 = (0 : Int32) → wp_X3_begin x1 mk mp fMM fMB (fun (mk_20 : Int32) (fMM_20 : (Nat → Int32)) (fMB_20 : (Nat → Int32)) => post mk mk_20 fMM_20 fMB_20)) ∧ (r4 = (0 : Int32) → post (-2 : Int32) mk fMM fMB)))
abbrev rm_X3_labels : Room := { frames := 1, cells := 0, slots := 0, locals := 22 }
theorem hv_X3_labels : yX3_labels.cls = RX3 ∧ yX3_labels.cls ≠ "java/lang/invoke/MethodHandle" ∧ yX3_labels.cls ≠ "java/lang/invoke/VarHandle" ∧ (parseMethodDescriptor yX3_labels.desc).map (fun d => d.parameters.length) = some 1 := by decide +kernel
set_option maxHeartbeats 4000000 in
set_option maxRecDepth 100000 in
theorem k_X3_labels {p : Program} {l : Launch} {e : Env} {s : State} {m : MethodId} {args : Array Value} {below : List Frame} {meth : Method} {c : Code} {Q : State → Prop} {A : Nat → Prop} {dC : Nat → ClassId} {dI : Nat → Nat → Nat} {cI cJ cZ : ClassId} (hx : p.tables.exec = Jvm.exec) (hb : c.code = cX3_labels) (hml : c.maxLocals = 3) (hown : s.vm.findClass RX3 = some m.cls) (hts : ∀ w ∈ wsX3_labels, w.before args s = true) (hK : va_K (dC, dI) vwCl (mTy cI cJ cZ) s) (hA : ∀ q, s.heap.size ≤ q → A q) {aM aMM aML aMY aMT aMR aMB aMN : Nat} {mk : Int32} {mp : Int32} {fMM : (Nat → Int32)} {fMB : (Nat → Int32)} {x1 : Int32} {post : Int32 → Int32 → (Nat → Int32) → (Nat → Int32) → Prop} (ret : ∀ (r : Int32) (mk' : Int32) (fMM' : (Nat → Int32)) (fMB' : (Nat → Int32)) (H : Heap) (locs : List Loc) (ls : Array Slot) (pc : Nat), decode cX3_labels pc = .ok (.ireturn, 1) → post r mk' fMM' fMB' → va_P (dC, dI) vwCl [oM aM aMM aML aMY aMT aMR aMB aMN mk' mp, aI aMM cZ 36 fMM', aI aMB cI 60 fMB'] H → va_D A [oM aM aMM aML aMY aMT aMR aMB aMN mk' mp, aI aMM cZ 36 fMM', aI aMB cI 60 fMB'] → va_S A s.heap H locs → W p l e rm_X3_labels s m args below meth c H locs 0 0 Q (F0 m pc ls [.int r])) (h : wp_X3_labels x1 mk mp fMM fMB post) : mW p l e rm_X3_labels s m args below meth c 0 0 Q A (dC, dI) 3 [oM aM aMM aML aMY aMT aMR aMB aMN mk mp, aI aMM cZ 36 fMM, aI aMB cI 60 fMB] [(0, .ref aM), (1, .int x1)] 0 [] := by
  have in_X3 : ∀ w ∈ wsX30, w ∈ wsX3_labels := fun w hw => List.mem_cons_of_mem _ (List.mem_append_right _ hw)
  have k_40 := hts (.fieldLink RX3 40 "RingTasksModel" "labels" "I") (List.mem_of_getElem? (i := 1) rfl)
  unfold wp_X3_labels at h
  intro H locs ls hP hD hS hl
  refine lv_iload_n hx hb dX3_labels_0 rfl (lv_at hl 1 rfl) ?_
  refine lv_iconst (v := 1) hx hb dX3_labels_1 (by decide) ?_
  refine lv_bipush (v := 6) hx hb dX3_labels_2 (by decide) ?_
  refine mSi (wr := [oM aM aMM aML aMY aMT aMR aMB aMN mk mp, aI aMM cZ 36 fMM, aI aMB cI 60 fMB]) (As := [.int x1, .int (1 : Int32), .int (6 : Int32)]) (rest := []) ⟨hx, hb, hml, hown, hts⟩ (c_X3_in (l := l) (dC := dC) (dI := dI) (cI := cI) (cJ := cJ) (cZ := cZ)  h) (va_cwS 3 hts gX3_labels_X3_in rfl rfl rfl hv_X3_in ⟨Nat.le_of_ble_eq_true rfl, Nat.le_of_ble_eq_true rfl⟩) hK hP hD hS hA [] [0, 1, 2] rfl rfl rfl rfl (by decide) rfl hl.1 rfl (Nat.le_of_ble_eq_true rfl) ⟨Nat.zero_le _, Nat.zero_le _⟩ dX3_labels_4 (fun r4 u4 H locs h hP hD hS => ?_)
  have hP : va_P (dC, dI) vwCl [oM aM aMM aML aMY aMT aMR aMB aMN mk mp, aI aMM cZ 36 fMM, aI aMB cI 60 fMB] H := hP.sub [0, 1, 2] rfl
  have hD : va_D A [oM aM aMM aML aMY aMT aMR aMB aMN mk mp, aI aMM cZ 36 fMM, aI aMB cI 60 fMB] := hD.sub [0, 1, 2] rfl rfl
  refine lv_if_ne (tgt := 13) hx hb dX3_labels_7 (by decide) (fun q7 => ?_) (fun q7 => ?_)
  · have h := h.1 q7
    refine lv_aload_n hx hb dX3_labels_13 rfl (lv_at hl 0 rfl) ?_
    refine va_get (D := (dC, dI)) (ci := 3) (v := .int mk) (C := RX3) (T := TX3) (N := 9) hx hb hts in_X3 hown hK hP 0 rfl rfl 0 (by decide) k_40 (fun _ h9 => h9) rfl dX3_labels_14 ?_
    refine lv_istore_n (lv' := [(2, .int mk), (0, .ref aM), (1, .int x1)]) hx hb dX3_labels_17 rfl hl (by decide) rfl (fun ls hl => ?_)
    refine lv_aload_n hx hb dX3_labels_18 rfl (lv_at hl 1 rfl) ?_
    refine lv_iload_n hx hb dX3_labels_19 rfl (lv_at hl 2 rfl) ?_
    refine mVv (wr := []) (As := [.int x1]) (rest := []) ⟨hx, hb, hml, hown, hts⟩ (c_X3_begin (l := l) (dC := dC) (dI := dI) (cI := cI) (cJ := cJ) (cZ := cZ) (aM := aM) (aMM := aMM) (aML := aML) (aMY := aMY) (aMT := aMT) (aMR := aMR) (aMB := aMB) (aMN := aMN) h) (cwV 1 hts gX3_labels_X3_begin rfl rfl rfl hv_X3_begin ⟨Nat.le_of_ble_eq_true rfl, Nat.le_of_ble_eq_true rfl⟩) hK hP hD hS hA [0, 1, 2] [] rfl rfl rfl rfl (by decide) 3 rfl rfl rfl rfl hl.1 rfl (Nat.le_of_ble_eq_true rfl) ⟨Nat.zero_le _, Nat.zero_le _⟩ dX3_labels_20 (fun u20 H locs h hP hD hS => ?_)
    obtain ⟨mk_20, fMM_20, fMB_20⟩ := u20
    have hP : va_P (dC, dI) vwCl [oM aM aMM aML aMY aMT aMR aMB aMN mk_20 mp, aI aMM cZ 36 fMM_20, aI aMB cI 60 fMB_20] H := hP.sub [0, 1, 2] rfl
    have hD : va_D A [oM aM aMM aML aMY aMT aMR aMB aMN mk_20 mp, aI aMM cZ 36 fMM_20, aI aMB cI 60 fMB_20] := hD.sub [0, 1, 2] rfl rfl
    refine lv_iload_n hx hb dX3_labels_23 rfl (lv_at hl 0 rfl) ?_
    exact ret _ _ _ _ H locs ls _ dX3_labels_24 h hP hD hS
  · have h := h.2 q7
    refine lv_bipush (v := -2) hx hb dX3_labels_10 (by decide) ?_
    exact ret _ _ _ _ H locs ls _ dX3_labels_12 h hP hD hS
set_option maxHeartbeats 4000000 in
set_option maxRecDepth 100000 in
theorem c_X3_labels {l : Launch} {dC : Nat → ClassId} {dI : Nat → Nat → Nat} {cI cJ cZ : ClassId} {aM aMM aML aMY aMT aMR aMB aMN : Nat} {mk : Int32} {mp : Int32} {fMM : (Nat → Int32)} {fMB : (Nat → Int32)} {x1 : Int32} {post : Int32 → Int32 → (Nat → Int32) → (Nat → Int32) → Prop} (h : wp_X3_labels x1 mk mp fMM fMB post) : ∀ sz, Met l yX3_labels wsX3_labels rm_X3_labels (mP (dC, dI) (mTy cI cJ cZ) [.ref aM, .int x1] [oM aM aMM aML aMY aMT aMR aMB aMN mk mp, aI aMM cZ 36 fMM, aI aMB cI 60 fMB] sz) (va_Qi (fun (r : Int32) (u : Int32 × (Nat → Int32) × (Nat → Int32)) => post r (u.1) (u.2.1) (u.2.2)) (mB (dC, dI) (va_A [oM aM aMM aML aMY aMT aMR aMB aMN mk mp, aI aMM cZ 36 fMM, aI aMB cI 60 fMB] sz) (fun u => [oM aM aMM aML aMY aMT aMR aMB aMN (u.1) mp, aI aMM cZ 36 (u.2.1), aI aMB cI 60 (u.2.2)])) (va_A [oM aM aMM aML aMY aMT aMR aMB aMN mk mp, aI aMM cZ 36 fMM, aI aMB cI 60 fMB] sz)) 0 0 (va_A [oM aM aMM aML aMY aMT aMR aMB aMN mk mp, aI aMM cZ 36 fMM, aI aMB cI 60 fMB] sz) := by
  intro sz
  refine Met.ofW (cc := cX3_labels) (maxL := 3) (ret := (some .int)) (by decide) rfl ?_
  intro p e s m args below meth c s₁ B hml hv
  obtain ⟨rfl, hsz, hP, hK, hD0⟩ := hv
  have hlocks := B.notSynchronized
  subst hsz
  have hD := hD0.self (sz := s.heap.size)
  have hl := lv_entry ([.ref aM, .int x1]) (n := 3) (Nat.le_of_ble_eq_true rfl)
  rw [lg_entry_eq]
  exact k_X3_labels B.exec B.bytes hml (findClass_of_methodNamed B.named) (atoms_spec (ws := wsX3_labels) B.pre) hK (fun q hq => Or.inr hq) (fun r mk' fMM' fMB' H locs ls pc hd hp hP hD hS => W.iret B.exec B.bytes B.returns (fun t ht hW => ⟨⟨r, (mk', fMM', fMB'), rfl, hp, by rw [ht]; exact hP, hD⟩, hS.F ht⟩) hS.2.2 hd) h s.heap [] _ hP hD va_S.rf hl

def wp_X3_allow_b37 (x1 : Int32) (x2 : Int32) (x3 : Int32) (z0 : Int32) (mk : Int32) (mp : Int32) (fMM : (Nat → Int32)) (post : Int32 → (Nat → Int32) → Prop)  : Prop := (vp_in (((6 : Int32) * x1) + x2) 36 ∧ (∀ fMM_50 : (Nat → Int32), fMM_50 = upd fMM (((6 : Int32) * x1) + x2).toNatClampNeg (vp_nar .boolean x3) → post z0 fMM_50))
def wp_X3_allow (x1 : Int32) (x2 : Int32) (x3 : Int32) (mk : Int32) (mp : Int32) (fMM : (Nat → Int32)) (post : Int32 → (Nat → Int32) → Prop) : Prop := wp_X3_isLabel x1 mk mp (fun (r2 : Int32) => ((r2 = (0 : Int32) → post (-1 : Int32) fMM) ∧ (¬ r2 = (0 : Int32) → wp_X3_isLabel x2 mk mp (fun (r10 : Int32) => ((¬ r10 = (0 : Int32) → (vp_in (((6 : Int32) * x1) + x2) 36 ∧ (((fMM (((6 : Int32) * x1) + x2).toNatClampNeg) = (0 : Int32) → wp_X3_allow_b37 x1 x2 x3 (0 : Int32) mk mp fMM post) ∧ (¬ (fMM (((6 : Int32) * x1) + x2).toNatClampNeg) = (0 : Int32) → wp_X3_allow_b37 x1 x2 x3 (1 : Int32) mk mp fMM post)))) ∧ (r10 = (0 : Int32) → post (-1 : Int32) fMM))))))
abbrev rm_X3_allow : Room := { frames := 2, cells := 0, slots := 0, locals := 43 }
theorem hv_X3_allow : yX3_allow.cls = RX3 ∧ yX3_allow.cls ≠ "java/lang/invoke/MethodHandle" ∧ yX3_allow.cls ≠ "java/lang/invoke/VarHandle" ∧ (parseMethodDescriptor yX3_allow.desc).map (fun d => d.parameters.length) = some 3 := by decide +kernel
set_option maxHeartbeats 4000000 in
set_option maxRecDepth 100000 in
theorem k_X3_allow {p : Program} {l : Launch} {e : Env} {s : State} {m : MethodId} {args : Array Value} {below : List Frame} {meth : Method} {c : Code} {Q : State → Prop} {A : Nat → Prop} {dC : Nat → ClassId} {dI : Nat → Nat → Nat} {cI cJ cZ : ClassId} (hx : p.tables.exec = Jvm.exec) (hb : c.code = cX3_allow) (hml : c.maxLocals = 5) (hown : s.vm.findClass RX3 = some m.cls) (hts : ∀ w ∈ wsX3_allow, w.before args s = true) (hK : va_K (dC, dI) vwCl (mTy cI cJ cZ) s) (hA : ∀ q, s.heap.size ≤ q → A q) {aM aMM aML aMY aMT aMR aMB aMN : Nat} {mk : Int32} {mp : Int32} {fMM : (Nat → Int32)} {x1 : Int32} {x2 : Int32} {x3 : Int32} {post : Int32 → (Nat → Int32) → Prop} (ret : ∀ (r : Int32) (fMM' : (Nat → Int32)) (H : Heap) (locs : List Loc) (ls : Array Slot) (pc : Nat), decode cX3_allow pc = .ok (.ireturn, 1) → post r fMM' → va_P (dC, dI) vwCl [oM aM aMM aML aMY aMT aMR aMB aMN mk mp, aI aMM cZ 36 fMM'] H → va_D A [oM aM aMM aML aMY aMT aMR aMB aMN mk mp, aI aMM cZ 36 fMM'] → va_S A s.heap H locs → W p l e rm_X3_allow s m args below meth c H locs 0 0 Q (F0 m pc ls [.int r])) (h : wp_X3_allow x1 x2 x3 mk mp fMM post) : mW p l e rm_X3_allow s m args below meth c 0 0 Q A (dC, dI) 5 [oM aM aMM aML aMY aMT aMR aMB aMN mk mp, aI aMM cZ 36 fMM] [(0, .ref aM), (1, .int x1), (2, .int x2), (3, .int x3)] 0 [] := by
  have in_X3 : ∀ w ∈ wsX30, w ∈ wsX3_allow := fun w hw => List.mem_cons_of_mem _ (List.mem_append_right _ hw)
  have k_7 := hts (.fieldLink RX3 7 "RingTasksModel" "may" "[Z") (List.mem_of_getElem? (i := 1) rfl)
  have B37 : ∀ (x1 : Int32) (x2 : Int32) (x3 : Int32) (z0 : Int32) (fMM : (Nat → Int32)), wp_X3_allow_b37 x1 x2 x3 z0 mk mp fMM post → mW p l e rm_X3_allow s m args below meth c 0 0 Q A (dC, dI) 5 [oM aM aMM aML aMY aMT aMR aMB aMN mk mp, aI aMM cZ 36 fMM] [(0, .ref aM), (1, .int x1), (2, .int x2), (3, .int x3)] 37 [.int z0] := by
    intro x1 x2 x3 z0 fMM h
    unfold wp_X3_allow_b37 at h
    intro H locs ls hP hD hS hl
    refine lv_istore (lv' := [(4, .int z0), (0, .ref aM), (1, .int x1), (2, .int x2), (3, .int x3)]) hx hb dX3_allow_37 hl (by decide) rfl (fun ls hl => ?_)
    refine lv_aload_n hx hb dX3_allow_39 rfl (lv_at hl 1 rfl) ?_
    refine va_get (D := (dC, dI)) (ci := 3) (v := .ref aMM) (C := RX3) (T := TX3) (N := 9) hx hb hts in_X3 hown hK hP 0 rfl rfl 1 (by decide) k_7 (fun _ h9 => h9) rfl dX3_allow_40 ?_
    refine lv_bipush (v := 6) hx hb dX3_allow_43 (by decide) ?_
    refine lv_iload_n hx hb dX3_allow_45 rfl (lv_at hl 2 rfl) ?_
    refine lv_imul hx hb dX3_allow_46 ?_
    refine lv_iload_n hx hb dX3_allow_47 rfl (lv_at hl 3 rfl) ?_
    refine lv_iadd hx hb dX3_allow_48 ?_
    refine lv_iload_n hx hb dX3_allow_49 rfl (lv_at hl 4 rfl) ?_
    refine va_zast (D := (dC, dI)) hx hb hK hP hD hS 1 2 rfl rfl h.1 dX3_allow_50 (fun H locs hP hD hS => ?_)
    obtain ⟨fMM_50, efMM_50⟩ : ∃ y, y = upd fMM (((6 : Int32) * x1) + x2).toNatClampNeg (vp_nar .boolean x3) := ⟨_, rfl⟩
    have h := h.2 fMM_50 efMM_50
    have hP : va_P (dC, dI) vwCl [oM aM aMM aML aMY aMT aMR aMB aMN mk mp, aI aMM cZ 36 fMM_50] H := by rw [efMM_50]; exact hP
    have hD : va_D A [oM aM aMM aML aMY aMT aMR aMB aMN mk mp, aI aMM cZ 36 fMM_50] := by rw [efMM_50]; exact hD
    refine lv_iload hx hb dX3_allow_51 (lv_at hl 0 rfl) ?_
    exact ret _ _ H locs ls _ dX3_allow_53 h hP hD hS
  unfold wp_X3_allow at h
  intro H locs ls hP hD hS hl
  refine lv_aload_n hx hb dX3_allow_0 rfl (lv_at hl 0 rfl) ?_
  refine lv_iload_n hx hb dX3_allow_1 rfl (lv_at hl 1 rfl) ?_
  refine mVi (wr := [aI aMM cZ 36 fMM]) (As := [.int x1]) (rest := []) ⟨hx, hb, hml, hown, hts⟩ (c_X3_isLabel (l := l) (dC := dC) (dI := dI) (cI := cI) (cJ := cJ) (cZ := cZ) (aM := aM) (aMM := aMM) (aML := aML) (aMY := aMY) (aMT := aMT) (aMR := aMR) (aMB := aMB) (aMN := aMN) h) (cwV 1 hts gX3_allow_X3_isLabel rfl rfl rfl hv_X3_isLabel ⟨Nat.le_of_ble_eq_true rfl, Nat.le_of_ble_eq_true rfl⟩) hK hP hD hS hA [0] [1] rfl rfl rfl rfl (by decide) 3 rfl rfl rfl rfl hl.1 rfl (Nat.le_of_ble_eq_true rfl) ⟨Nat.zero_le _, Nat.zero_le _⟩ dX3_allow_2 (fun r2 u2 H locs h hP hD hS => ?_)
  have hP : va_P (dC, dI) vwCl [oM aM aMM aML aMY aMT aMR aMB aMN mk mp, aI aMM cZ 36 fMM] H := hP.sub [1, 0] rfl
  have hD : va_D A [oM aM aMM aML aMY aMT aMR aMB aMN mk mp, aI aMM cZ 36 fMM] := hD.sub [1, 0] rfl rfl
  refine lv_if_eq (tgt := 16) hx hb dX3_allow_5 (by decide) (fun q5 => ?_) (fun q5 => ?_)
  · have h := h.1 q5
    refine lv_iconst (v := -1) hx hb dX3_allow_16 (by decide) ?_
    exact ret _ _ H locs ls _ dX3_allow_17 h hP hD hS
  · have h := h.2 q5
    refine lv_aload_n hx hb dX3_allow_8 rfl (lv_at hl 0 rfl) ?_
    refine lv_iload_n hx hb dX3_allow_9 rfl (lv_at hl 2 rfl) ?_
    refine mVi (wr := [aI aMM cZ 36 fMM]) (As := [.int x2]) (rest := []) ⟨hx, hb, hml, hown, hts⟩ (c_X3_isLabel (l := l) (dC := dC) (dI := dI) (cI := cI) (cJ := cJ) (cZ := cZ) (aM := aM) (aMM := aMM) (aML := aML) (aMY := aMY) (aMT := aMT) (aMR := aMR) (aMB := aMB) (aMN := aMN) h) (cwV 1 hts gX3_allow_X3_isLabel rfl rfl rfl hv_X3_isLabel ⟨Nat.le_of_ble_eq_true rfl, Nat.le_of_ble_eq_true rfl⟩) hK hP hD hS hA [0] [1] rfl rfl rfl rfl (by decide) 3 rfl rfl rfl rfl hl.1 rfl (Nat.le_of_ble_eq_true rfl) ⟨Nat.zero_le _, Nat.zero_le _⟩ dX3_allow_10 (fun r10 u10 H locs h hP hD hS => ?_)
    have hP : va_P (dC, dI) vwCl [oM aM aMM aML aMY aMT aMR aMB aMN mk mp, aI aMM cZ 36 fMM] H := hP.sub [1, 0] rfl
    have hD : va_D A [oM aM aMM aML aMY aMT aMR aMB aMN mk mp, aI aMM cZ 36 fMM] := hD.sub [1, 0] rfl rfl
    refine lv_if_ne (tgt := 18) hx hb dX3_allow_13 (by decide) (fun q13 => ?_) (fun q13 => ?_)
    · have h := h.1 q13
      refine lv_aload_n hx hb dX3_allow_18 rfl (lv_at hl 0 rfl) ?_
      refine va_get (D := (dC, dI)) (ci := 3) (v := .ref aMM) (C := RX3) (T := TX3) (N := 9) hx hb hts in_X3 hown hK hP 0 rfl rfl 1 (by decide) k_7 (fun _ h9 => h9) rfl dX3_allow_19 ?_
      refine lv_bipush (v := 6) hx hb dX3_allow_22 (by decide) ?_
      refine lv_iload_n hx hb dX3_allow_24 rfl (lv_at hl 1 rfl) ?_
      refine lv_imul hx hb dX3_allow_25 ?_
      refine lv_iload_n hx hb dX3_allow_26 rfl (lv_at hl 2 rfl) ?_
      refine lv_iadd hx hb dX3_allow_27 ?_
      refine va_zald (D := (dC, dI)) hx hb hK hP 1 2 rfl rfl h.1 dX3_allow_28 ?_
      have h := h.2
      refine lv_if_eq (tgt := 36) hx hb dX3_allow_29 (by decide) (fun q29 => ?_) (fun q29 => ?_)
      · have h := h.1 q29
        refine lv_iconst (v := 0) hx hb dX3_allow_36 (by decide) ?_
        exact B37 _ _ _ _ _ h H locs ls hP hD hS (lv_sub hl [0, 1, 2, 3] rfl)
      · have h := h.2 q29
        refine lv_iconst (v := 1) hx hb dX3_allow_32 (by decide) ?_
        refine lv_goto (tgt := 37) hx hb dX3_allow_33 (by decide) ?_
        exact B37 _ _ _ _ _ h H locs ls hP hD hS (lv_sub hl [0, 1, 2, 3] rfl)
    · have h := h.2 q13
      refine lv_iconst (v := -1) hx hb dX3_allow_16 (by decide) ?_
      exact ret _ _ H locs ls _ dX3_allow_17 h hP hD hS
set_option maxHeartbeats 4000000 in
set_option maxRecDepth 100000 in
theorem c_X3_allow {l : Launch} {dC : Nat → ClassId} {dI : Nat → Nat → Nat} {cI cJ cZ : ClassId} {aM aMM aML aMY aMT aMR aMB aMN : Nat} {mk : Int32} {mp : Int32} {fMM : (Nat → Int32)} {x1 : Int32} {x2 : Int32} {x3 : Int32} {post : Int32 → (Nat → Int32) → Prop} (h : wp_X3_allow x1 x2 x3 mk mp fMM post) : ∀ sz, Met l yX3_allow wsX3_allow rm_X3_allow (mP (dC, dI) (mTy cI cJ cZ) [.ref aM, .int x1, .int x2, .int x3] [oM aM aMM aML aMY aMT aMR aMB aMN mk mp, aI aMM cZ 36 fMM] sz) (va_Qi (fun (r : Int32) (u : (Nat → Int32)) => post r u) (mB (dC, dI) (va_A [oM aM aMM aML aMY aMT aMR aMB aMN mk mp, aI aMM cZ 36 fMM] sz) (fun u => [oM aM aMM aML aMY aMT aMR aMB aMN mk mp, aI aMM cZ 36 u])) (va_A [oM aM aMM aML aMY aMT aMR aMB aMN mk mp, aI aMM cZ 36 fMM] sz)) 0 0 (va_A [oM aM aMM aML aMY aMT aMR aMB aMN mk mp, aI aMM cZ 36 fMM] sz) := by
  intro sz
  refine Met.ofW (cc := cX3_allow) (maxL := 5) (ret := (some .int)) (by decide) rfl ?_
  intro p e s m args below meth c s₁ B hml hv
  obtain ⟨rfl, hsz, hP, hK, hD0⟩ := hv
  have hlocks := B.notSynchronized
  subst hsz
  have hD := hD0.self (sz := s.heap.size)
  have hl := lv_entry ([.ref aM, .int x1, .int x2, .int x3]) (n := 5) (Nat.le_of_ble_eq_true rfl)
  rw [lg_entry_eq]
  exact k_X3_allow B.exec B.bytes hml (findClass_of_methodNamed B.named) (atoms_spec (ws := wsX3_allow) B.pre) hK (fun q hq => Or.inr hq) (fun r fMM' H locs ls pc hd hp hP hD hS => W.iret B.exec B.bytes B.returns (fun t ht hW => ⟨⟨r, fMM', rfl, hp, by rw [ht]; exact hP, hD⟩, hS.F ht⟩) hS.2.2 hd) h s.heap [] _ hP hD va_S.rf hl

def wp_X3_may (x1 : Int32) (x2 : Int32) (mk : Int32) (mp : Int32) (fMM : (Nat → Int32)) (post : Int32 → Prop) : Prop := wp_X3_isLabel x1 mk mp (fun (r2 : Int32) => ((r2 = (0 : Int32) → post (-1 : Int32)) ∧ (¬ r2 = (0 : Int32) → wp_X3_isLabel x2 mk mp (fun (r10 : Int32) => ((¬ r10 = (0 : Int32) → (vp_in (((6 : Int32) * x1) + x2) 36 ∧ (((fMM (((6 : Int32) * x1) + x2).toNatClampNeg) = (0 : Int32) → post (0 : Int32)) ∧ (¬ (fMM (((6 : Int32) * x1) + x2).toNatClampNeg) = (0 : Int32) → post (1 : Int32))))) ∧ (r10 = (0 : Int32) → post (-1 : Int32)))))))
abbrev rm_X3_may : Room := { frames := 2, cells := 0, slots := 0, locals := 43 }
theorem hv_X3_may : yX3_may.cls = RX3 ∧ yX3_may.cls ≠ "java/lang/invoke/MethodHandle" ∧ yX3_may.cls ≠ "java/lang/invoke/VarHandle" ∧ (parseMethodDescriptor yX3_may.desc).map (fun d => d.parameters.length) = some 2 := by decide +kernel
set_option maxHeartbeats 4000000 in
set_option maxRecDepth 100000 in
theorem k_X3_may {p : Program} {l : Launch} {e : Env} {s : State} {m : MethodId} {args : Array Value} {below : List Frame} {meth : Method} {c : Code} {Q : State → Prop} {A : Nat → Prop} {dC : Nat → ClassId} {dI : Nat → Nat → Nat} {cI cJ cZ : ClassId} (hx : p.tables.exec = Jvm.exec) (hb : c.code = cX3_may) (hml : c.maxLocals = 3) (hown : s.vm.findClass RX3 = some m.cls) (hts : ∀ w ∈ wsX3_may, w.before args s = true) (hK : va_K (dC, dI) vwCl (mTy cI cJ cZ) s) (hA : ∀ q, s.heap.size ≤ q → A q) {aM aMM aML aMY aMT aMR aMB aMN : Nat} {mk : Int32} {mp : Int32} {fMM : (Nat → Int32)} {x1 : Int32} {x2 : Int32} {post : Int32 → Prop} (ret : ∀ (r : Int32) (H : Heap) (locs : List Loc) (ls : Array Slot) (pc : Nat), decode cX3_may pc = .ok (.ireturn, 1) → post r → va_P (dC, dI) vwCl [oM aM aMM aML aMY aMT aMR aMB aMN mk mp, aI aMM cZ 36 fMM] H → va_D A [oM aM aMM aML aMY aMT aMR aMB aMN mk mp, aI aMM cZ 36 fMM] → va_S A s.heap H locs → W p l e rm_X3_may s m args below meth c H locs 0 0 Q (F0 m pc ls [.int r])) (h : wp_X3_may x1 x2 mk mp fMM post) : mW p l e rm_X3_may s m args below meth c 0 0 Q A (dC, dI) 3 [oM aM aMM aML aMY aMT aMR aMB aMN mk mp, aI aMM cZ 36 fMM] [(0, .ref aM), (1, .int x1), (2, .int x2)] 0 [] := by
  have in_X3 : ∀ w ∈ wsX30, w ∈ wsX3_may := fun w hw => List.mem_cons_of_mem _ (List.mem_append_right _ hw)
  have k_7 := hts (.fieldLink RX3 7 "RingTasksModel" "may" "[Z") (List.mem_of_getElem? (i := 1) rfl)
  unfold wp_X3_may at h
  intro H locs ls hP hD hS hl
  refine lv_aload_n hx hb dX3_may_0 rfl (lv_at hl 0 rfl) ?_
  refine lv_iload_n hx hb dX3_may_1 rfl (lv_at hl 1 rfl) ?_
  refine mVi (wr := [aI aMM cZ 36 fMM]) (As := [.int x1]) (rest := []) ⟨hx, hb, hml, hown, hts⟩ (c_X3_isLabel (l := l) (dC := dC) (dI := dI) (cI := cI) (cJ := cJ) (cZ := cZ) (aM := aM) (aMM := aMM) (aML := aML) (aMY := aMY) (aMT := aMT) (aMR := aMR) (aMB := aMB) (aMN := aMN) h) (cwV 1 hts gX3_may_X3_isLabel rfl rfl rfl hv_X3_isLabel ⟨Nat.le_of_ble_eq_true rfl, Nat.le_of_ble_eq_true rfl⟩) hK hP hD hS hA [0] [1] rfl rfl rfl rfl (by decide) 3 rfl rfl rfl rfl hl.1 rfl (Nat.le_of_ble_eq_true rfl) ⟨Nat.zero_le _, Nat.zero_le _⟩ dX3_may_2 (fun r2 u2 H locs h hP hD hS => ?_)
  have hP : va_P (dC, dI) vwCl [oM aM aMM aML aMY aMT aMR aMB aMN mk mp, aI aMM cZ 36 fMM] H := hP.sub [1, 0] rfl
  have hD : va_D A [oM aM aMM aML aMY aMT aMR aMB aMN mk mp, aI aMM cZ 36 fMM] := hD.sub [1, 0] rfl rfl
  refine lv_if_eq (tgt := 16) hx hb dX3_may_5 (by decide) (fun q5 => ?_) (fun q5 => ?_)
  · have h := h.1 q5
    refine lv_iconst (v := -1) hx hb dX3_may_16 (by decide) ?_
    refine lv_goto (tgt := 39) hx hb dX3_may_17 (by decide) ?_
    exact ret _  H locs ls _ dX3_may_39 h hP hD hS
  · have h := h.2 q5
    refine lv_aload_n hx hb dX3_may_8 rfl (lv_at hl 0 rfl) ?_
    refine lv_iload_n hx hb dX3_may_9 rfl (lv_at hl 2 rfl) ?_
    refine mVi (wr := [aI aMM cZ 36 fMM]) (As := [.int x2]) (rest := []) ⟨hx, hb, hml, hown, hts⟩ (c_X3_isLabel (l := l) (dC := dC) (dI := dI) (cI := cI) (cJ := cJ) (cZ := cZ) (aM := aM) (aMM := aMM) (aML := aML) (aMY := aMY) (aMT := aMT) (aMR := aMR) (aMB := aMB) (aMN := aMN) h) (cwV 1 hts gX3_may_X3_isLabel rfl rfl rfl hv_X3_isLabel ⟨Nat.le_of_ble_eq_true rfl, Nat.le_of_ble_eq_true rfl⟩) hK hP hD hS hA [0] [1] rfl rfl rfl rfl (by decide) 3 rfl rfl rfl rfl hl.1 rfl (Nat.le_of_ble_eq_true rfl) ⟨Nat.zero_le _, Nat.zero_le _⟩ dX3_may_10 (fun r10 u10 H locs h hP hD hS => ?_)
    have hP : va_P (dC, dI) vwCl [oM aM aMM aML aMY aMT aMR aMB aMN mk mp, aI aMM cZ 36 fMM] H := hP.sub [1, 0] rfl
    have hD : va_D A [oM aM aMM aML aMY aMT aMR aMB aMN mk mp, aI aMM cZ 36 fMM] := hD.sub [1, 0] rfl rfl
    refine lv_if_ne (tgt := 20) hx hb dX3_may_13 (by decide) (fun q13 => ?_) (fun q13 => ?_)
    · have h := h.1 q13
      refine lv_aload_n hx hb dX3_may_20 rfl (lv_at hl 0 rfl) ?_
      refine va_get (D := (dC, dI)) (ci := 3) (v := .ref aMM) (C := RX3) (T := TX3) (N := 9) hx hb hts in_X3 hown hK hP 0 rfl rfl 1 (by decide) k_7 (fun _ h9 => h9) rfl dX3_may_21 ?_
      refine lv_bipush (v := 6) hx hb dX3_may_24 (by decide) ?_
      refine lv_iload_n hx hb dX3_may_26 rfl (lv_at hl 1 rfl) ?_
      refine lv_imul hx hb dX3_may_27 ?_
      refine lv_iload_n hx hb dX3_may_28 rfl (lv_at hl 2 rfl) ?_
      refine lv_iadd hx hb dX3_may_29 ?_
      refine va_zald (D := (dC, dI)) hx hb hK hP 1 2 rfl rfl h.1 dX3_may_30 ?_
      have h := h.2
      refine lv_if_eq (tgt := 38) hx hb dX3_may_31 (by decide) (fun q31 => ?_) (fun q31 => ?_)
      · have h := h.1 q31
        refine lv_iconst (v := 0) hx hb dX3_may_38 (by decide) ?_
        exact ret _  H locs ls _ dX3_may_39 h hP hD hS
      · have h := h.2 q31
        refine lv_iconst (v := 1) hx hb dX3_may_34 (by decide) ?_
        refine lv_goto (tgt := 39) hx hb dX3_may_35 (by decide) ?_
        exact ret _  H locs ls _ dX3_may_39 h hP hD hS
    · have h := h.2 q13
      refine lv_iconst (v := -1) hx hb dX3_may_16 (by decide) ?_
      refine lv_goto (tgt := 39) hx hb dX3_may_17 (by decide) ?_
      exact ret _  H locs ls _ dX3_may_39 h hP hD hS
set_option maxHeartbeats 4000000 in
set_option maxRecDepth 100000 in
theorem c_X3_may {l : Launch} {dC : Nat → ClassId} {dI : Nat → Nat → Nat} {cI cJ cZ : ClassId} {aM aMM aML aMY aMT aMR aMB aMN : Nat} {mk : Int32} {mp : Int32} {fMM : (Nat → Int32)} {x1 : Int32} {x2 : Int32} {post : Int32 → Prop} (h : wp_X3_may x1 x2 mk mp fMM post) : ∀ sz, Met l yX3_may wsX3_may rm_X3_may (mP (dC, dI) (mTy cI cJ cZ) [.ref aM, .int x1, .int x2] [oM aM aMM aML aMY aMT aMR aMB aMN mk mp, aI aMM cZ 36 fMM] sz) (va_Qi (fun (r : Int32) (u : Unit) => post r ) (mB (dC, dI) (va_A [oM aM aMM aML aMY aMT aMR aMB aMN mk mp, aI aMM cZ 36 fMM] sz) (fun u => [oM aM aMM aML aMY aMT aMR aMB aMN mk mp, aI aMM cZ 36 fMM])) (va_A [oM aM aMM aML aMY aMT aMR aMB aMN mk mp, aI aMM cZ 36 fMM] sz)) 0 0 (va_A [oM aM aMM aML aMY aMT aMR aMB aMN mk mp, aI aMM cZ 36 fMM] sz) := by
  intro sz
  refine Met.ofW (cc := cX3_may) (maxL := 3) (ret := (some .int)) (by decide) rfl ?_
  intro p e s m args below meth c s₁ B hml hv
  obtain ⟨rfl, hsz, hP, hK, hD0⟩ := hv
  have hlocks := B.notSynchronized
  subst hsz
  have hD := hD0.self (sz := s.heap.size)
  have hl := lv_entry ([.ref aM, .int x1, .int x2]) (n := 3) (Nat.le_of_ble_eq_true rfl)
  rw [lg_entry_eq]
  exact k_X3_may B.exec B.bytes hml (findClass_of_methodNamed B.named) (atoms_spec (ws := wsX3_may) B.pre) hK (fun q hq => Or.inr hq) (fun r H locs ls pc hd hp hP hD hS => W.iret B.exec B.bytes B.returns (fun t ht hW => ⟨⟨r, (), rfl, hp, by rw [ht]; exact hP, hD⟩, hS.F ht⟩) hS.2.2 hd) h s.heap [] _ hP hD va_S.rf hl

def wp_X3_layLeads_b55 (x1 : Int32) (x2 : Int32) (mk : Int32) (mp : Int32) (fMM : (Nat → Int32)) (fML : (Nat → Int64)) (post : (Nat → Int64) → Prop) (P40 : Int32 → (Nat → Int64) → Prop) : Prop := ∀ P55 : Int32 → (Nat → Int64) → Prop, (∀ (x2 : Int32) (fML : (Nat → Int64)), (((36 : Int32) ≤ x2 → (∀ v113 : Int32, v113 = x1 + (1 : Int32) → P40 v113 fML)) ∧ (¬ (36 : Int32) ≤ x2 → (vp_in x2 36 ∧ (((fMM x2.toNatClampNeg) = (0 : Int32) → (∀ v107 : Int32, v107 = x2 + (1 : Int32) → P55 v107 fML)) ∧ (¬ (fMM x2.toNatClampNeg) = (0 : Int32) → (vp_in x1 61 ∧ (vp_in (x1 - (1 : Int32)) 61 ∧ (¬ (6 : Int32) = (0 : Int32) ∧ (¬ (6 : Int32) = (0 : Int32) ∧ (vp_in x1 61 ∧ (∀ fML_106 : (Nat → Int64), fML_106 = vp_updL fML x1.toNatClampNeg ((fML x1.toNatClampNeg) ||| ((((fML (x1 - (1 : Int32)).toNatClampNeg) >>> ((((6 : Int32) * (x2 - x2 / (6 : Int32) * (6 : Int32))) : Int32).toInt64 &&& 63)) &&& (63 : Int64)) <<< ((((6 : Int32) * (x2 / (6 : Int32))) : Int32).toInt64 &&& 63))) → (∀ v107 : Int32, v107 = x2 + (1 : Int32) → P55 v107 fML_106)))))))))))) → P55 x2 fML) → P55 x2 fML
def wp_X3_layLeads_b40 (x1 : Int32) (mk : Int32) (mp : Int32) (fMM : (Nat → Int32)) (fML : (Nat → Int64)) (post : (Nat → Int64) → Prop)  : Prop := ∀ P40 : Int32 → (Nat → Int64) → Prop, (∀ (x1 : Int32) (fML : (Nat → Int64)), (((60 : Int32) < x1 → post fML) ∧ (¬ (60 : Int32) < x1 → (vp_in x1 61 ∧ (∀ fML_52 : (Nat → Int64), fML_52 = vp_updL fML x1.toNatClampNeg (0 : Int64) → wp_X3_layLeads_b55 x1 (0 : Int32) mk mp fMM fML_52 post P40)))) → P40 x1 fML) → P40 x1 fML
def wp_X3_layLeads_b9 (x1 : Int32) (mk : Int32) (mp : Int32) (fMM : (Nat → Int32)) (fML : (Nat → Int64)) (post : (Nat → Int64) → Prop)  : Prop := ∀ P9 : Int32 → (Nat → Int64) → Prop, (∀ (x1 : Int32) (fML : (Nat → Int64)), ((mk ≤ x1 → wp_X3_layLeads_b40 (1 : Int32) mk mp fMM fML post) ∧ (¬ mk ≤ x1 → (vp_in (0 : Int32) 61 ∧ (vp_in (0 : Int32) 61 ∧ (∀ fML_31 : (Nat → Int64), fML_31 = vp_updL fML (0 : Int32).toNatClampNeg ((fML (0 : Int32).toNatClampNeg) ||| ((1 : Int64) <<< ((((7 : Int32) * x1) : Int32).toInt64 &&& 63))) → (∀ v32 : Int32, v32 = x1 + (1 : Int32) → P9 v32 fML_31)))))) → P9 x1 fML) → P9 x1 fML
def wp_X3_layLeads  (mk : Int32) (mp : Int32) (fMM : (Nat → Int32)) (fML : (Nat → Int64)) (post : (Nat → Int64) → Prop) : Prop := (vp_in (0 : Int32) 61 ∧ (∀ fML_6 : (Nat → Int64), fML_6 = vp_updL fML (0 : Int32).toNatClampNeg (0 : Int64) → wp_X3_layLeads_b9 (0 : Int32) mk mp fMM fML_6 post))
abbrev rm_X3_layLeads : Room := { frames := 0, cells := 0, slots := 0, locals := 0 }
theorem hv_X3_layLeads : yX3_layLeads.cls = RX3 ∧ yX3_layLeads.cls ≠ "java/lang/invoke/MethodHandle" ∧ yX3_layLeads.cls ≠ "java/lang/invoke/VarHandle" ∧ (parseMethodDescriptor yX3_layLeads.desc).map (fun d => d.parameters.length) = some 0 := by decide +kernel
set_option maxHeartbeats 4000000 in
set_option maxRecDepth 100000 in
theorem k_X3_layLeads {p : Program} {l : Launch} {e : Env} {s : State} {m : MethodId} {args : Array Value} {below : List Frame} {meth : Method} {c : Code} {Q : State → Prop} {A : Nat → Prop} {dC : Nat → ClassId} {dI : Nat → Nat → Nat} {cI cJ cZ : ClassId} (hx : p.tables.exec = Jvm.exec) (hb : c.code = cX3_layLeads) (hml : c.maxLocals = 3) (hown : s.vm.findClass RX3 = some m.cls) (hts : ∀ w ∈ wsX3_layLeads, w.before args s = true) (hK : va_K (dC, dI) vwCl (mTy cI cJ cZ) s) (hA : ∀ q, s.heap.size ≤ q → A q) {aM aMM aML aMY aMT aMR aMB aMN : Nat} {mk : Int32} {mp : Int32} {fMM : (Nat → Int32)} {fML : (Nat → Int64)}  {post : (Nat → Int64) → Prop} (ret : ∀ (fML' : (Nat → Int64)) (H : Heap) (locs : List Loc) (ls : Array Slot) (pc : Nat), decode cX3_layLeads pc = .ok (.return_, 1) → post fML' → va_P (dC, dI) vwCl [oM aM aMM aML aMY aMT aMR aMB aMN mk mp, aI aMM cZ 36 fMM, aJ aML cJ 61 fML'] H → va_D A [oM aM aMM aML aMY aMT aMR aMB aMN mk mp, aI aMM cZ 36 fMM, aJ aML cJ 61 fML'] → va_S A s.heap H locs → W p l e rm_X3_layLeads s m args below meth c H locs 0 0 Q (F0 m pc ls [])) (h : wp_X3_layLeads  mk mp fMM fML post) : mW p l e rm_X3_layLeads s m args below meth c 0 0 Q A (dC, dI) 3 [oM aM aMM aML aMY aMT aMR aMB aMN mk mp, aI aMM cZ 36 fMM, aJ aML cJ 61 fML] [(0, .ref aM)] 0 [] := by
  have in_X3 : ∀ w ∈ wsX30, w ∈ wsX3_layLeads := fun w hw => List.mem_cons_of_mem _ (List.mem_append_right _ hw)
  have k_52 := hts (.constantLong RX3 52 (63)) (List.mem_of_getElem? (i := 4) rfl)
  have k_13 := hts (.fieldLink RX3 13 "RingTasksModel" "leads" "[J") (List.mem_of_getElem? (i := 1) rfl)
  have k_40 := hts (.fieldLink RX3 40 "RingTasksModel" "labels" "I") (List.mem_of_getElem? (i := 2) rfl)
  have k_7 := hts (.fieldLink RX3 7 "RingTasksModel" "may" "[Z") (List.mem_of_getElem? (i := 3) rfl)
  have B55 : ∀ (x1 : Int32) (x2 : Int32) (fML : (Nat → Int64)), ∀ (P40 : Int32 → (Nat → Int64) → Prop) (hP40 : ∀ (x1 : Int32) (fML : (Nat → Int64)), P40 x1 fML → mW p l e rm_X3_layLeads s m args below meth c 0 0 Q A (dC, dI) 3 [oM aM aMM aML aMY aMT aMR aMB aMN mk mp, aI aMM cZ 36 fMM, aJ aML cJ 61 fML] [(0, .ref aM), (1, .int x1)] 40 []), wp_X3_layLeads_b55 x1 x2 mk mp fMM fML post P40 → mW p l e rm_X3_layLeads s m args below meth c 0 0 Q A (dC, dI) 3 [oM aM aMM aML aMY aMT aMR aMB aMN mk mp, aI aMM cZ 36 fMM, aJ aML cJ 61 fML] [(0, .ref aM), (1, .int x1), (2, .int x2)] 55 [] := by
    intro x1 x2 fML P40 hP40 h
    unfold wp_X3_layLeads_b55 at h
    refine h (fun (x2 : Int32) (fML : (Nat → Int64)) => mW p l e rm_X3_layLeads s m args below meth c 0 0 Q A (dC, dI) 3 [oM aM aMM aML aMY aMT aMR aMB aMN mk mp, aI aMM cZ 36 fMM, aJ aML cJ 61 fML] [(0, .ref aM), (1, .int x1), (2, .int x2)] 55 []) ?_
    intro x2 fML h
    intro H locs ls hP hD hS hl
    refine lv_iload_n hx hb dX3_layLeads_55 rfl (lv_at hl 2 rfl) ?_
    refine lv_bipush (v := 36) hx hb dX3_layLeads_56 (by decide) ?_
    refine lv_icmp_ge (tgt := 113) hx hb dX3_layLeads_58 (by decide) (fun q58 => ?_) (fun q58 => ?_)
    · have h := h.1 q58
      obtain ⟨v113, ev113⟩ : ∃ y : Int32, y = x1 + (1 : Int32) := ⟨_, rfl⟩
      have h := h v113 ev113
      refine lv_iinc (v := v113) (lv' := [(1, .int v113), (0, .ref aM), (2, .int x2)]) hx hb dX3_layLeads_113 hl (k := 1) rfl (by rw [ev113]; rfl) (by decide) rfl (fun ls hl => ?_)
      refine lv_goto (tgt := 40) hx hb dX3_layLeads_116 (by decide) ?_
      exact hP40 _ _ h H locs ls hP hD hS (lv_sub hl [1, 0] rfl)
    · have h := h.2 q58
      refine lv_aload_n hx hb dX3_layLeads_61 rfl (lv_at hl 0 rfl) ?_
      refine va_get (D := (dC, dI)) (ci := 3) (v := .ref aMM) (C := RX3) (T := TX3) (N := 9) hx hb hts in_X3 hown hK hP 0 rfl rfl 1 (by decide) k_7 (fun _ h9 => h9) rfl dX3_layLeads_62 ?_
      refine lv_iload_n hx hb dX3_layLeads_65 rfl (lv_at hl 2 rfl) ?_
      refine va_zald (D := (dC, dI)) hx hb hK hP 1 2 rfl rfl h.1 dX3_layLeads_66 ?_
      have h := h.2
      refine lv_if_eq (tgt := 107) hx hb dX3_layLeads_67 (by decide) (fun q67 => ?_) (fun q67 => ?_)
      · have h := h.1 q67
        obtain ⟨v107, ev107⟩ : ∃ y : Int32, y = x2 + (1 : Int32) := ⟨_, rfl⟩
        have h := h v107 ev107
        refine lv_iinc (v := v107) (lv' := [(2, .int v107), (0, .ref aM), (1, .int x1)]) hx hb dX3_layLeads_107 hl (k := 2) rfl (by rw [ev107]; rfl) (by decide) rfl (fun ls hl => ?_)
        refine lv_goto (tgt := 55) hx hb dX3_layLeads_110 (by decide) ?_
        exact h H locs ls hP hD hS (lv_sub hl [1, 2, 0] rfl)
      · have h := h.2 q67
        refine lv_aload_n hx hb dX3_layLeads_70 rfl (lv_at hl 0 rfl) ?_
        refine va_get (D := (dC, dI)) (ci := 3) (v := .ref aML) (C := RX3) (T := TX3) (N := 9) hx hb hts in_X3 hown hK hP 0 rfl rfl 2 (by decide) k_13 (fun _ h9 => h9) rfl dX3_layLeads_71 ?_
        refine lv_iload_n hx hb dX3_layLeads_74 rfl (lv_at hl 1 rfl) ?_
        refine lv_dup2_11 hx hb dX3_layLeads_75 rfl rfl ?_
        refine va_lald (D := (dC, dI)) hx hb hK hP 2 1 rfl rfl h.1 dX3_layLeads_76 ?_
        have h := h.2
        refine lv_aload_n hx hb dX3_layLeads_77 rfl (lv_at hl 0 rfl) ?_
        refine va_get (D := (dC, dI)) (ci := 3) (v := .ref aML) (C := RX3) (T := TX3) (N := 9) hx hb hts in_X3 hown hK hP 0 rfl rfl 2 (by decide) k_13 (fun _ h9 => h9) rfl dX3_layLeads_78 ?_
        refine lv_iload_n hx hb dX3_layLeads_81 rfl (lv_at hl 1 rfl) ?_
        refine lv_iconst (v := 1) hx hb dX3_layLeads_82 (by decide) ?_
        refine lv_isub hx hb dX3_layLeads_83 ?_
        refine va_lald (D := (dC, dI)) hx hb hK hP 2 1 rfl rfl h.1 dX3_layLeads_84 ?_
        have h := h.2
        refine lv_bipush (v := 6) hx hb dX3_layLeads_85 (by decide) ?_
        refine lv_iload_n hx hb dX3_layLeads_87 rfl (lv_at hl 2 rfl) ?_
        refine lv_bipush (v := 6) hx hb dX3_layLeads_88 (by decide) ?_
        refine lv_irem hx hb dX3_layLeads_90 h.1 ?_
        have h := h.2
        refine lv_imul hx hb dX3_layLeads_91 ?_
        refine lv_lshr hx hb dX3_layLeads_92 rfl ?_
        refine lv_ldc2 (v := 63) hx hb hown k_52 dX3_layLeads_93 ?_
        refine lv_land hx hb dX3_layLeads_96 ?_
        refine lv_bipush (v := 6) hx hb dX3_layLeads_97 (by decide) ?_
        refine lv_iload_n hx hb dX3_layLeads_99 rfl (lv_at hl 2 rfl) ?_
        refine lv_bipush (v := 6) hx hb dX3_layLeads_100 (by decide) ?_
        refine lv_idiv hx hb dX3_layLeads_102 h.1 ?_
        have h := h.2
        refine lv_imul hx hb dX3_layLeads_103 ?_
        refine lv_lshl hx hb dX3_layLeads_104 rfl ?_
        refine lv_lor hx hb dX3_layLeads_105 ?_
        refine va_last (D := (dC, dI)) hx hb hK hP hD hS 2 1 rfl rfl h.1 dX3_layLeads_106 (fun H locs hP hD hS => ?_)
        obtain ⟨fML_106, efML_106⟩ : ∃ y, y = vp_updL fML x1.toNatClampNeg ((fML x1.toNatClampNeg) ||| ((((fML (x1 - (1 : Int32)).toNatClampNeg) >>> ((((6 : Int32) * (x2 - x2 / (6 : Int32) * (6 : Int32))) : Int32).toInt64 &&& 63)) &&& (63 : Int64)) <<< ((((6 : Int32) * (x2 / (6 : Int32))) : Int32).toInt64 &&& 63))) := ⟨_, rfl⟩
        have h := h.2 fML_106 efML_106
        have hP : va_P (dC, dI) vwCl [oM aM aMM aML aMY aMT aMR aMB aMN mk mp, aI aMM cZ 36 fMM, aJ aML cJ 61 fML_106] H := by rw [efML_106]; exact hP
        have hD : va_D A [oM aM aMM aML aMY aMT aMR aMB aMN mk mp, aI aMM cZ 36 fMM, aJ aML cJ 61 fML_106] := by rw [efML_106]; exact hD
        obtain ⟨v107, ev107⟩ : ∃ y : Int32, y = x2 + (1 : Int32) := ⟨_, rfl⟩
        have h := h v107 ev107
        refine lv_iinc (v := v107) (lv' := [(2, .int v107), (0, .ref aM), (1, .int x1)]) hx hb dX3_layLeads_107 hl (k := 2) rfl (by rw [ev107]; rfl) (by decide) rfl (fun ls hl => ?_)
        refine lv_goto (tgt := 55) hx hb dX3_layLeads_110 (by decide) ?_
        exact h H locs ls hP hD hS (lv_sub hl [1, 2, 0] rfl)
  have B40 : ∀ (x1 : Int32) (fML : (Nat → Int64)), wp_X3_layLeads_b40 x1 mk mp fMM fML post → mW p l e rm_X3_layLeads s m args below meth c 0 0 Q A (dC, dI) 3 [oM aM aMM aML aMY aMT aMR aMB aMN mk mp, aI aMM cZ 36 fMM, aJ aML cJ 61 fML] [(0, .ref aM), (1, .int x1)] 40 [] := by
    intro x1 fML h
    unfold wp_X3_layLeads_b40 at h
    refine h (fun (x1 : Int32) (fML : (Nat → Int64)) => mW p l e rm_X3_layLeads s m args below meth c 0 0 Q A (dC, dI) 3 [oM aM aMM aML aMY aMT aMR aMB aMN mk mp, aI aMM cZ 36 fMM, aJ aML cJ 61 fML] [(0, .ref aM), (1, .int x1)] 40 []) ?_
    intro x1 fML h
    intro H locs ls hP hD hS hl
    refine lv_iload_n hx hb dX3_layLeads_40 rfl (lv_at hl 1 rfl) ?_
    refine lv_bipush (v := 60) hx hb dX3_layLeads_41 (by decide) ?_
    refine lv_icmp_gt (tgt := 119) hx hb dX3_layLeads_43 (by decide) (fun q43 => ?_) (fun q43 => ?_)
    · have h := h.1 q43
      exact ret _ H locs ls _ dX3_layLeads_119 h hP hD hS
    · have h := h.2 q43
      refine lv_aload_n hx hb dX3_layLeads_46 rfl (lv_at hl 0 rfl) ?_
      refine va_get (D := (dC, dI)) (ci := 3) (v := .ref aML) (C := RX3) (T := TX3) (N := 9) hx hb hts in_X3 hown hK hP 0 rfl rfl 2 (by decide) k_13 (fun _ h9 => h9) rfl dX3_layLeads_47 ?_
      refine lv_iload_n hx hb dX3_layLeads_50 rfl (lv_at hl 1 rfl) ?_
      refine lv_lconst (v := 0) hx hb dX3_layLeads_51 (by decide) ?_
      refine va_last (D := (dC, dI)) hx hb hK hP hD hS 2 1 rfl rfl h.1 dX3_layLeads_52 (fun H locs hP hD hS => ?_)
      obtain ⟨fML_52, efML_52⟩ : ∃ y, y = vp_updL fML x1.toNatClampNeg (0 : Int64) := ⟨_, rfl⟩
      have h := h.2 fML_52 efML_52
      have hP : va_P (dC, dI) vwCl [oM aM aMM aML aMY aMT aMR aMB aMN mk mp, aI aMM cZ 36 fMM, aJ aML cJ 61 fML_52] H := by rw [efML_52]; exact hP
      have hD : va_D A [oM aM aMM aML aMY aMT aMR aMB aMN mk mp, aI aMM cZ 36 fMM, aJ aML cJ 61 fML_52] := by rw [efML_52]; exact hD
      refine lv_iconst (v := 0) hx hb dX3_layLeads_53 (by decide) ?_
      refine lv_istore_n (lv' := [(2, .int (0 : Int32)), (0, .ref aM), (1, .int x1)]) hx hb dX3_layLeads_54 rfl hl (by decide) rfl (fun ls hl => ?_)
      exact B55 _ _ _ _ (fun _ _ hq => hq) h H locs ls hP hD hS (lv_sub hl [1, 2, 0] rfl)
  have B9 : ∀ (x1 : Int32) (fML : (Nat → Int64)), wp_X3_layLeads_b9 x1 mk mp fMM fML post → mW p l e rm_X3_layLeads s m args below meth c 0 0 Q A (dC, dI) 3 [oM aM aMM aML aMY aMT aMR aMB aMN mk mp, aI aMM cZ 36 fMM, aJ aML cJ 61 fML] [(0, .ref aM), (1, .int x1)] 9 [] := by
    intro x1 fML h
    unfold wp_X3_layLeads_b9 at h
    refine h (fun (x1 : Int32) (fML : (Nat → Int64)) => mW p l e rm_X3_layLeads s m args below meth c 0 0 Q A (dC, dI) 3 [oM aM aMM aML aMY aMT aMR aMB aMN mk mp, aI aMM cZ 36 fMM, aJ aML cJ 61 fML] [(0, .ref aM), (1, .int x1)] 9 []) ?_
    intro x1 fML h
    intro H locs ls hP hD hS hl
    refine lv_iload_n hx hb dX3_layLeads_9 rfl (lv_at hl 1 rfl) ?_
    refine lv_aload_n hx hb dX3_layLeads_10 rfl (lv_at hl 0 rfl) ?_
    refine va_get (D := (dC, dI)) (ci := 3) (v := .int mk) (C := RX3) (T := TX3) (N := 9) hx hb hts in_X3 hown hK hP 0 rfl rfl 0 (by decide) k_40 (fun _ h9 => h9) rfl dX3_layLeads_11 ?_
    refine lv_icmp_ge (tgt := 38) hx hb dX3_layLeads_14 (by decide) (fun q14 => ?_) (fun q14 => ?_)
    · have h := h.1 q14
      refine lv_iconst (v := 1) hx hb dX3_layLeads_38 (by decide) ?_
      refine lv_istore_n (lv' := [(1, .int (1 : Int32)), (0, .ref aM)]) hx hb dX3_layLeads_39 rfl hl (by decide) rfl (fun ls hl => ?_)
      exact B40 _ _ h H locs ls hP hD hS (lv_sub hl [1, 0] rfl)
    · have h := h.2 q14
      refine lv_aload_n hx hb dX3_layLeads_17 rfl (lv_at hl 0 rfl) ?_
      refine va_get (D := (dC, dI)) (ci := 3) (v := .ref aML) (C := RX3) (T := TX3) (N := 9) hx hb hts in_X3 hown hK hP 0 rfl rfl 2 (by decide) k_13 (fun _ h9 => h9) rfl dX3_layLeads_18 ?_
      refine lv_iconst (v := 0) hx hb dX3_layLeads_21 (by decide) ?_
      refine lv_dup2_11 hx hb dX3_layLeads_22 rfl rfl ?_
      refine va_lald (D := (dC, dI)) hx hb hK hP 2 1 rfl rfl h.1 dX3_layLeads_23 ?_
      have h := h.2
      refine lv_lconst (v := 1) hx hb dX3_layLeads_24 (by decide) ?_
      refine lv_bipush (v := 7) hx hb dX3_layLeads_25 (by decide) ?_
      refine lv_iload_n hx hb dX3_layLeads_27 rfl (lv_at hl 1 rfl) ?_
      refine lv_imul hx hb dX3_layLeads_28 ?_
      refine lv_lshl hx hb dX3_layLeads_29 rfl ?_
      refine lv_lor hx hb dX3_layLeads_30 ?_
      refine va_last (D := (dC, dI)) hx hb hK hP hD hS 2 1 rfl rfl h.1 dX3_layLeads_31 (fun H locs hP hD hS => ?_)
      obtain ⟨fML_31, efML_31⟩ : ∃ y, y = vp_updL fML (0 : Int32).toNatClampNeg ((fML (0 : Int32).toNatClampNeg) ||| ((1 : Int64) <<< ((((7 : Int32) * x1) : Int32).toInt64 &&& 63))) := ⟨_, rfl⟩
      have h := h.2 fML_31 efML_31
      have hP : va_P (dC, dI) vwCl [oM aM aMM aML aMY aMT aMR aMB aMN mk mp, aI aMM cZ 36 fMM, aJ aML cJ 61 fML_31] H := by rw [efML_31]; exact hP
      have hD : va_D A [oM aM aMM aML aMY aMT aMR aMB aMN mk mp, aI aMM cZ 36 fMM, aJ aML cJ 61 fML_31] := by rw [efML_31]; exact hD
      obtain ⟨v32, ev32⟩ : ∃ y : Int32, y = x1 + (1 : Int32) := ⟨_, rfl⟩
      have h := h v32 ev32
      refine lv_iinc (v := v32) (lv' := [(1, .int v32), (0, .ref aM)]) hx hb dX3_layLeads_32 hl (k := 1) rfl (by rw [ev32]; rfl) (by decide) rfl (fun ls hl => ?_)
      refine lv_goto (tgt := 9) hx hb dX3_layLeads_35 (by decide) ?_
      exact h H locs ls hP hD hS (lv_sub hl [1, 0] rfl)
  unfold wp_X3_layLeads at h
  intro H locs ls hP hD hS hl
  refine lv_aload_n hx hb dX3_layLeads_0 rfl (lv_at hl 0 rfl) ?_
  refine va_get (D := (dC, dI)) (ci := 3) (v := .ref aML) (C := RX3) (T := TX3) (N := 9) hx hb hts in_X3 hown hK hP 0 rfl rfl 2 (by decide) k_13 (fun _ h9 => h9) rfl dX3_layLeads_1 ?_
  refine lv_iconst (v := 0) hx hb dX3_layLeads_4 (by decide) ?_
  refine lv_lconst (v := 0) hx hb dX3_layLeads_5 (by decide) ?_
  refine va_last (D := (dC, dI)) hx hb hK hP hD hS 2 1 rfl rfl h.1 dX3_layLeads_6 (fun H locs hP hD hS => ?_)
  obtain ⟨fML_6, efML_6⟩ : ∃ y, y = vp_updL fML (0 : Int32).toNatClampNeg (0 : Int64) := ⟨_, rfl⟩
  have h := h.2 fML_6 efML_6
  have hP : va_P (dC, dI) vwCl [oM aM aMM aML aMY aMT aMR aMB aMN mk mp, aI aMM cZ 36 fMM, aJ aML cJ 61 fML_6] H := by rw [efML_6]; exact hP
  have hD : va_D A [oM aM aMM aML aMY aMT aMR aMB aMN mk mp, aI aMM cZ 36 fMM, aJ aML cJ 61 fML_6] := by rw [efML_6]; exact hD
  refine lv_iconst (v := 0) hx hb dX3_layLeads_7 (by decide) ?_
  refine lv_istore_n (lv' := [(1, .int (0 : Int32)), (0, .ref aM)]) hx hb dX3_layLeads_8 rfl hl (by decide) rfl (fun ls hl => ?_)
  exact B9 _ _ h H locs ls hP hD hS (lv_sub hl [1, 0] rfl)
set_option maxHeartbeats 4000000 in
set_option maxRecDepth 100000 in
theorem c_X3_layLeads {l : Launch} {dC : Nat → ClassId} {dI : Nat → Nat → Nat} {cI cJ cZ : ClassId} {aM aMM aML aMY aMT aMR aMB aMN : Nat} {mk : Int32} {mp : Int32} {fMM : (Nat → Int32)} {fML : (Nat → Int64)}  {post : (Nat → Int64) → Prop} (h : wp_X3_layLeads  mk mp fMM fML post) : ∀ sz, Met l yX3_layLeads wsX3_layLeads rm_X3_layLeads (mP (dC, dI) (mTy cI cJ cZ) [.ref aM] [oM aM aMM aML aMY aMT aMR aMB aMN mk mp, aI aMM cZ 36 fMM, aJ aML cJ 61 fML] sz) (va_Qv (fun (u : (Nat → Int64)) => post u) (mB (dC, dI) (va_A [oM aM aMM aML aMY aMT aMR aMB aMN mk mp, aI aMM cZ 36 fMM, aJ aML cJ 61 fML] sz) (fun u => [oM aM aMM aML aMY aMT aMR aMB aMN mk mp, aI aMM cZ 36 fMM, aJ aML cJ 61 u])) (va_A [oM aM aMM aML aMY aMT aMR aMB aMN mk mp, aI aMM cZ 36 fMM, aJ aML cJ 61 fML] sz)) 0 0 (va_A [oM aM aMM aML aMY aMT aMR aMB aMN mk mp, aI aMM cZ 36 fMM, aJ aML cJ 61 fML] sz) := by
  intro sz
  refine Met.ofW (cc := cX3_layLeads) (maxL := 3) (ret := none) (by decide) rfl ?_
  intro p e s m args below meth c s₁ B hml hv
  obtain ⟨rfl, hsz, hP, hK, hD0⟩ := hv
  have hlocks := B.notSynchronized
  subst hsz
  have hD := hD0.self (sz := s.heap.size)
  have hl := lv_entry ([.ref aM]) (n := 3) (Nat.le_of_ble_eq_true rfl)
  rw [lg_entry_eq]
  exact k_X3_layLeads B.exec B.bytes hml (findClass_of_methodNamed B.named) (atoms_spec (ws := wsX3_layLeads) B.pre) hK (fun q hq => Or.inr hq) (fun fML' H locs ls pc hd hp hP hD hS => W.vret B.exec B.bytes B.returns (fun t ht hW => ⟨⟨fML', rfl, hp, by rw [ht]; exact hP, hD⟩, hS.F ht⟩) hS.2.2 hd) h s.heap [] _ hP hD va_S.rf hl

def wp_X3_isWalk (x1 : Int32) (x2 : Int32) (x3 : Int32) (mk : Int32) (mp : Int32) (fML : (Nat → Int64)) (post : Int32 → Prop) : Prop := (vp_in x3 61 ∧ ((¬ (lg_cmp (((fML x3.toNatClampNeg) >>> (((((6 : Int32) * x1) + x2) : Int32).toInt64 &&& 63)) &&& (1 : Int64)) (1 : Int64)) = (0 : Int32) → post (0 : Int32)) ∧ ((lg_cmp (((fML x3.toNatClampNeg) >>> (((((6 : Int32) * x1) + x2) : Int32).toInt64 &&& 63)) &&& (1 : Int64)) (1 : Int64)) = (0 : Int32) → post (1 : Int32))))
abbrev rm_X3_isWalk : Room := { frames := 0, cells := 0, slots := 0, locals := 0 }
theorem hv_X3_isWalk : yX3_isWalk.cls = RX3 ∧ yX3_isWalk.cls ≠ "java/lang/invoke/MethodHandle" ∧ yX3_isWalk.cls ≠ "java/lang/invoke/VarHandle" ∧ (parseMethodDescriptor yX3_isWalk.desc).map (fun d => d.parameters.length) = some 3 := by decide +kernel
set_option maxHeartbeats 4000000 in
set_option maxRecDepth 100000 in
theorem k_X3_isWalk {p : Program} {l : Launch} {e : Env} {s : State} {m : MethodId} {args : Array Value} {below : List Frame} {meth : Method} {c : Code} {Q : State → Prop} {A : Nat → Prop} {dC : Nat → ClassId} {dI : Nat → Nat → Nat} {cI cJ cZ : ClassId} (hx : p.tables.exec = Jvm.exec) (hb : c.code = cX3_isWalk) (hml : c.maxLocals = 4) (hown : s.vm.findClass RX3 = some m.cls) (hts : ∀ w ∈ wsX3_isWalk, w.before args s = true) (hK : va_K (dC, dI) vwCl (mTy cI cJ cZ) s) (hA : ∀ q, s.heap.size ≤ q → A q) {aM aMM aML aMY aMT aMR aMB aMN : Nat} {mk : Int32} {mp : Int32} {fML : (Nat → Int64)} {x1 : Int32} {x2 : Int32} {x3 : Int32} {post : Int32 → Prop} (ret : ∀ (r : Int32) (H : Heap) (locs : List Loc) (ls : Array Slot) (pc : Nat), decode cX3_isWalk pc = .ok (.ireturn, 1) → (r = 0 ∨ r = 1) → post r → va_P (dC, dI) vwCl [oM aM aMM aML aMY aMT aMR aMB aMN mk mp, aJ aML cJ 61 fML] H → va_D A [oM aM aMM aML aMY aMT aMR aMB aMN mk mp, aJ aML cJ 61 fML] → va_S A s.heap H locs → W p l e rm_X3_isWalk s m args below meth c H locs 0 0 Q (F0 m pc ls [.int r])) (h : wp_X3_isWalk x1 x2 x3 mk mp fML post) : mW p l e rm_X3_isWalk s m args below meth c 0 0 Q A (dC, dI) 4 [oM aM aMM aML aMY aMT aMR aMB aMN mk mp, aJ aML cJ 61 fML] [(0, .ref aM), (1, .int x1), (2, .int x2), (3, .int x3)] 0 [] := by
  have in_X3 : ∀ w ∈ wsX30, w ∈ wsX3_isWalk := fun w hw => List.mem_cons_of_mem _ (List.mem_append_right _ hw)
  have k_13 := hts (.fieldLink RX3 13 "RingTasksModel" "leads" "[J") (List.mem_of_getElem? (i := 1) rfl)
  unfold wp_X3_isWalk at h
  intro H locs ls hP hD hS hl
  refine lv_aload_n hx hb dX3_isWalk_0 rfl (lv_at hl 0 rfl) ?_
  refine va_get (D := (dC, dI)) (ci := 3) (v := .ref aML) (C := RX3) (T := TX3) (N := 9) hx hb hts in_X3 hown hK hP 0 rfl rfl 2 (by decide) k_13 (fun _ h9 => h9) rfl dX3_isWalk_1 ?_
  refine lv_iload_n hx hb dX3_isWalk_4 rfl (lv_at hl 3 rfl) ?_
  refine va_lald (D := (dC, dI)) hx hb hK hP 1 1 rfl rfl h.1 dX3_isWalk_5 ?_
  have h := h.2
  refine lv_bipush (v := 6) hx hb dX3_isWalk_6 (by decide) ?_
  refine lv_iload_n hx hb dX3_isWalk_8 rfl (lv_at hl 1 rfl) ?_
  refine lv_imul hx hb dX3_isWalk_9 ?_
  refine lv_iload_n hx hb dX3_isWalk_10 rfl (lv_at hl 2 rfl) ?_
  refine lv_iadd hx hb dX3_isWalk_11 ?_
  refine lv_lshr hx hb dX3_isWalk_12 rfl ?_
  refine lv_lconst (v := 1) hx hb dX3_isWalk_13 (by decide) ?_
  refine lv_land hx hb dX3_isWalk_14 ?_
  refine lv_lconst (v := 1) hx hb dX3_isWalk_15 (by decide) ?_
  refine W.lcmp hx hb dX3_isWalk_16 ?_
  refine lv_if_ne (tgt := 24) hx hb dX3_isWalk_17 (by decide) (fun q17 => ?_) (fun q17 => ?_)
  · have h := h.1 q17
    refine lv_iconst (v := 0) hx hb dX3_isWalk_24 (by decide) ?_
    exact ret _  H locs ls _ dX3_isWalk_25 (Or.inl rfl) h hP hD hS
  · have h := h.2 q17
    refine lv_iconst (v := 1) hx hb dX3_isWalk_20 (by decide) ?_
    refine lv_goto (tgt := 25) hx hb dX3_isWalk_21 (by decide) ?_
    exact ret _  H locs ls _ dX3_isWalk_25 (Or.inr rfl) h hP hD hS
set_option maxHeartbeats 4000000 in
set_option maxRecDepth 100000 in
theorem c_X3_isWalk {l : Launch} {dC : Nat → ClassId} {dI : Nat → Nat → Nat} {cI cJ cZ : ClassId} {aM aMM aML aMY aMT aMR aMB aMN : Nat} {mk : Int32} {mp : Int32} {fML : (Nat → Int64)} {x1 : Int32} {x2 : Int32} {x3 : Int32} {post : Int32 → Prop} (h : wp_X3_isWalk x1 x2 x3 mk mp fML post) : ∀ sz, Met l yX3_isWalk wsX3_isWalk rm_X3_isWalk (mP (dC, dI) (mTy cI cJ cZ) [.ref aM, .int x1, .int x2, .int x3] [oM aM aMM aML aMY aMT aMR aMB aMN mk mp, aJ aML cJ 61 fML] sz) (va_Qi (fun (r : Int32) (u : Unit) => post r ) (mB (dC, dI) (va_A [oM aM aMM aML aMY aMT aMR aMB aMN mk mp, aJ aML cJ 61 fML] sz) (fun u => [oM aM aMM aML aMY aMT aMR aMB aMN mk mp, aJ aML cJ 61 fML])) (va_A [oM aM aMM aML aMY aMT aMR aMB aMN mk mp, aJ aML cJ 61 fML] sz)) 0 0 (va_A [oM aM aMM aML aMY aMT aMR aMB aMN mk mp, aJ aML cJ 61 fML] sz) := by
  intro sz
  refine Met.ofW (cc := cX3_isWalk) (maxL := 4) (ret := (some .boolean)) (by decide) rfl ?_
  intro p e s m args below meth c s₁ B hml hv
  obtain ⟨rfl, hsz, hP, hK, hD0⟩ := hv
  have hlocks := B.notSynchronized
  subst hsz
  have hD := hD0.self (sz := s.heap.size)
  have hl := lv_entry ([.ref aM, .int x1, .int x2, .int x3]) (n := 4) (Nat.le_of_ble_eq_true rfl)
  rw [lg_entry_eq]
  exact k_X3_isWalk B.exec B.bytes hml (findClass_of_methodNamed B.named) (atoms_spec (ws := wsX3_isWalk) B.pre) hK (fun q hq => Or.inr hq) (fun r H locs ls pc hd hz hp hP hD hS => W.zret B.exec B.bytes B.returns (m_bz hz) (fun t ht hW => ⟨⟨r, (), rfl, hp, by rw [ht]; exact hP, hD⟩, hS.F ht⟩) hS.2.2 hd) h s.heap [] _ hP hD va_S.rf hl

def wp_X3_cut (x0 : Int64)  (post : Int64 → Prop) : Prop := (((lg_cmp x0 (1000000000000000000 : Int64)) ≤ (0 : Int32) → post x0) ∧ (¬ (lg_cmp x0 (1000000000000000000 : Int64)) ≤ (0 : Int32) → post (1000000000000000000 : Int64)))
abbrev rm_X3_cut : Room := { frames := 0, cells := 0, slots := 0, locals := 0 }
theorem hv_X3_cut : yX3_cut.cls ≠ "java/lang/invoke/MethodHandle" ∧ yX3_cut.cls ≠ "java/lang/invoke/VarHandle" ∧ (parseMethodDescriptor yX3_cut.desc).map (fun d => d.parameters.length) = some 1 := by decide +kernel
set_option maxHeartbeats 4000000 in
set_option maxRecDepth 100000 in
theorem k_X3_cut {p : Program} {l : Launch} {e : Env} {s : State} {m : MethodId} {args : Array Value} {below : List Frame} {meth : Method} {c : Code} {Q : State → Prop} {A : Nat → Prop} {dC : Nat → ClassId} {dI : Nat → Nat → Nat} {cI cJ cZ : ClassId} (hx : p.tables.exec = Jvm.exec) (hb : c.code = cX3_cut) (hml : c.maxLocals = 2) (hown : s.vm.findClass RX3 = some m.cls) (hts : ∀ w ∈ wsX3_cut, w.before args s = true) (hK : va_K (dC, dI) vwCl (mTy cI cJ cZ) s) (hA : ∀ q, s.heap.size ≤ q → A q)  {x0 : Int64} {post : Int64 → Prop} (ret : ∀ (r : Int64) (H : Heap) (locs : List Loc) (ls : Array Slot) (pc : Nat), decode cX3_cut pc = .ok (.lreturn, 1) → post r → va_P (dC, dI) vwCl [] H → va_D A [] → va_S A s.heap H locs → W p l e rm_X3_cut s m args below meth c H locs 0 0 Q (F0 m pc ls [.long r])) (h : wp_X3_cut x0  post) : mW p l e rm_X3_cut s m args below meth c 0 0 Q A (dC, dI) 2 [] [(0, .long x0)] 0 [] := by
  have k_58 := hts (.constantLong RX3 58 (1000000000000000000)) (List.mem_of_getElem? (i := 1) rfl)
  unfold wp_X3_cut at h
  intro H locs ls hP hD hS hl
  refine lv_lload_n hx hb dX3_cut_0 rfl (lv_at hl 0 rfl) ?_
  refine lv_ldc2 (v := 1000000000000000000) hx hb hown k_58 dX3_cut_1 ?_
  refine W.lcmp hx hb dX3_cut_4 ?_
  refine lv_if_le (tgt := 14) hx hb dX3_cut_5 (by decide) (fun q5 => ?_) (fun q5 => ?_)
  · have h := h.1 q5
    refine lv_lload_n hx hb dX3_cut_14 rfl (lv_at hl 0 rfl) ?_
    exact ret _  H locs ls _ dX3_cut_15 h hP hD hS
  · have h := h.2 q5
    refine lv_ldc2 (v := 1000000000000000000) hx hb hown k_58 dX3_cut_8 ?_
    refine lv_goto (tgt := 15) hx hb dX3_cut_11 (by decide) ?_
    exact ret _  H locs ls _ dX3_cut_15 h hP hD hS
set_option maxHeartbeats 4000000 in
set_option maxRecDepth 100000 in
theorem c_X3_cut {l : Launch} {dC : Nat → ClassId} {dI : Nat → Nat → Nat} {cI cJ cZ : ClassId}  {x0 : Int64} {post : Int64 → Prop} (h : wp_X3_cut x0  post) : ∀ sz, Met l yX3_cut wsX3_cut rm_X3_cut (mP (dC, dI) (mTy cI cJ cZ) [.long x0] [] sz) (va_Ql (fun (r : Int64) (u : Unit) => post r ) (mB (dC, dI) (va_A [] sz) (fun u => [])) (va_A [] sz)) 0 0 (va_A [] sz) := by
  intro sz
  refine Met.ofW (cc := cX3_cut) (maxL := 2) (ret := (some .long)) (by decide) rfl ?_
  intro p e s m args below meth c s₁ B hml hv
  obtain ⟨rfl, hsz, hP, hK, hD0⟩ := hv
  have hlocks := B.notSynchronized
  subst hsz
  have hD := hD0.self (sz := s.heap.size)
  have hl := lv_entry ([.long x0]) (n := 2) (Nat.le_of_ble_eq_true rfl)
  rw [lg_entry_eq]
  exact k_X3_cut B.exec B.bytes hml (findClass_of_methodNamed B.named) (atoms_spec (ws := wsX3_cut) B.pre) hK (fun q hq => Or.inr hq) (fun r H locs ls pc hd hp hP hD hS => W.lret B.exec B.bytes B.returns (fun t ht hW => ⟨⟨r, (), rfl, hp, by rw [ht]; exact hP, hD⟩, hS.F ht⟩) hS.2.2 hd) h s.heap [] _ hP hD va_S.rf hl

def wp_X3_layMany_b131 (x2 : Int32) (x3 : Int32) (x4 : Int32) (mk : Int32) (mp : Int32) (fMM : (Nat → Int32)) (fMY : (Nat → Int64)) (fMT : (Nat → Int64)) (post : (Nat → Int64) → (Nat → Int64) → Prop) (P32 : Int32 → (Nat → Int64) → (Nat → Int64) → Prop) : Prop := ∀ P131 : Int32 → (Nat → Int64) → Prop, (∀ (x4 : Int32) (fMY : (Nat → Int64)), (((6 : Int32) ≤ x4 → (∀ v158 : Int32, v158 = x3 + (1 : Int32) → P32 v158 fMY fMT)) ∧ (¬ (6 : Int32) ≤ x4 → (vp_in x4 6 ∧ (vp_in x4 6 ∧ (∀ fMY_151 : (Nat → Int64), fMY_151 = vp_updL fMY x4.toNatClampNeg (fMT x4.toNatClampNeg) → (∀ v152 : Int32, v152 = x4 + (1 : Int32) → P131 v152 fMY_151)))))) → P131 x4 fMY) → P131 x4 fMY
def wp_X3_layMany_b58 (x2 : Int32) (x3 : Int32) (x4 : Int32) (x5 : Int32) (mk : Int32) (mp : Int32) (fMM : (Nat → Int32)) (fMY : (Nat → Int64)) (fMT : (Nat → Int64)) (post : (Nat → Int64) → (Nat → Int64) → Prop) (P32 : Int32 → (Nat → Int64) → (Nat → Int64) → Prop) (P40 : Int32 → (Nat → Int64) → Prop) : Prop := ∀ P58 : Int32 → (Nat → Int64) → Prop, (∀ (x5 : Int32) (fMT : (Nat → Int64)), (((6 : Int32) ≤ x5 → (∀ v122 : Int32, v122 = x4 + (1 : Int32) → P40 v122 fMT)) ∧ (¬ (6 : Int32) ≤ x5 → (vp_in (((6 : Int32) * x5) + x4) 36 ∧ (((fMM (((6 : Int32) * x5) + x4).toNatClampNeg) = (0 : Int32) → (vp_in x4 6 ∧ (vp_in x4 6 ∧ (∀ fMT_115 : (Nat → Int64), fMT_115 = vp_updL fMT x4.toNatClampNeg (fMT x4.toNatClampNeg) → (∀ v116 : Int32, v116 = x5 + (1 : Int32) → P58 v116 fMT_115))))) ∧ (¬ (fMM (((6 : Int32) * x5) + x4).toNatClampNeg) = (0 : Int32) → (vp_in x4 6 ∧ (vp_in x5 6 ∧ wp_X3_cut ((fMT x4.toNatClampNeg) + (fMY x5.toNatClampNeg)) (fun (r102 : Int64) => (vp_in x4 6 ∧ (∀ fMT_115 : (Nat → Int64), fMT_115 = vp_updL fMT x4.toNatClampNeg r102 → (∀ v116 : Int32, v116 = x5 + (1 : Int32) → P58 v116 fMT_115))))))))))) → P58 x5 fMT) → P58 x5 fMT
def wp_X3_layMany_b40 (x2 : Int32) (x3 : Int32) (x4 : Int32) (mk : Int32) (mp : Int32) (fMM : (Nat → Int32)) (fMY : (Nat → Int64)) (fMT : (Nat → Int64)) (post : (Nat → Int64) → (Nat → Int64) → Prop) (P32 : Int32 → (Nat → Int64) → (Nat → Int64) → Prop) : Prop := ∀ P40 : Int32 → (Nat → Int64) → Prop, (∀ (x4 : Int32) (fMT : (Nat → Int64)), (((6 : Int32) ≤ x4 → wp_X3_layMany_b131 x2 x3 (0 : Int32) mk mp fMM fMY fMT post P32) ∧ (¬ (6 : Int32) ≤ x4 → (vp_in x4 6 ∧ (∀ fMT_54 : (Nat → Int64), fMT_54 = vp_updL fMT x4.toNatClampNeg (0 : Int64) → wp_X3_layMany_b58 x2 x3 x4 (0 : Int32) mk mp fMM fMY fMT_54 post P32 P40)))) → P40 x4 fMT) → P40 x4 fMT
def wp_X3_layMany_b32 (x2 : Int32) (x3 : Int32) (mk : Int32) (mp : Int32) (fMM : (Nat → Int32)) (fMY : (Nat → Int64)) (fMT : (Nat → Int64)) (post : (Nat → Int64) → (Nat → Int64) → Prop)  : Prop := ∀ P32 : Int32 → (Nat → Int64) → (Nat → Int64) → Prop, (∀ (x3 : Int32) (fMY : (Nat → Int64)) (fMT : (Nat → Int64)), ((x2 ≤ x3 → post fMY fMT) ∧ (¬ x2 ≤ x3 → wp_X3_layMany_b40 x2 x3 (0 : Int32) mk mp fMM fMY fMT post P32)) → P32 x3 fMY fMT) → P32 x3 fMY fMT
def wp_X3_layMany_b2 (x1 : Int32) (x2 : Int32) (x3 : Int32) (mk : Int32) (mp : Int32) (fMM : (Nat → Int32)) (fMY : (Nat → Int64)) (fMT : (Nat → Int64)) (post : (Nat → Int64) → (Nat → Int64) → Prop)  : Prop := ∀ P2 : Int32 → (Nat → Int64) → Prop, (∀ (x3 : Int32) (fMY : (Nat → Int64)), (((6 : Int32) ≤ x3 → wp_X3_layMany_b32 x2 (0 : Int32) mk mp fMM fMY fMT post) ∧ (¬ (6 : Int32) ≤ x3 → ((¬ x3 = x1 → (vp_in x3 6 ∧ (∀ fMY_23 : (Nat → Int64), fMY_23 = vp_updL fMY x3.toNatClampNeg (0 : Int64) → (∀ v24 : Int32, v24 = x3 + (1 : Int32) → P2 v24 fMY_23)))) ∧ (x3 = x1 → (vp_in x3 6 ∧ (∀ fMY_23 : (Nat → Int64), fMY_23 = vp_updL fMY x3.toNatClampNeg (1 : Int64) → (∀ v24 : Int32, v24 = x3 + (1 : Int32) → P2 v24 fMY_23))))))) → P2 x3 fMY) → P2 x3 fMY
def wp_X3_layMany (x1 : Int32) (x2 : Int32) (mk : Int32) (mp : Int32) (fMM : (Nat → Int32)) (fMY : (Nat → Int64)) (fMT : (Nat → Int64)) (post : (Nat → Int64) → (Nat → Int64) → Prop) : Prop := wp_X3_layMany_b2 x1 x2 (0 : Int32) mk mp fMM fMY fMT post
abbrev rm_X3_layMany : Room := { frames := 1, cells := 0, slots := 0, locals := 21 }
theorem hv_X3_layMany : yX3_layMany.cls = RX3 ∧ yX3_layMany.cls ≠ "java/lang/invoke/MethodHandle" ∧ yX3_layMany.cls ≠ "java/lang/invoke/VarHandle" ∧ (parseMethodDescriptor yX3_layMany.desc).map (fun d => d.parameters.length) = some 2 := by decide +kernel
set_option maxHeartbeats 4000000 in
set_option maxRecDepth 100000 in
theorem k_X3_layMany {p : Program} {l : Launch} {e : Env} {s : State} {m : MethodId} {args : Array Value} {below : List Frame} {meth : Method} {c : Code} {Q : State → Prop} {A : Nat → Prop} {dC : Nat → ClassId} {dI : Nat → Nat → Nat} {cI cJ cZ : ClassId} (hx : p.tables.exec = Jvm.exec) (hb : c.code = cX3_layMany) (hml : c.maxLocals = 6) (hown : s.vm.findClass RX3 = some m.cls) (hts : ∀ w ∈ wsX3_layMany, w.before args s = true) (hK : va_K (dC, dI) vwCl (mTy cI cJ cZ) s) (hA : ∀ q, s.heap.size ≤ q → A q) {aM aMM aML aMY aMT aMR aMB aMN : Nat} {mk : Int32} {mp : Int32} {fMM : (Nat → Int32)} {fMY : (Nat → Int64)} {fMT : (Nat → Int64)} {x1 : Int32} {x2 : Int32} {post : (Nat → Int64) → (Nat → Int64) → Prop} (ret : ∀ (fMY' : (Nat → Int64)) (fMT' : (Nat → Int64)) (H : Heap) (locs : List Loc) (ls : Array Slot) (pc : Nat), decode cX3_layMany pc = .ok (.return_, 1) → post fMY' fMT' → va_P (dC, dI) vwCl [oM aM aMM aML aMY aMT aMR aMB aMN mk mp, aI aMM cZ 36 fMM, aJ aMY cJ 6 fMY', aJ aMT cJ 6 fMT'] H → va_D A [oM aM aMM aML aMY aMT aMR aMB aMN mk mp, aI aMM cZ 36 fMM, aJ aMY cJ 6 fMY', aJ aMT cJ 6 fMT'] → va_S A s.heap H locs → W p l e rm_X3_layMany s m args below meth c H locs 0 0 Q (F0 m pc ls [])) (h : wp_X3_layMany x1 x2 mk mp fMM fMY fMT post) : mW p l e rm_X3_layMany s m args below meth c 0 0 Q A (dC, dI) 6 [oM aM aMM aML aMY aMT aMR aMB aMN mk mp, aI aMM cZ 36 fMM, aJ aMY cJ 6 fMY, aJ aMT cJ 6 fMT] [(0, .ref aM), (1, .int x1), (2, .int x2)] 0 [] := by
  have in_X3 : ∀ w ∈ wsX30, w ∈ wsX3_layMany := fun w hw => List.mem_cons_of_mem _ (List.mem_append_right _ hw)
  have k_17 := hts (.fieldLink RX3 17 "RingTasksModel" "many" "[J") (List.mem_of_getElem? (i := 1) rfl)
  have k_20 := hts (.fieldLink RX3 20 "RingTasksModel" "then" "[J") (List.mem_of_getElem? (i := 2) rfl)
  have k_7 := hts (.fieldLink RX3 7 "RingTasksModel" "may" "[Z") (List.mem_of_getElem? (i := 3) rfl)
  have B131 : ∀ (x2 : Int32) (x3 : Int32) (x4 : Int32) (fMY : (Nat → Int64)) (fMT : (Nat → Int64)), ∀ (P32 : Int32 → (Nat → Int64) → (Nat → Int64) → Prop) (hP32 : ∀ (x3 : Int32) (fMY : (Nat → Int64)) (fMT : (Nat → Int64)), P32 x3 fMY fMT → mW p l e rm_X3_layMany s m args below meth c 0 0 Q A (dC, dI) 6 [oM aM aMM aML aMY aMT aMR aMB aMN mk mp, aI aMM cZ 36 fMM, aJ aMY cJ 6 fMY, aJ aMT cJ 6 fMT] [(0, .ref aM), (2, .int x2), (3, .int x3)] 32 []), wp_X3_layMany_b131 x2 x3 x4 mk mp fMM fMY fMT post P32 → mW p l e rm_X3_layMany s m args below meth c 0 0 Q A (dC, dI) 6 [oM aM aMM aML aMY aMT aMR aMB aMN mk mp, aI aMM cZ 36 fMM, aJ aMY cJ 6 fMY, aJ aMT cJ 6 fMT] [(0, .ref aM), (2, .int x2), (3, .int x3), (4, .int x4)] 131 [] := by
    intro x2 x3 x4 fMY fMT P32 hP32 h
    unfold wp_X3_layMany_b131 at h
    refine h (fun (x4 : Int32) (fMY : (Nat → Int64)) => mW p l e rm_X3_layMany s m args below meth c 0 0 Q A (dC, dI) 6 [oM aM aMM aML aMY aMT aMR aMB aMN mk mp, aI aMM cZ 36 fMM, aJ aMY cJ 6 fMY, aJ aMT cJ 6 fMT] [(0, .ref aM), (2, .int x2), (3, .int x3), (4, .int x4)] 131 []) ?_
    intro x4 fMY h
    intro H locs ls hP hD hS hl
    refine lv_iload hx hb dX3_layMany_131 (lv_at hl 3 rfl) ?_
    refine lv_bipush (v := 6) hx hb dX3_layMany_133 (by decide) ?_
    refine lv_icmp_ge (tgt := 158) hx hb dX3_layMany_135 (by decide) (fun q135 => ?_) (fun q135 => ?_)
    · have h := h.1 q135
      obtain ⟨v158, ev158⟩ : ∃ y : Int32, y = x3 + (1 : Int32) := ⟨_, rfl⟩
      have h := h v158 ev158
      refine lv_iinc (v := v158) (lv' := [(3, .int v158), (0, .ref aM), (2, .int x2), (4, .int x4)]) hx hb dX3_layMany_158 hl (k := 2) rfl (by rw [ev158]; rfl) (by decide) rfl (fun ls hl => ?_)
      refine lv_goto (tgt := 32) hx hb dX3_layMany_161 (by decide) ?_
      exact hP32 _ _ _ h H locs ls hP hD hS (lv_sub hl [1, 2, 0] rfl)
    · have h := h.2 q135
      refine lv_aload_n hx hb dX3_layMany_138 rfl (lv_at hl 0 rfl) ?_
      refine va_get (D := (dC, dI)) (ci := 3) (v := .ref aMY) (C := RX3) (T := TX3) (N := 9) hx hb hts in_X3 hown hK hP 0 rfl rfl 3 (by decide) k_17 (fun _ h9 => h9) rfl dX3_layMany_139 ?_
      refine lv_iload hx hb dX3_layMany_142 (lv_at hl 3 rfl) ?_
      refine lv_aload_n hx hb dX3_layMany_144 rfl (lv_at hl 0 rfl) ?_
      refine va_get (D := (dC, dI)) (ci := 3) (v := .ref aMT) (C := RX3) (T := TX3) (N := 9) hx hb hts in_X3 hown hK hP 0 rfl rfl 4 (by decide) k_20 (fun _ h9 => h9) rfl dX3_layMany_145 ?_
      refine lv_iload hx hb dX3_layMany_148 (lv_at hl 3 rfl) ?_
      refine va_lald (D := (dC, dI)) hx hb hK hP 3 1 rfl rfl h.1 dX3_layMany_150 ?_
      have h := h.2
      refine va_last (D := (dC, dI)) hx hb hK hP hD hS 2 1 rfl rfl h.1 dX3_layMany_151 (fun H locs hP hD hS => ?_)
      obtain ⟨fMY_151, efMY_151⟩ : ∃ y, y = vp_updL fMY x4.toNatClampNeg (fMT x4.toNatClampNeg) := ⟨_, rfl⟩
      have h := h.2 fMY_151 efMY_151
      have hP : va_P (dC, dI) vwCl [oM aM aMM aML aMY aMT aMR aMB aMN mk mp, aI aMM cZ 36 fMM, aJ aMY cJ 6 fMY_151, aJ aMT cJ 6 fMT] H := by rw [efMY_151]; exact hP
      have hD : va_D A [oM aM aMM aML aMY aMT aMR aMB aMN mk mp, aI aMM cZ 36 fMM, aJ aMY cJ 6 fMY_151, aJ aMT cJ 6 fMT] := by rw [efMY_151]; exact hD
      obtain ⟨v152, ev152⟩ : ∃ y : Int32, y = x4 + (1 : Int32) := ⟨_, rfl⟩
      have h := h v152 ev152
      refine lv_iinc (v := v152) (lv' := [(4, .int v152), (0, .ref aM), (2, .int x2), (3, .int x3)]) hx hb dX3_layMany_152 hl (k := 3) rfl (by rw [ev152]; rfl) (by decide) rfl (fun ls hl => ?_)
      refine lv_goto (tgt := 131) hx hb dX3_layMany_155 (by decide) ?_
      exact h H locs ls hP hD hS (lv_sub hl [1, 2, 3, 0] rfl)
  have B58 : ∀ (x2 : Int32) (x3 : Int32) (x4 : Int32) (x5 : Int32) (fMY : (Nat → Int64)) (fMT : (Nat → Int64)), ∀ (P32 : Int32 → (Nat → Int64) → (Nat → Int64) → Prop) (hP32 : ∀ (x3 : Int32) (fMY : (Nat → Int64)) (fMT : (Nat → Int64)), P32 x3 fMY fMT → mW p l e rm_X3_layMany s m args below meth c 0 0 Q A (dC, dI) 6 [oM aM aMM aML aMY aMT aMR aMB aMN mk mp, aI aMM cZ 36 fMM, aJ aMY cJ 6 fMY, aJ aMT cJ 6 fMT] [(0, .ref aM), (2, .int x2), (3, .int x3)] 32 []), ∀ (P40 : Int32 → (Nat → Int64) → Prop) (hP40 : ∀ (x4 : Int32) (fMT : (Nat → Int64)), P40 x4 fMT → mW p l e rm_X3_layMany s m args below meth c 0 0 Q A (dC, dI) 6 [oM aM aMM aML aMY aMT aMR aMB aMN mk mp, aI aMM cZ 36 fMM, aJ aMY cJ 6 fMY, aJ aMT cJ 6 fMT] [(0, .ref aM), (2, .int x2), (3, .int x3), (4, .int x4)] 40 []), wp_X3_layMany_b58 x2 x3 x4 x5 mk mp fMM fMY fMT post P32 P40 → mW p l e rm_X3_layMany s m args below meth c 0 0 Q A (dC, dI) 6 [oM aM aMM aML aMY aMT aMR aMB aMN mk mp, aI aMM cZ 36 fMM, aJ aMY cJ 6 fMY, aJ aMT cJ 6 fMT] [(0, .ref aM), (2, .int x2), (3, .int x3), (4, .int x4), (5, .int x5)] 58 [] := by
    intro x2 x3 x4 x5 fMY fMT P32 hP32 P40 hP40 h
    unfold wp_X3_layMany_b58 at h
    refine h (fun (x5 : Int32) (fMT : (Nat → Int64)) => mW p l e rm_X3_layMany s m args below meth c 0 0 Q A (dC, dI) 6 [oM aM aMM aML aMY aMT aMR aMB aMN mk mp, aI aMM cZ 36 fMM, aJ aMY cJ 6 fMY, aJ aMT cJ 6 fMT] [(0, .ref aM), (2, .int x2), (3, .int x3), (4, .int x4), (5, .int x5)] 58 []) ?_
    intro x5 fMT h
    intro H locs ls hP hD hS hl
    refine lv_iload hx hb dX3_layMany_58 (lv_at hl 4 rfl) ?_
    refine lv_bipush (v := 6) hx hb dX3_layMany_60 (by decide) ?_
    refine lv_icmp_ge (tgt := 122) hx hb dX3_layMany_62 (by decide) (fun q62 => ?_) (fun q62 => ?_)
    · have h := h.1 q62
      obtain ⟨v122, ev122⟩ : ∃ y : Int32, y = x4 + (1 : Int32) := ⟨_, rfl⟩
      have h := h v122 ev122
      refine lv_iinc (v := v122) (lv' := [(4, .int v122), (0, .ref aM), (2, .int x2), (3, .int x3), (5, .int x5)]) hx hb dX3_layMany_122 hl (k := 3) rfl (by rw [ev122]; rfl) (by decide) rfl (fun ls hl => ?_)
      refine lv_goto (tgt := 40) hx hb dX3_layMany_125 (by decide) ?_
      exact hP40 _ _ h H locs ls hP hD hS (lv_sub hl [1, 2, 3, 0] rfl)
    · have h := h.2 q62
      refine lv_aload_n hx hb dX3_layMany_65 rfl (lv_at hl 0 rfl) ?_
      refine va_get (D := (dC, dI)) (ci := 3) (v := .ref aMT) (C := RX3) (T := TX3) (N := 9) hx hb hts in_X3 hown hK hP 0 rfl rfl 4 (by decide) k_20 (fun _ h9 => h9) rfl dX3_layMany_66 ?_
      refine lv_iload hx hb dX3_layMany_69 (lv_at hl 3 rfl) ?_
      refine lv_aload_n hx hb dX3_layMany_71 rfl (lv_at hl 0 rfl) ?_
      refine va_get (D := (dC, dI)) (ci := 3) (v := .ref aMM) (C := RX3) (T := TX3) (N := 9) hx hb hts in_X3 hown hK hP 0 rfl rfl 1 (by decide) k_7 (fun _ h9 => h9) rfl dX3_layMany_72 ?_
      refine lv_bipush (v := 6) hx hb dX3_layMany_75 (by decide) ?_
      refine lv_iload hx hb dX3_layMany_77 (lv_at hl 4 rfl) ?_
      refine lv_imul hx hb dX3_layMany_79 ?_
      refine lv_iload hx hb dX3_layMany_80 (lv_at hl 3 rfl) ?_
      refine lv_iadd hx hb dX3_layMany_82 ?_
      refine va_zald (D := (dC, dI)) hx hb hK hP 1 2 rfl rfl h.1 dX3_layMany_83 ?_
      have h := h.2
      refine lv_if_eq (tgt := 108) hx hb dX3_layMany_84 (by decide) (fun q84 => ?_) (fun q84 => ?_)
      · have h := h.1 q84
        refine lv_aload_n hx hb dX3_layMany_108 rfl (lv_at hl 0 rfl) ?_
        refine va_get (D := (dC, dI)) (ci := 3) (v := .ref aMT) (C := RX3) (T := TX3) (N := 9) hx hb hts in_X3 hown hK hP 0 rfl rfl 4 (by decide) k_20 (fun _ h9 => h9) rfl dX3_layMany_109 ?_
        refine lv_iload hx hb dX3_layMany_112 (lv_at hl 3 rfl) ?_
        refine va_lald (D := (dC, dI)) hx hb hK hP 3 1 rfl rfl h.1 dX3_layMany_114 ?_
        have h := h.2
        refine va_last (D := (dC, dI)) hx hb hK hP hD hS 3 1 rfl rfl h.1 dX3_layMany_115 (fun H locs hP hD hS => ?_)
        obtain ⟨fMT_115, efMT_115⟩ : ∃ y, y = vp_updL fMT x4.toNatClampNeg (fMT x4.toNatClampNeg) := ⟨_, rfl⟩
        have h := h.2 fMT_115 efMT_115
        have hP : va_P (dC, dI) vwCl [oM aM aMM aML aMY aMT aMR aMB aMN mk mp, aI aMM cZ 36 fMM, aJ aMY cJ 6 fMY, aJ aMT cJ 6 fMT_115] H := by rw [efMT_115]; exact hP
        have hD : va_D A [oM aM aMM aML aMY aMT aMR aMB aMN mk mp, aI aMM cZ 36 fMM, aJ aMY cJ 6 fMY, aJ aMT cJ 6 fMT_115] := by rw [efMT_115]; exact hD
        obtain ⟨v116, ev116⟩ : ∃ y : Int32, y = x5 + (1 : Int32) := ⟨_, rfl⟩
        have h := h v116 ev116
        refine lv_iinc (v := v116) (lv' := [(5, .int v116), (0, .ref aM), (2, .int x2), (3, .int x3), (4, .int x4)]) hx hb dX3_layMany_116 hl (k := 4) rfl (by rw [ev116]; rfl) (by decide) rfl (fun ls hl => ?_)
        refine lv_goto (tgt := 58) hx hb dX3_layMany_119 (by decide) ?_
        exact h H locs ls hP hD hS (lv_sub hl [1, 2, 3, 4, 0] rfl)
      · have h := h.2 q84
        refine lv_aload_n hx hb dX3_layMany_87 rfl (lv_at hl 0 rfl) ?_
        refine va_get (D := (dC, dI)) (ci := 3) (v := .ref aMT) (C := RX3) (T := TX3) (N := 9) hx hb hts in_X3 hown hK hP 0 rfl rfl 4 (by decide) k_20 (fun _ h9 => h9) rfl dX3_layMany_88 ?_
        refine lv_iload hx hb dX3_layMany_91 (lv_at hl 3 rfl) ?_
        refine va_lald (D := (dC, dI)) hx hb hK hP 3 1 rfl rfl h.1 dX3_layMany_93 ?_
        have h := h.2
        refine lv_aload_n hx hb dX3_layMany_94 rfl (lv_at hl 0 rfl) ?_
        refine va_get (D := (dC, dI)) (ci := 3) (v := .ref aMY) (C := RX3) (T := TX3) (N := 9) hx hb hts in_X3 hown hK hP 0 rfl rfl 3 (by decide) k_17 (fun _ h9 => h9) rfl dX3_layMany_95 ?_
        refine lv_iload hx hb dX3_layMany_98 (lv_at hl 4 rfl) ?_
        refine va_lald (D := (dC, dI)) hx hb hK hP 2 1 rfl rfl h.1 dX3_layMany_100 ?_
        have h := h.2
        refine lv_ladd hx hb dX3_layMany_101 ?_
        refine mSl (wr := [oM aM aMM aML aMY aMT aMR aMB aMN mk mp, aI aMM cZ 36 fMM, aJ aMY cJ 6 fMY, aJ aMT cJ 6 fMT]) (As := [.long ((fMT x4.toNatClampNeg) + (fMY x5.toNatClampNeg))]) (rest := [.int x4, .ref aMT]) ⟨hx, hb, hml, hown, hts⟩ (c_X3_cut (l := l) (dC := dC) (dI := dI) (cI := cI) (cJ := cJ) (cZ := cZ)  h) (va_cwS 1 hts gX3_layMany_X3_cut rfl rfl rfl hv_X3_cut ⟨Nat.le_of_ble_eq_true rfl, Nat.le_of_ble_eq_true rfl⟩) hK hP hD hS hA [] [0, 1, 2, 3] rfl rfl rfl rfl (by decide) rfl hl.1 rfl (Nat.le_of_ble_eq_true rfl) ⟨Nat.zero_le _, Nat.zero_le _⟩ dX3_layMany_102 (fun r102 u102 H locs h hP hD hS => ?_)
        have hP : va_P (dC, dI) vwCl [oM aM aMM aML aMY aMT aMR aMB aMN mk mp, aI aMM cZ 36 fMM, aJ aMY cJ 6 fMY, aJ aMT cJ 6 fMT] H := hP.sub [0, 1, 2, 3] rfl
        have hD : va_D A [oM aM aMM aML aMY aMT aMR aMB aMN mk mp, aI aMM cZ 36 fMM, aJ aMY cJ 6 fMY, aJ aMT cJ 6 fMT] := hD.sub [0, 1, 2, 3] rfl rfl
        refine lv_goto (tgt := 115) hx hb dX3_layMany_105 (by decide) ?_
        refine va_last (D := (dC, dI)) hx hb hK hP hD hS 3 1 rfl rfl h.1 dX3_layMany_115 (fun H locs hP hD hS => ?_)
        obtain ⟨fMT_115, efMT_115⟩ : ∃ y, y = vp_updL fMT x4.toNatClampNeg r102 := ⟨_, rfl⟩
        have h := h.2 fMT_115 efMT_115
        have hP : va_P (dC, dI) vwCl [oM aM aMM aML aMY aMT aMR aMB aMN mk mp, aI aMM cZ 36 fMM, aJ aMY cJ 6 fMY, aJ aMT cJ 6 fMT_115] H := by rw [efMT_115]; exact hP
        have hD : va_D A [oM aM aMM aML aMY aMT aMR aMB aMN mk mp, aI aMM cZ 36 fMM, aJ aMY cJ 6 fMY, aJ aMT cJ 6 fMT_115] := by rw [efMT_115]; exact hD
        obtain ⟨v116, ev116⟩ : ∃ y : Int32, y = x5 + (1 : Int32) := ⟨_, rfl⟩
        have h := h v116 ev116
        refine lv_iinc (v := v116) (lv' := [(5, .int v116), (0, .ref aM), (2, .int x2), (3, .int x3), (4, .int x4)]) hx hb dX3_layMany_116 hl (k := 4) rfl (by rw [ev116]; rfl) (by decide) rfl (fun ls hl => ?_)
        refine lv_goto (tgt := 58) hx hb dX3_layMany_119 (by decide) ?_
        exact h H locs ls hP hD hS (lv_sub hl [1, 2, 3, 4, 0] rfl)
  have B40 : ∀ (x2 : Int32) (x3 : Int32) (x4 : Int32) (fMY : (Nat → Int64)) (fMT : (Nat → Int64)), ∀ (P32 : Int32 → (Nat → Int64) → (Nat → Int64) → Prop) (hP32 : ∀ (x3 : Int32) (fMY : (Nat → Int64)) (fMT : (Nat → Int64)), P32 x3 fMY fMT → mW p l e rm_X3_layMany s m args below meth c 0 0 Q A (dC, dI) 6 [oM aM aMM aML aMY aMT aMR aMB aMN mk mp, aI aMM cZ 36 fMM, aJ aMY cJ 6 fMY, aJ aMT cJ 6 fMT] [(0, .ref aM), (2, .int x2), (3, .int x3)] 32 []), wp_X3_layMany_b40 x2 x3 x4 mk mp fMM fMY fMT post P32 → mW p l e rm_X3_layMany s m args below meth c 0 0 Q A (dC, dI) 6 [oM aM aMM aML aMY aMT aMR aMB aMN mk mp, aI aMM cZ 36 fMM, aJ aMY cJ 6 fMY, aJ aMT cJ 6 fMT] [(0, .ref aM), (2, .int x2), (3, .int x3), (4, .int x4)] 40 [] := by
    intro x2 x3 x4 fMY fMT P32 hP32 h
    unfold wp_X3_layMany_b40 at h
    refine h (fun (x4 : Int32) (fMT : (Nat → Int64)) => mW p l e rm_X3_layMany s m args below meth c 0 0 Q A (dC, dI) 6 [oM aM aMM aML aMY aMT aMR aMB aMN mk mp, aI aMM cZ 36 fMM, aJ aMY cJ 6 fMY, aJ aMT cJ 6 fMT] [(0, .ref aM), (2, .int x2), (3, .int x3), (4, .int x4)] 40 []) ?_
    intro x4 fMT h
    intro H locs ls hP hD hS hl
    refine lv_iload hx hb dX3_layMany_40 (lv_at hl 3 rfl) ?_
    refine lv_bipush (v := 6) hx hb dX3_layMany_42 (by decide) ?_
    refine lv_icmp_ge (tgt := 128) hx hb dX3_layMany_44 (by decide) (fun q44 => ?_) (fun q44 => ?_)
    · have h := h.1 q44
      refine lv_iconst (v := 0) hx hb dX3_layMany_128 (by decide) ?_
      refine lv_istore (lv' := [(4, .int (0 : Int32)), (0, .ref aM), (2, .int x2), (3, .int x3)]) hx hb dX3_layMany_129 hl (by decide) rfl (fun ls hl => ?_)
      exact B131 _ _ _ _ _ _ hP32 h H locs ls hP hD hS (lv_sub hl [1, 2, 3, 0] rfl)
    · have h := h.2 q44
      refine lv_aload_n hx hb dX3_layMany_47 rfl (lv_at hl 0 rfl) ?_
      refine va_get (D := (dC, dI)) (ci := 3) (v := .ref aMT) (C := RX3) (T := TX3) (N := 9) hx hb hts in_X3 hown hK hP 0 rfl rfl 4 (by decide) k_20 (fun _ h9 => h9) rfl dX3_layMany_48 ?_
      refine lv_iload hx hb dX3_layMany_51 (lv_at hl 3 rfl) ?_
      refine lv_lconst (v := 0) hx hb dX3_layMany_53 (by decide) ?_
      refine va_last (D := (dC, dI)) hx hb hK hP hD hS 3 1 rfl rfl h.1 dX3_layMany_54 (fun H locs hP hD hS => ?_)
      obtain ⟨fMT_54, efMT_54⟩ : ∃ y, y = vp_updL fMT x4.toNatClampNeg (0 : Int64) := ⟨_, rfl⟩
      have h := h.2 fMT_54 efMT_54
      have hP : va_P (dC, dI) vwCl [oM aM aMM aML aMY aMT aMR aMB aMN mk mp, aI aMM cZ 36 fMM, aJ aMY cJ 6 fMY, aJ aMT cJ 6 fMT_54] H := by rw [efMT_54]; exact hP
      have hD : va_D A [oM aM aMM aML aMY aMT aMR aMB aMN mk mp, aI aMM cZ 36 fMM, aJ aMY cJ 6 fMY, aJ aMT cJ 6 fMT_54] := by rw [efMT_54]; exact hD
      refine lv_iconst (v := 0) hx hb dX3_layMany_55 (by decide) ?_
      refine lv_istore (lv' := [(5, .int (0 : Int32)), (0, .ref aM), (2, .int x2), (3, .int x3), (4, .int x4)]) hx hb dX3_layMany_56 hl (by decide) rfl (fun ls hl => ?_)
      exact B58 _ _ _ _ _ _ _ hP32 _ (fun _ _ hq => hq) h H locs ls hP hD hS (lv_sub hl [1, 2, 3, 4, 0] rfl)
  have B32 : ∀ (x2 : Int32) (x3 : Int32) (fMY : (Nat → Int64)) (fMT : (Nat → Int64)), wp_X3_layMany_b32 x2 x3 mk mp fMM fMY fMT post → mW p l e rm_X3_layMany s m args below meth c 0 0 Q A (dC, dI) 6 [oM aM aMM aML aMY aMT aMR aMB aMN mk mp, aI aMM cZ 36 fMM, aJ aMY cJ 6 fMY, aJ aMT cJ 6 fMT] [(0, .ref aM), (2, .int x2), (3, .int x3)] 32 [] := by
    intro x2 x3 fMY fMT h
    unfold wp_X3_layMany_b32 at h
    refine h (fun (x3 : Int32) (fMY : (Nat → Int64)) (fMT : (Nat → Int64)) => mW p l e rm_X3_layMany s m args below meth c 0 0 Q A (dC, dI) 6 [oM aM aMM aML aMY aMT aMR aMB aMN mk mp, aI aMM cZ 36 fMM, aJ aMY cJ 6 fMY, aJ aMT cJ 6 fMT] [(0, .ref aM), (2, .int x2), (3, .int x3)] 32 []) ?_
    intro x3 fMY fMT h
    intro H locs ls hP hD hS hl
    refine lv_iload_n hx hb dX3_layMany_32 rfl (lv_at hl 2 rfl) ?_
    refine lv_iload_n hx hb dX3_layMany_33 rfl (lv_at hl 1 rfl) ?_
    refine lv_icmp_ge (tgt := 164) hx hb dX3_layMany_34 (by decide) (fun q34 => ?_) (fun q34 => ?_)
    · have h := h.1 q34
      exact ret _ _ H locs ls _ dX3_layMany_164 h hP hD hS
    · have h := h.2 q34
      refine lv_iconst (v := 0) hx hb dX3_layMany_37 (by decide) ?_
      refine lv_istore (lv' := [(4, .int (0 : Int32)), (0, .ref aM), (2, .int x2), (3, .int x3)]) hx hb dX3_layMany_38 hl (by decide) rfl (fun ls hl => ?_)
      exact B40 _ _ _ _ _ _ (fun _ _ _ hq => hq) h H locs ls hP hD hS (lv_sub hl [1, 2, 3, 0] rfl)
  have B2 : ∀ (x1 : Int32) (x2 : Int32) (x3 : Int32) (fMY : (Nat → Int64)) (fMT : (Nat → Int64)), wp_X3_layMany_b2 x1 x2 x3 mk mp fMM fMY fMT post → mW p l e rm_X3_layMany s m args below meth c 0 0 Q A (dC, dI) 6 [oM aM aMM aML aMY aMT aMR aMB aMN mk mp, aI aMM cZ 36 fMM, aJ aMY cJ 6 fMY, aJ aMT cJ 6 fMT] [(0, .ref aM), (1, .int x1), (2, .int x2), (3, .int x3)] 2 [] := by
    intro x1 x2 x3 fMY fMT h
    unfold wp_X3_layMany_b2 at h
    refine h (fun (x3 : Int32) (fMY : (Nat → Int64)) => mW p l e rm_X3_layMany s m args below meth c 0 0 Q A (dC, dI) 6 [oM aM aMM aML aMY aMT aMR aMB aMN mk mp, aI aMM cZ 36 fMM, aJ aMY cJ 6 fMY, aJ aMT cJ 6 fMT] [(0, .ref aM), (1, .int x1), (2, .int x2), (3, .int x3)] 2 []) ?_
    intro x3 fMY h
    intro H locs ls hP hD hS hl
    refine lv_iload_n hx hb dX3_layMany_2 rfl (lv_at hl 3 rfl) ?_
    refine lv_bipush (v := 6) hx hb dX3_layMany_3 (by decide) ?_
    refine lv_icmp_ge (tgt := 30) hx hb dX3_layMany_5 (by decide) (fun q5 => ?_) (fun q5 => ?_)
    · have h := h.1 q5
      refine lv_iconst (v := 0) hx hb dX3_layMany_30 (by decide) ?_
      refine lv_istore_n (lv' := [(3, .int (0 : Int32)), (0, .ref aM), (1, .int x1), (2, .int x2)]) hx hb dX3_layMany_31 rfl hl (by decide) rfl (fun ls hl => ?_)
      exact B32 _ _ _ _ h H locs ls hP hD hS (lv_sub hl [1, 3, 0] rfl)
    · have h := h.2 q5
      refine lv_aload_n hx hb dX3_layMany_8 rfl (lv_at hl 0 rfl) ?_
      refine va_get (D := (dC, dI)) (ci := 3) (v := .ref aMY) (C := RX3) (T := TX3) (N := 9) hx hb hts in_X3 hown hK hP 0 rfl rfl 3 (by decide) k_17 (fun _ h9 => h9) rfl dX3_layMany_9 ?_
      refine lv_iload_n hx hb dX3_layMany_12 rfl (lv_at hl 3 rfl) ?_
      refine lv_iload_n hx hb dX3_layMany_13 rfl (lv_at hl 3 rfl) ?_
      refine lv_iload_n hx hb dX3_layMany_14 rfl (lv_at hl 1 rfl) ?_
      refine lv_icmp_ne (tgt := 22) hx hb dX3_layMany_15 (by decide) (fun q15 => ?_) (fun q15 => ?_)
      · have h := h.1 q15
        refine lv_lconst (v := 0) hx hb dX3_layMany_22 (by decide) ?_
        refine va_last (D := (dC, dI)) hx hb hK hP hD hS 2 1 rfl rfl h.1 dX3_layMany_23 (fun H locs hP hD hS => ?_)
        obtain ⟨fMY_23, efMY_23⟩ : ∃ y, y = vp_updL fMY x3.toNatClampNeg (0 : Int64) := ⟨_, rfl⟩
        have h := h.2 fMY_23 efMY_23
        have hP : va_P (dC, dI) vwCl [oM aM aMM aML aMY aMT aMR aMB aMN mk mp, aI aMM cZ 36 fMM, aJ aMY cJ 6 fMY_23, aJ aMT cJ 6 fMT] H := by rw [efMY_23]; exact hP
        have hD : va_D A [oM aM aMM aML aMY aMT aMR aMB aMN mk mp, aI aMM cZ 36 fMM, aJ aMY cJ 6 fMY_23, aJ aMT cJ 6 fMT] := by rw [efMY_23]; exact hD
        obtain ⟨v24, ev24⟩ : ∃ y : Int32, y = x3 + (1 : Int32) := ⟨_, rfl⟩
        have h := h v24 ev24
        refine lv_iinc (v := v24) (lv' := [(3, .int v24), (0, .ref aM), (1, .int x1), (2, .int x2)]) hx hb dX3_layMany_24 hl (k := 3) rfl (by rw [ev24]; rfl) (by decide) rfl (fun ls hl => ?_)
        refine lv_goto (tgt := 2) hx hb dX3_layMany_27 (by decide) ?_
        exact h H locs ls hP hD hS (lv_sub hl [1, 2, 3, 0] rfl)
      · have h := h.2 q15
        refine lv_lconst (v := 1) hx hb dX3_layMany_18 (by decide) ?_
        refine lv_goto (tgt := 23) hx hb dX3_layMany_19 (by decide) ?_
        refine va_last (D := (dC, dI)) hx hb hK hP hD hS 2 1 rfl rfl h.1 dX3_layMany_23 (fun H locs hP hD hS => ?_)
        obtain ⟨fMY_23, efMY_23⟩ : ∃ y, y = vp_updL fMY x3.toNatClampNeg (1 : Int64) := ⟨_, rfl⟩
        have h := h.2 fMY_23 efMY_23
        have hP : va_P (dC, dI) vwCl [oM aM aMM aML aMY aMT aMR aMB aMN mk mp, aI aMM cZ 36 fMM, aJ aMY cJ 6 fMY_23, aJ aMT cJ 6 fMT] H := by rw [efMY_23]; exact hP
        have hD : va_D A [oM aM aMM aML aMY aMT aMR aMB aMN mk mp, aI aMM cZ 36 fMM, aJ aMY cJ 6 fMY_23, aJ aMT cJ 6 fMT] := by rw [efMY_23]; exact hD
        obtain ⟨v24, ev24⟩ : ∃ y : Int32, y = x3 + (1 : Int32) := ⟨_, rfl⟩
        have h := h v24 ev24
        refine lv_iinc (v := v24) (lv' := [(3, .int v24), (0, .ref aM), (1, .int x1), (2, .int x2)]) hx hb dX3_layMany_24 hl (k := 3) rfl (by rw [ev24]; rfl) (by decide) rfl (fun ls hl => ?_)
        refine lv_goto (tgt := 2) hx hb dX3_layMany_27 (by decide) ?_
        exact h H locs ls hP hD hS (lv_sub hl [1, 2, 3, 0] rfl)
  unfold wp_X3_layMany at h
  intro H locs ls hP hD hS hl
  refine lv_iconst (v := 0) hx hb dX3_layMany_0 (by decide) ?_
  refine lv_istore_n (lv' := [(3, .int (0 : Int32)), (0, .ref aM), (1, .int x1), (2, .int x2)]) hx hb dX3_layMany_1 rfl hl (by decide) rfl (fun ls hl => ?_)
  exact B2 _ _ _ _ _ h H locs ls hP hD hS (lv_sub hl [1, 2, 3, 0] rfl)
set_option maxHeartbeats 4000000 in
set_option maxRecDepth 100000 in
theorem c_X3_layMany {l : Launch} {dC : Nat → ClassId} {dI : Nat → Nat → Nat} {cI cJ cZ : ClassId} {aM aMM aML aMY aMT aMR aMB aMN : Nat} {mk : Int32} {mp : Int32} {fMM : (Nat → Int32)} {fMY : (Nat → Int64)} {fMT : (Nat → Int64)} {x1 : Int32} {x2 : Int32} {post : (Nat → Int64) → (Nat → Int64) → Prop} (h : wp_X3_layMany x1 x2 mk mp fMM fMY fMT post) : ∀ sz, Met l yX3_layMany wsX3_layMany rm_X3_layMany (mP (dC, dI) (mTy cI cJ cZ) [.ref aM, .int x1, .int x2] [oM aM aMM aML aMY aMT aMR aMB aMN mk mp, aI aMM cZ 36 fMM, aJ aMY cJ 6 fMY, aJ aMT cJ 6 fMT] sz) (va_Qv (fun (u : (Nat → Int64) × (Nat → Int64)) => post (u.1) (u.2)) (mB (dC, dI) (va_A [oM aM aMM aML aMY aMT aMR aMB aMN mk mp, aI aMM cZ 36 fMM, aJ aMY cJ 6 fMY, aJ aMT cJ 6 fMT] sz) (fun u => [oM aM aMM aML aMY aMT aMR aMB aMN mk mp, aI aMM cZ 36 fMM, aJ aMY cJ 6 (u.1), aJ aMT cJ 6 (u.2)])) (va_A [oM aM aMM aML aMY aMT aMR aMB aMN mk mp, aI aMM cZ 36 fMM, aJ aMY cJ 6 fMY, aJ aMT cJ 6 fMT] sz)) 0 0 (va_A [oM aM aMM aML aMY aMT aMR aMB aMN mk mp, aI aMM cZ 36 fMM, aJ aMY cJ 6 fMY, aJ aMT cJ 6 fMT] sz) := by
  intro sz
  refine Met.ofW (cc := cX3_layMany) (maxL := 6) (ret := none) (by decide) rfl ?_
  intro p e s m args below meth c s₁ B hml hv
  obtain ⟨rfl, hsz, hP, hK, hD0⟩ := hv
  have hlocks := B.notSynchronized
  subst hsz
  have hD := hD0.self (sz := s.heap.size)
  have hl := lv_entry ([.ref aM, .int x1, .int x2]) (n := 6) (Nat.le_of_ble_eq_true rfl)
  rw [lg_entry_eq]
  exact k_X3_layMany B.exec B.bytes hml (findClass_of_methodNamed B.named) (atoms_spec (ws := wsX3_layMany) B.pre) hK (fun q hq => Or.inr hq) (fun fMY' fMT' H locs ls pc hd hp hP hD hS => W.vret B.exec B.bytes B.returns (fun t ht hW => ⟨⟨(fMY', fMT'), rfl, hp, by rw [ht]; exact hP, hD⟩, hS.F ht⟩) hS.2.2 hd) h s.heap [] _ hP hD va_S.rf hl

def wp_X3_isRing (x0 : Int32)  (post : Int32 → Prop) : Prop := wp_X3_in x0 (1 : Int32) (60 : Int32) (fun (r4 : Int32) => ((r4 = 0 ∨ r4 = 1) ∧ post r4 ))
abbrev rm_X3_isRing : Room := { frames := 1, cells := 0, slots := 0, locals := 22 }
theorem hv_X3_isRing : yX3_isRing.cls ≠ "java/lang/invoke/MethodHandle" ∧ yX3_isRing.cls ≠ "java/lang/invoke/VarHandle" ∧ (parseMethodDescriptor yX3_isRing.desc).map (fun d => d.parameters.length) = some 1 := by decide +kernel
set_option maxHeartbeats 4000000 in
set_option maxRecDepth 100000 in
theorem k_X3_isRing {p : Program} {l : Launch} {e : Env} {s : State} {m : MethodId} {args : Array Value} {below : List Frame} {meth : Method} {c : Code} {Q : State → Prop} {A : Nat → Prop} {dC : Nat → ClassId} {dI : Nat → Nat → Nat} {cI cJ cZ : ClassId} (hx : p.tables.exec = Jvm.exec) (hb : c.code = cX3_isRing) (hml : c.maxLocals = 1) (hown : s.vm.findClass RX3 = some m.cls) (hts : ∀ w ∈ wsX3_isRing, w.before args s = true) (hK : va_K (dC, dI) vwCl (mTy cI cJ cZ) s) (hA : ∀ q, s.heap.size ≤ q → A q)  {x0 : Int32} {post : Int32 → Prop} (ret : ∀ (r : Int32) (H : Heap) (locs : List Loc) (ls : Array Slot) (pc : Nat), decode cX3_isRing pc = .ok (.ireturn, 1) → (r = 0 ∨ r = 1) → post r → va_P (dC, dI) vwCl [] H → va_D A [] → va_S A s.heap H locs → W p l e rm_X3_isRing s m args below meth c H locs 0 0 Q (F0 m pc ls [.int r])) (h : wp_X3_isRing x0  post) : mW p l e rm_X3_isRing s m args below meth c 0 0 Q A (dC, dI) 1 [] [(0, .int x0)] 0 [] := by
  unfold wp_X3_isRing at h
  intro H locs ls hP hD hS hl
  refine lv_iload_n hx hb dX3_isRing_0 rfl (lv_at hl 0 rfl) ?_
  refine lv_iconst (v := 1) hx hb dX3_isRing_1 (by decide) ?_
  refine lv_bipush (v := 60) hx hb dX3_isRing_2 (by decide) ?_
  refine mSi (wr := []) (As := [.int x0, .int (1 : Int32), .int (60 : Int32)]) (rest := []) ⟨hx, hb, hml, hown, hts⟩ (c_X3_in (l := l) (dC := dC) (dI := dI) (cI := cI) (cJ := cJ) (cZ := cZ)  h) (va_cwS 3 hts gX3_isRing_X3_in rfl rfl rfl hv_X3_in ⟨Nat.le_of_ble_eq_true rfl, Nat.le_of_ble_eq_true rfl⟩) hK hP hD hS hA [] [] rfl rfl rfl rfl (by decide) rfl hl.1 rfl (Nat.le_of_ble_eq_true rfl) ⟨Nat.zero_le _, Nat.zero_le _⟩ dX3_isRing_4 (fun r4 u4 H locs h hP hD hS => ?_)
  have hP : va_P (dC, dI) vwCl [] H := hP.sub [] rfl
  have hD : va_D A [] := hD.sub [] rfl rfl
  exact ret _  H locs ls _ dX3_isRing_7 h.1 h.2 hP hD hS
set_option maxHeartbeats 4000000 in
set_option maxRecDepth 100000 in
theorem c_X3_isRing {l : Launch} {dC : Nat → ClassId} {dI : Nat → Nat → Nat} {cI cJ cZ : ClassId}  {x0 : Int32} {post : Int32 → Prop} (h : wp_X3_isRing x0  post) : ∀ sz, Met l yX3_isRing wsX3_isRing rm_X3_isRing (mP (dC, dI) (mTy cI cJ cZ) [.int x0] [] sz) (va_Qi (fun (r : Int32) (u : Unit) => post r ) (mB (dC, dI) (va_A [] sz) (fun u => [])) (va_A [] sz)) 0 0 (va_A [] sz) := by
  intro sz
  refine Met.ofW (cc := cX3_isRing) (maxL := 1) (ret := (some .boolean)) (by decide) rfl ?_
  intro p e s m args below meth c s₁ B hml hv
  obtain ⟨rfl, hsz, hP, hK, hD0⟩ := hv
  have hlocks := B.notSynchronized
  subst hsz
  have hD := hD0.self (sz := s.heap.size)
  have hl := lv_entry ([.int x0]) (n := 1) (Nat.le_of_ble_eq_true rfl)
  rw [lg_entry_eq]
  exact k_X3_isRing B.exec B.bytes hml (findClass_of_methodNamed B.named) (atoms_spec (ws := wsX3_isRing) B.pre) hK (fun q hq => Or.inr hq) (fun r H locs ls pc hd hz hp hP hD hS => W.zret B.exec B.bytes B.returns (m_bz hz) (fun t ht hW => ⟨⟨r, (), rfl, hp, by rw [ht]; exact hP, hD⟩, hS.F ht⟩) hS.2.2 hd) h s.heap [] _ hP hD va_S.rf hl

def wp_X3_rings_b16 (x1 : Int32) (x2 : Int64) (x4 : Int32) (mk : Int32) (mp : Int32) (fMM : (Nat → Int32)) (fMY : (Nat → Int64)) (fMT : (Nat → Int64)) (post : Int64 → (Nat → Int64) → (Nat → Int64) → Prop)  : Prop := ∀ P16 : Int64 → Int32 → (Nat → Int64) → (Nat → Int64) → Prop, (∀ (x2 : Int64) (x4 : Int32) (fMY : (Nat → Int64)) (fMT : (Nat → Int64)), ((mk ≤ x4 → post x2 fMY fMT) ∧ (¬ mk ≤ x4 → wp_X3_layMany x4 x1 mk mp fMM fMY fMT (fun (fMY_29 : (Nat → Int64)) (fMT_29 : (Nat → Int64)) => (vp_in x4 6 ∧ wp_X3_cut (x2 + (fMY_29 x4.toNatClampNeg)) (fun (r41 : Int64) => (∀ v45 : Int32, v45 = x4 + (1 : Int32) → P16 r41 v45 fMY_29 fMT_29)))))) → P16 x2 x4 fMY fMT) → P16 x2 x4 fMY fMT
def wp_X3_rings (x1 : Int32) (mk : Int32) (mp : Int32) (fMM : (Nat → Int32)) (fMY : (Nat → Int64)) (fMT : (Nat → Int64)) (post : Int64 → (Nat → Int64) → (Nat → Int64) → Prop) : Prop := wp_X3_isRing x1 (fun (r1 : Int32) => ((¬ r1 = (0 : Int32) → wp_X3_rings_b16 x1 (0 : Int64) (0 : Int32) mk mp fMM fMY fMT post) ∧ (r1 = (0 : Int32) → post (-2 : Int64) fMY fMT)))
abbrev rm_X3_rings : Room := { frames := 2, cells := 0, slots := 0, locals := 46 }
theorem hv_X3_rings : yX3_rings.cls = RX3 ∧ yX3_rings.cls ≠ "java/lang/invoke/MethodHandle" ∧ yX3_rings.cls ≠ "java/lang/invoke/VarHandle" ∧ (parseMethodDescriptor yX3_rings.desc).map (fun d => d.parameters.length) = some 1 := by decide +kernel
set_option maxHeartbeats 4000000 in
set_option maxRecDepth 100000 in
theorem k_X3_rings {p : Program} {l : Launch} {e : Env} {s : State} {m : MethodId} {args : Array Value} {below : List Frame} {meth : Method} {c : Code} {Q : State → Prop} {A : Nat → Prop} {dC : Nat → ClassId} {dI : Nat → Nat → Nat} {cI cJ cZ : ClassId} (hx : p.tables.exec = Jvm.exec) (hb : c.code = cX3_rings) (hml : c.maxLocals = 5) (hown : s.vm.findClass RX3 = some m.cls) (hts : ∀ w ∈ wsX3_rings, w.before args s = true) (hK : va_K (dC, dI) vwCl (mTy cI cJ cZ) s) (hA : ∀ q, s.heap.size ≤ q → A q) {aM aMM aML aMY aMT aMR aMB aMN : Nat} {mk : Int32} {mp : Int32} {fMM : (Nat → Int32)} {fMY : (Nat → Int64)} {fMT : (Nat → Int64)} {x1 : Int32} {post : Int64 → (Nat → Int64) → (Nat → Int64) → Prop} (ret : ∀ (r : Int64) (fMY' : (Nat → Int64)) (fMT' : (Nat → Int64)) (H : Heap) (locs : List Loc) (ls : Array Slot) (pc : Nat), decode cX3_rings pc = .ok (.lreturn, 1) → post r fMY' fMT' → va_P (dC, dI) vwCl [oM aM aMM aML aMY aMT aMR aMB aMN mk mp, aI aMM cZ 36 fMM, aJ aMY cJ 6 fMY', aJ aMT cJ 6 fMT'] H → va_D A [oM aM aMM aML aMY aMT aMR aMB aMN mk mp, aI aMM cZ 36 fMM, aJ aMY cJ 6 fMY', aJ aMT cJ 6 fMT'] → va_S A s.heap H locs → W p l e rm_X3_rings s m args below meth c H locs 0 0 Q (F0 m pc ls [.long r])) (h : wp_X3_rings x1 mk mp fMM fMY fMT post) : mW p l e rm_X3_rings s m args below meth c 0 0 Q A (dC, dI) 5 [oM aM aMM aML aMY aMT aMR aMB aMN mk mp, aI aMM cZ 36 fMM, aJ aMY cJ 6 fMY, aJ aMT cJ 6 fMT] [(0, .ref aM), (1, .int x1)] 0 [] := by
  have in_X3 : ∀ w ∈ wsX30, w ∈ wsX3_rings := fun w hw => List.mem_cons_of_mem _ (List.mem_append_right _ hw)
  have k_63 := hts (.constantLong RX3 63 (-2)) (List.mem_of_getElem? (i := 1) rfl)
  have k_17 := hts (.fieldLink RX3 17 "RingTasksModel" "many" "[J") (List.mem_of_getElem? (i := 3) rfl)
  have k_40 := hts (.fieldLink RX3 40 "RingTasksModel" "labels" "I") (List.mem_of_getElem? (i := 2) rfl)
  have B16 : ∀ (x1 : Int32) (x2 : Int64) (x4 : Int32) (fMY : (Nat → Int64)) (fMT : (Nat → Int64)), wp_X3_rings_b16 x1 x2 x4 mk mp fMM fMY fMT post → mW p l e rm_X3_rings s m args below meth c 0 0 Q A (dC, dI) 5 [oM aM aMM aML aMY aMT aMR aMB aMN mk mp, aI aMM cZ 36 fMM, aJ aMY cJ 6 fMY, aJ aMT cJ 6 fMT] [(0, .ref aM), (1, .int x1), (2, .long x2), (4, .int x4)] 16 [] := by
    intro x1 x2 x4 fMY fMT h
    unfold wp_X3_rings_b16 at h
    refine h (fun (x2 : Int64) (x4 : Int32) (fMY : (Nat → Int64)) (fMT : (Nat → Int64)) => mW p l e rm_X3_rings s m args below meth c 0 0 Q A (dC, dI) 5 [oM aM aMM aML aMY aMT aMR aMB aMN mk mp, aI aMM cZ 36 fMM, aJ aMY cJ 6 fMY, aJ aMT cJ 6 fMT] [(0, .ref aM), (1, .int x1), (2, .long x2), (4, .int x4)] 16 []) ?_
    intro x2 x4 fMY fMT h
    intro H locs ls hP hD hS hl
    refine lv_iload hx hb dX3_rings_16 (lv_at hl 3 rfl) ?_
    refine lv_aload_n hx hb dX3_rings_18 rfl (lv_at hl 0 rfl) ?_
    refine va_get (D := (dC, dI)) (ci := 3) (v := .int mk) (C := RX3) (T := TX3) (N := 9) hx hb hts in_X3 hown hK hP 0 rfl rfl 0 (by decide) k_40 (fun _ h9 => h9) rfl dX3_rings_19 ?_
    refine lv_icmp_ge (tgt := 51) hx hb dX3_rings_22 (by decide) (fun q22 => ?_) (fun q22 => ?_)
    · have h := h.1 q22
      refine lv_lload_n hx hb dX3_rings_51 rfl (lv_at hl 2 rfl) ?_
      exact ret _ _ _ H locs ls _ dX3_rings_52 h hP hD hS
    · have h := h.2 q22
      refine lv_aload_n hx hb dX3_rings_25 rfl (lv_at hl 0 rfl) ?_
      refine lv_iload hx hb dX3_rings_26 (lv_at hl 3 rfl) ?_
      refine lv_iload_n hx hb dX3_rings_28 rfl (lv_at hl 1 rfl) ?_
      refine mVv (wr := []) (As := [.int x4, .int x1]) (rest := []) ⟨hx, hb, hml, hown, hts⟩ (c_X3_layMany (l := l) (dC := dC) (dI := dI) (cI := cI) (cJ := cJ) (cZ := cZ) (aM := aM) (aMM := aMM) (aML := aML) (aMY := aMY) (aMT := aMT) (aMR := aMR) (aMB := aMB) (aMN := aMN) h) (cwV 2 hts gX3_rings_X3_layMany rfl rfl rfl hv_X3_layMany ⟨Nat.le_of_ble_eq_true rfl, Nat.le_of_ble_eq_true rfl⟩) hK hP hD hS hA [0, 1, 2, 3] [] rfl rfl rfl rfl (by decide) 3 rfl rfl rfl rfl hl.1 rfl (Nat.le_of_ble_eq_true rfl) ⟨Nat.zero_le _, Nat.zero_le _⟩ dX3_rings_29 (fun u29 H locs h hP hD hS => ?_)
      obtain ⟨fMY_29, fMT_29⟩ := u29
      have hP : va_P (dC, dI) vwCl [oM aM aMM aML aMY aMT aMR aMB aMN mk mp, aI aMM cZ 36 fMM, aJ aMY cJ 6 fMY_29, aJ aMT cJ 6 fMT_29] H := hP.sub [0, 1, 2, 3] rfl
      have hD : va_D A [oM aM aMM aML aMY aMT aMR aMB aMN mk mp, aI aMM cZ 36 fMM, aJ aMY cJ 6 fMY_29, aJ aMT cJ 6 fMT_29] := hD.sub [0, 1, 2, 3] rfl rfl
      refine lv_lload_n hx hb dX3_rings_32 rfl (lv_at hl 2 rfl) ?_
      refine lv_aload_n hx hb dX3_rings_33 rfl (lv_at hl 0 rfl) ?_
      refine va_get (D := (dC, dI)) (ci := 3) (v := .ref aMY) (C := RX3) (T := TX3) (N := 9) hx hb hts in_X3 hown hK hP 0 rfl rfl 3 (by decide) k_17 (fun _ h9 => h9) rfl dX3_rings_34 ?_
      refine lv_iload hx hb dX3_rings_37 (lv_at hl 3 rfl) ?_
      refine va_lald (D := (dC, dI)) hx hb hK hP 2 1 rfl rfl h.1 dX3_rings_39 ?_
      have h := h.2
      refine lv_ladd hx hb dX3_rings_40 ?_
      refine mSl (wr := [oM aM aMM aML aMY aMT aMR aMB aMN mk mp, aI aMM cZ 36 fMM, aJ aMY cJ 6 fMY_29, aJ aMT cJ 6 fMT_29]) (As := [.long (x2 + (fMY_29 x4.toNatClampNeg))]) (rest := []) ⟨hx, hb, hml, hown, hts⟩ (c_X3_cut (l := l) (dC := dC) (dI := dI) (cI := cI) (cJ := cJ) (cZ := cZ)  h) (va_cwS 1 hts gX3_rings_X3_cut rfl rfl rfl hv_X3_cut ⟨Nat.le_of_ble_eq_true rfl, Nat.le_of_ble_eq_true rfl⟩) hK hP hD hS hA [] [0, 1, 2, 3] rfl rfl rfl rfl (by decide) rfl hl.1 rfl (Nat.le_of_ble_eq_true rfl) ⟨Nat.zero_le _, Nat.zero_le _⟩ dX3_rings_41 (fun r41 u41 H locs h hP hD hS => ?_)
      have hP : va_P (dC, dI) vwCl [oM aM aMM aML aMY aMT aMR aMB aMN mk mp, aI aMM cZ 36 fMM, aJ aMY cJ 6 fMY_29, aJ aMT cJ 6 fMT_29] H := hP.sub [0, 1, 2, 3] rfl
      have hD : va_D A [oM aM aMM aML aMY aMT aMR aMB aMN mk mp, aI aMM cZ 36 fMM, aJ aMY cJ 6 fMY_29, aJ aMT cJ 6 fMT_29] := hD.sub [0, 1, 2, 3] rfl rfl
      refine lv_lstore_n (lv' := [(2, .long r41), (0, .ref aM), (1, .int x1), (4, .int x4)]) hx hb dX3_rings_44 rfl hl (by decide) rfl (fun ls hl => ?_)
      obtain ⟨v45, ev45⟩ : ∃ y : Int32, y = x4 + (1 : Int32) := ⟨_, rfl⟩
      have h := h v45 ev45
      refine lv_iinc (v := v45) (lv' := [(4, .int v45), (2, .long r41), (0, .ref aM), (1, .int x1)]) hx hb dX3_rings_45 hl (k := 3) rfl (by rw [ev45]; rfl) (by decide) rfl (fun ls hl => ?_)
      refine lv_goto (tgt := 16) hx hb dX3_rings_48 (by decide) ?_
      exact h H locs ls hP hD hS (lv_sub hl [2, 3, 1, 0] rfl)
  unfold wp_X3_rings at h
  intro H locs ls hP hD hS hl
  refine lv_iload_n hx hb dX3_rings_0 rfl (lv_at hl 1 rfl) ?_
  refine mSi (wr := [oM aM aMM aML aMY aMT aMR aMB aMN mk mp, aI aMM cZ 36 fMM, aJ aMY cJ 6 fMY, aJ aMT cJ 6 fMT]) (As := [.int x1]) (rest := []) ⟨hx, hb, hml, hown, hts⟩ (c_X3_isRing (l := l) (dC := dC) (dI := dI) (cI := cI) (cJ := cJ) (cZ := cZ)  h) (va_cwS 1 hts gX3_rings_X3_isRing rfl rfl rfl hv_X3_isRing ⟨Nat.le_of_ble_eq_true rfl, Nat.le_of_ble_eq_true rfl⟩) hK hP hD hS hA [] [0, 1, 2, 3] rfl rfl rfl rfl (by decide) rfl hl.1 rfl (Nat.le_of_ble_eq_true rfl) ⟨Nat.zero_le _, Nat.zero_le _⟩ dX3_rings_1 (fun r1 u1 H locs h hP hD hS => ?_)
  have hP : va_P (dC, dI) vwCl [oM aM aMM aML aMY aMT aMR aMB aMN mk mp, aI aMM cZ 36 fMM, aJ aMY cJ 6 fMY, aJ aMT cJ 6 fMT] H := hP.sub [0, 1, 2, 3] rfl
  have hD : va_D A [oM aM aMM aML aMY aMT aMR aMB aMN mk mp, aI aMM cZ 36 fMM, aJ aMY cJ 6 fMY, aJ aMT cJ 6 fMT] := hD.sub [0, 1, 2, 3] rfl rfl
  refine lv_if_ne (tgt := 11) hx hb dX3_rings_4 (by decide) (fun q4 => ?_) (fun q4 => ?_)
  · have h := h.1 q4
    refine lv_lconst (v := 0) hx hb dX3_rings_11 (by decide) ?_
    refine lv_lstore_n (lv' := [(2, .long (0 : Int64)), (0, .ref aM), (1, .int x1)]) hx hb dX3_rings_12 rfl hl (by decide) rfl (fun ls hl => ?_)
    refine lv_iconst (v := 0) hx hb dX3_rings_13 (by decide) ?_
    refine lv_istore (lv' := [(4, .int (0 : Int32)), (2, .long (0 : Int64)), (0, .ref aM), (1, .int x1)]) hx hb dX3_rings_14 hl (by decide) rfl (fun ls hl => ?_)
    exact B16 _ _ _ _ _ h H locs ls hP hD hS (lv_sub hl [2, 3, 1, 0] rfl)
  · have h := h.2 q4
    refine lv_ldc2 (v := -2) hx hb hown k_63 dX3_rings_7 ?_
    exact ret _ _ _ H locs ls _ dX3_rings_10 h hP hD hS
set_option maxHeartbeats 4000000 in
set_option maxRecDepth 100000 in
theorem c_X3_rings {l : Launch} {dC : Nat → ClassId} {dI : Nat → Nat → Nat} {cI cJ cZ : ClassId} {aM aMM aML aMY aMT aMR aMB aMN : Nat} {mk : Int32} {mp : Int32} {fMM : (Nat → Int32)} {fMY : (Nat → Int64)} {fMT : (Nat → Int64)} {x1 : Int32} {post : Int64 → (Nat → Int64) → (Nat → Int64) → Prop} (h : wp_X3_rings x1 mk mp fMM fMY fMT post) : ∀ sz, Met l yX3_rings wsX3_rings rm_X3_rings (mP (dC, dI) (mTy cI cJ cZ) [.ref aM, .int x1] [oM aM aMM aML aMY aMT aMR aMB aMN mk mp, aI aMM cZ 36 fMM, aJ aMY cJ 6 fMY, aJ aMT cJ 6 fMT] sz) (va_Ql (fun (r : Int64) (u : (Nat → Int64) × (Nat → Int64)) => post r (u.1) (u.2)) (mB (dC, dI) (va_A [oM aM aMM aML aMY aMT aMR aMB aMN mk mp, aI aMM cZ 36 fMM, aJ aMY cJ 6 fMY, aJ aMT cJ 6 fMT] sz) (fun u => [oM aM aMM aML aMY aMT aMR aMB aMN mk mp, aI aMM cZ 36 fMM, aJ aMY cJ 6 (u.1), aJ aMT cJ 6 (u.2)])) (va_A [oM aM aMM aML aMY aMT aMR aMB aMN mk mp, aI aMM cZ 36 fMM, aJ aMY cJ 6 fMY, aJ aMT cJ 6 fMT] sz)) 0 0 (va_A [oM aM aMM aML aMY aMT aMR aMB aMN mk mp, aI aMM cZ 36 fMM, aJ aMY cJ 6 fMY, aJ aMT cJ 6 fMT] sz) := by
  intro sz
  refine Met.ofW (cc := cX3_rings) (maxL := 5) (ret := (some .long)) (by decide) rfl ?_
  intro p e s m args below meth c s₁ B hml hv
  obtain ⟨rfl, hsz, hP, hK, hD0⟩ := hv
  have hlocks := B.notSynchronized
  subst hsz
  have hD := hD0.self (sz := s.heap.size)
  have hl := lv_entry ([.ref aM, .int x1]) (n := 5) (Nat.le_of_ble_eq_true rfl)
  rw [lg_entry_eq]
  exact k_X3_rings B.exec B.bytes hml (findClass_of_methodNamed B.named) (atoms_spec (ws := wsX3_rings) B.pre) hK (fun q hq => Or.inr hq) (fun r fMY' fMT' H locs ls pc hd hp hP hD hS => W.lret B.exec B.bytes B.returns (fun t ht hW => ⟨⟨r, (fMY', fMT'), rfl, hp, by rw [ht]; exact hP, hD⟩, hS.F ht⟩) hS.2.2 hd) h s.heap [] _ hP hD va_S.rf hl

def wp_X3_walks (x1 : Int32) (x2 : Int32) (x3 : Int32) (mk : Int32) (mp : Int32) (fMM : (Nat → Int32)) (fMY : (Nat → Int64)) (fMT : (Nat → Int64)) (post : Int64 → (Nat → Int64) → (Nat → Int64) → Prop) : Prop := wp_X3_isLabel x1 mk mp (fun (r2 : Int32) => ((r2 = (0 : Int32) → post (-1 : Int64) fMY fMT) ∧ (¬ r2 = (0 : Int32) → wp_X3_isLabel x2 mk mp (fun (r10 : Int32) => ((¬ r10 = (0 : Int32) → wp_X3_in x3 (0 : Int32) (60 : Int32) (fun (r24 : Int32) => ((¬ r24 = (0 : Int32) → wp_X3_layMany x1 x3 mk mp fMM fMY fMT (fun (fMY_37 : (Nat → Int64)) (fMT_37 : (Nat → Int64)) => (vp_in x2 6 ∧ post (fMY_37 x2.toNatClampNeg) fMY_37 fMT_37))) ∧ (r24 = (0 : Int32) → post (-2 : Int64) fMY fMT)))) ∧ (r10 = (0 : Int32) → post (-1 : Int64) fMY fMT))))))
abbrev rm_X3_walks : Room := { frames := 2, cells := 0, slots := 0, locals := 46 }
theorem hv_X3_walks : yX3_walks.cls = RX3 ∧ yX3_walks.cls ≠ "java/lang/invoke/MethodHandle" ∧ yX3_walks.cls ≠ "java/lang/invoke/VarHandle" ∧ (parseMethodDescriptor yX3_walks.desc).map (fun d => d.parameters.length) = some 3 := by decide +kernel
set_option maxHeartbeats 4000000 in
set_option maxRecDepth 100000 in
theorem k_X3_walks {p : Program} {l : Launch} {e : Env} {s : State} {m : MethodId} {args : Array Value} {below : List Frame} {meth : Method} {c : Code} {Q : State → Prop} {A : Nat → Prop} {dC : Nat → ClassId} {dI : Nat → Nat → Nat} {cI cJ cZ : ClassId} (hx : p.tables.exec = Jvm.exec) (hb : c.code = cX3_walks) (hml : c.maxLocals = 4) (hown : s.vm.findClass RX3 = some m.cls) (hts : ∀ w ∈ wsX3_walks, w.before args s = true) (hK : va_K (dC, dI) vwCl (mTy cI cJ cZ) s) (hA : ∀ q, s.heap.size ≤ q → A q) {aM aMM aML aMY aMT aMR aMB aMN : Nat} {mk : Int32} {mp : Int32} {fMM : (Nat → Int32)} {fMY : (Nat → Int64)} {fMT : (Nat → Int64)} {x1 : Int32} {x2 : Int32} {x3 : Int32} {post : Int64 → (Nat → Int64) → (Nat → Int64) → Prop} (ret : ∀ (r : Int64) (fMY' : (Nat → Int64)) (fMT' : (Nat → Int64)) (H : Heap) (locs : List Loc) (ls : Array Slot) (pc : Nat), decode cX3_walks pc = .ok (.lreturn, 1) → post r fMY' fMT' → va_P (dC, dI) vwCl [oM aM aMM aML aMY aMT aMR aMB aMN mk mp, aI aMM cZ 36 fMM, aJ aMY cJ 6 fMY', aJ aMT cJ 6 fMT'] H → va_D A [oM aM aMM aML aMY aMT aMR aMB aMN mk mp, aI aMM cZ 36 fMM, aJ aMY cJ 6 fMY', aJ aMT cJ 6 fMT'] → va_S A s.heap H locs → W p l e rm_X3_walks s m args below meth c H locs 0 0 Q (F0 m pc ls [.long r])) (h : wp_X3_walks x1 x2 x3 mk mp fMM fMY fMT post) : mW p l e rm_X3_walks s m args below meth c 0 0 Q A (dC, dI) 4 [oM aM aMM aML aMY aMT aMR aMB aMN mk mp, aI aMM cZ 36 fMM, aJ aMY cJ 6 fMY, aJ aMT cJ 6 fMT] [(0, .ref aM), (1, .int x1), (2, .int x2), (3, .int x3)] 0 [] := by
  have in_X3 : ∀ w ∈ wsX30, w ∈ wsX3_walks := fun w hw => List.mem_cons_of_mem _ (List.mem_append_right _ hw)
  have k_63 := hts (.constantLong RX3 63 (-2)) (List.mem_of_getElem? (i := 2) rfl)
  have k_69 := hts (.constantLong RX3 69 (-1)) (List.mem_of_getElem? (i := 1) rfl)
  have k_17 := hts (.fieldLink RX3 17 "RingTasksModel" "many" "[J") (List.mem_of_getElem? (i := 3) rfl)
  unfold wp_X3_walks at h
  intro H locs ls hP hD hS hl
  refine lv_aload_n hx hb dX3_walks_0 rfl (lv_at hl 0 rfl) ?_
  refine lv_iload_n hx hb dX3_walks_1 rfl (lv_at hl 1 rfl) ?_
  refine mVi (wr := [aI aMM cZ 36 fMM, aJ aMY cJ 6 fMY, aJ aMT cJ 6 fMT]) (As := [.int x1]) (rest := []) ⟨hx, hb, hml, hown, hts⟩ (c_X3_isLabel (l := l) (dC := dC) (dI := dI) (cI := cI) (cJ := cJ) (cZ := cZ) (aM := aM) (aMM := aMM) (aML := aML) (aMY := aMY) (aMT := aMT) (aMR := aMR) (aMB := aMB) (aMN := aMN) h) (cwV 1 hts gX3_walks_X3_isLabel rfl rfl rfl hv_X3_isLabel ⟨Nat.le_of_ble_eq_true rfl, Nat.le_of_ble_eq_true rfl⟩) hK hP hD hS hA [0] [1, 2, 3] rfl rfl rfl rfl (by decide) 3 rfl rfl rfl rfl hl.1 rfl (Nat.le_of_ble_eq_true rfl) ⟨Nat.zero_le _, Nat.zero_le _⟩ dX3_walks_2 (fun r2 u2 H locs h hP hD hS => ?_)
  have hP : va_P (dC, dI) vwCl [oM aM aMM aML aMY aMT aMR aMB aMN mk mp, aI aMM cZ 36 fMM, aJ aMY cJ 6 fMY, aJ aMT cJ 6 fMT] H := hP.sub [3, 0, 1, 2] rfl
  have hD : va_D A [oM aM aMM aML aMY aMT aMR aMB aMN mk mp, aI aMM cZ 36 fMM, aJ aMY cJ 6 fMY, aJ aMT cJ 6 fMT] := hD.sub [3, 0, 1, 2] rfl rfl
  refine lv_if_eq (tgt := 16) hx hb dX3_walks_5 (by decide) (fun q5 => ?_) (fun q5 => ?_)
  · have h := h.1 q5
    refine lv_ldc2 (v := -1) hx hb hown k_69 dX3_walks_16 ?_
    exact ret _ _ _ H locs ls _ dX3_walks_19 h hP hD hS
  · have h := h.2 q5
    refine lv_aload_n hx hb dX3_walks_8 rfl (lv_at hl 0 rfl) ?_
    refine lv_iload_n hx hb dX3_walks_9 rfl (lv_at hl 2 rfl) ?_
    refine mVi (wr := [aI aMM cZ 36 fMM, aJ aMY cJ 6 fMY, aJ aMT cJ 6 fMT]) (As := [.int x2]) (rest := []) ⟨hx, hb, hml, hown, hts⟩ (c_X3_isLabel (l := l) (dC := dC) (dI := dI) (cI := cI) (cJ := cJ) (cZ := cZ) (aM := aM) (aMM := aMM) (aML := aML) (aMY := aMY) (aMT := aMT) (aMR := aMR) (aMB := aMB) (aMN := aMN) h) (cwV 1 hts gX3_walks_X3_isLabel rfl rfl rfl hv_X3_isLabel ⟨Nat.le_of_ble_eq_true rfl, Nat.le_of_ble_eq_true rfl⟩) hK hP hD hS hA [0] [1, 2, 3] rfl rfl rfl rfl (by decide) 3 rfl rfl rfl rfl hl.1 rfl (Nat.le_of_ble_eq_true rfl) ⟨Nat.zero_le _, Nat.zero_le _⟩ dX3_walks_10 (fun r10 u10 H locs h hP hD hS => ?_)
    have hP : va_P (dC, dI) vwCl [oM aM aMM aML aMY aMT aMR aMB aMN mk mp, aI aMM cZ 36 fMM, aJ aMY cJ 6 fMY, aJ aMT cJ 6 fMT] H := hP.sub [3, 0, 1, 2] rfl
    have hD : va_D A [oM aM aMM aML aMY aMT aMR aMB aMN mk mp, aI aMM cZ 36 fMM, aJ aMY cJ 6 fMY, aJ aMT cJ 6 fMT] := hD.sub [3, 0, 1, 2] rfl rfl
    refine lv_if_ne (tgt := 20) hx hb dX3_walks_13 (by decide) (fun q13 => ?_) (fun q13 => ?_)
    · have h := h.1 q13
      refine lv_iload_n hx hb dX3_walks_20 rfl (lv_at hl 3 rfl) ?_
      refine lv_iconst (v := 0) hx hb dX3_walks_21 (by decide) ?_
      refine lv_bipush (v := 60) hx hb dX3_walks_22 (by decide) ?_
      refine mSi (wr := [oM aM aMM aML aMY aMT aMR aMB aMN mk mp, aI aMM cZ 36 fMM, aJ aMY cJ 6 fMY, aJ aMT cJ 6 fMT]) (As := [.int x3, .int (0 : Int32), .int (60 : Int32)]) (rest := []) ⟨hx, hb, hml, hown, hts⟩ (c_X3_in (l := l) (dC := dC) (dI := dI) (cI := cI) (cJ := cJ) (cZ := cZ)  h) (va_cwS 3 hts gX3_walks_X3_in rfl rfl rfl hv_X3_in ⟨Nat.le_of_ble_eq_true rfl, Nat.le_of_ble_eq_true rfl⟩) hK hP hD hS hA [] [0, 1, 2, 3] rfl rfl rfl rfl (by decide) rfl hl.1 rfl (Nat.le_of_ble_eq_true rfl) ⟨Nat.zero_le _, Nat.zero_le _⟩ dX3_walks_24 (fun r24 u24 H locs h hP hD hS => ?_)
      have hP : va_P (dC, dI) vwCl [oM aM aMM aML aMY aMT aMR aMB aMN mk mp, aI aMM cZ 36 fMM, aJ aMY cJ 6 fMY, aJ aMT cJ 6 fMT] H := hP.sub [0, 1, 2, 3] rfl
      have hD : va_D A [oM aM aMM aML aMY aMT aMR aMB aMN mk mp, aI aMM cZ 36 fMM, aJ aMY cJ 6 fMY, aJ aMT cJ 6 fMT] := hD.sub [0, 1, 2, 3] rfl rfl
      refine lv_if_ne (tgt := 34) hx hb dX3_walks_27 (by decide) (fun q27 => ?_) (fun q27 => ?_)
      · have h := h.1 q27
        refine lv_aload_n hx hb dX3_walks_34 rfl (lv_at hl 0 rfl) ?_
        refine lv_iload_n hx hb dX3_walks_35 rfl (lv_at hl 1 rfl) ?_
        refine lv_iload_n hx hb dX3_walks_36 rfl (lv_at hl 3 rfl) ?_
        refine mVv (wr := []) (As := [.int x1, .int x3]) (rest := []) ⟨hx, hb, hml, hown, hts⟩ (c_X3_layMany (l := l) (dC := dC) (dI := dI) (cI := cI) (cJ := cJ) (cZ := cZ) (aM := aM) (aMM := aMM) (aML := aML) (aMY := aMY) (aMT := aMT) (aMR := aMR) (aMB := aMB) (aMN := aMN) h) (cwV 2 hts gX3_walks_X3_layMany rfl rfl rfl hv_X3_layMany ⟨Nat.le_of_ble_eq_true rfl, Nat.le_of_ble_eq_true rfl⟩) hK hP hD hS hA [0, 1, 2, 3] [] rfl rfl rfl rfl (by decide) 3 rfl rfl rfl rfl hl.1 rfl (Nat.le_of_ble_eq_true rfl) ⟨Nat.zero_le _, Nat.zero_le _⟩ dX3_walks_37 (fun u37 H locs h hP hD hS => ?_)
        obtain ⟨fMY_37, fMT_37⟩ := u37
        have hP : va_P (dC, dI) vwCl [oM aM aMM aML aMY aMT aMR aMB aMN mk mp, aI aMM cZ 36 fMM, aJ aMY cJ 6 fMY_37, aJ aMT cJ 6 fMT_37] H := hP.sub [0, 1, 2, 3] rfl
        have hD : va_D A [oM aM aMM aML aMY aMT aMR aMB aMN mk mp, aI aMM cZ 36 fMM, aJ aMY cJ 6 fMY_37, aJ aMT cJ 6 fMT_37] := hD.sub [0, 1, 2, 3] rfl rfl
        refine lv_aload_n hx hb dX3_walks_40 rfl (lv_at hl 0 rfl) ?_
        refine va_get (D := (dC, dI)) (ci := 3) (v := .ref aMY) (C := RX3) (T := TX3) (N := 9) hx hb hts in_X3 hown hK hP 0 rfl rfl 3 (by decide) k_17 (fun _ h9 => h9) rfl dX3_walks_41 ?_
        refine lv_iload_n hx hb dX3_walks_44 rfl (lv_at hl 2 rfl) ?_
        refine va_lald (D := (dC, dI)) hx hb hK hP 2 1 rfl rfl h.1 dX3_walks_45 ?_
        have h := h.2
        exact ret _ _ _ H locs ls _ dX3_walks_46 h hP hD hS
      · have h := h.2 q27
        refine lv_ldc2 (v := -2) hx hb hown k_63 dX3_walks_30 ?_
        exact ret _ _ _ H locs ls _ dX3_walks_33 h hP hD hS
    · have h := h.2 q13
      refine lv_ldc2 (v := -1) hx hb hown k_69 dX3_walks_16 ?_
      exact ret _ _ _ H locs ls _ dX3_walks_19 h hP hD hS
set_option maxHeartbeats 4000000 in
set_option maxRecDepth 100000 in
theorem c_X3_walks {l : Launch} {dC : Nat → ClassId} {dI : Nat → Nat → Nat} {cI cJ cZ : ClassId} {aM aMM aML aMY aMT aMR aMB aMN : Nat} {mk : Int32} {mp : Int32} {fMM : (Nat → Int32)} {fMY : (Nat → Int64)} {fMT : (Nat → Int64)} {x1 : Int32} {x2 : Int32} {x3 : Int32} {post : Int64 → (Nat → Int64) → (Nat → Int64) → Prop} (h : wp_X3_walks x1 x2 x3 mk mp fMM fMY fMT post) : ∀ sz, Met l yX3_walks wsX3_walks rm_X3_walks (mP (dC, dI) (mTy cI cJ cZ) [.ref aM, .int x1, .int x2, .int x3] [oM aM aMM aML aMY aMT aMR aMB aMN mk mp, aI aMM cZ 36 fMM, aJ aMY cJ 6 fMY, aJ aMT cJ 6 fMT] sz) (va_Ql (fun (r : Int64) (u : (Nat → Int64) × (Nat → Int64)) => post r (u.1) (u.2)) (mB (dC, dI) (va_A [oM aM aMM aML aMY aMT aMR aMB aMN mk mp, aI aMM cZ 36 fMM, aJ aMY cJ 6 fMY, aJ aMT cJ 6 fMT] sz) (fun u => [oM aM aMM aML aMY aMT aMR aMB aMN mk mp, aI aMM cZ 36 fMM, aJ aMY cJ 6 (u.1), aJ aMT cJ 6 (u.2)])) (va_A [oM aM aMM aML aMY aMT aMR aMB aMN mk mp, aI aMM cZ 36 fMM, aJ aMY cJ 6 fMY, aJ aMT cJ 6 fMT] sz)) 0 0 (va_A [oM aM aMM aML aMY aMT aMR aMB aMN mk mp, aI aMM cZ 36 fMM, aJ aMY cJ 6 fMY, aJ aMT cJ 6 fMT] sz) := by
  intro sz
  refine Met.ofW (cc := cX3_walks) (maxL := 4) (ret := (some .long)) (by decide) rfl ?_
  intro p e s m args below meth c s₁ B hml hv
  obtain ⟨rfl, hsz, hP, hK, hD0⟩ := hv
  have hlocks := B.notSynchronized
  subst hsz
  have hD := hD0.self (sz := s.heap.size)
  have hl := lv_entry ([.ref aM, .int x1, .int x2, .int x3]) (n := 4) (Nat.le_of_ble_eq_true rfl)
  rw [lg_entry_eq]
  exact k_X3_walks B.exec B.bytes hml (findClass_of_methodNamed B.named) (atoms_spec (ws := wsX3_walks) B.pre) hK (fun q hq => Or.inr hq) (fun r fMY' fMT' H locs ls pc hd hp hP hD hS => W.lret B.exec B.bytes B.returns (fun t ht hW => ⟨⟨r, (fMY', fMT'), rfl, hp, by rw [ht]; exact hP, hD⟩, hS.F ht⟩) hS.2.2 hd) h s.heap [] _ hP hD va_S.rf hl

def wp_X3_next_b44 (x4 : Int32) (mk : Int32) (mp : Int32) (fMM : (Nat → Int32)) (fML : (Nat → Int64)) (post : Int32 → Prop)  : Prop := ((¬ x4 = mk → post x4) ∧ (x4 = mk → post (-9 : Int32)))
def wp_X3_next_b3 (x1 : Int32) (x2 : Int32) (x3 : Int32) (x4 : Int32) (mk : Int32) (mp : Int32) (fMM : (Nat → Int32)) (fML : (Nat → Int64)) (post : Int32 → Prop)  : Prop := ∀ P3 : Int32 → Prop, (∀ (x4 : Int32), ((mk ≤ x4 → wp_X3_next_b44 x4 mk mp fMM fML post) ∧ (¬ mk ≤ x4 → (vp_in (((6 : Int32) * x1) + x4) 36 ∧ (((fMM (((6 : Int32) * x1) + x4).toNatClampNeg) = (0 : Int32) → (∀ v38 : Int32, v38 = x4 + (1 : Int32) → P3 v38)) ∧ (¬ (fMM (((6 : Int32) * x1) + x4).toNatClampNeg) = (0 : Int32) → wp_X3_isWalk x4 x3 x2 mk mp fML (fun (r32 : Int32) => ((¬ r32 = (0 : Int32) → wp_X3_next_b44 x4 mk mp fMM fML post) ∧ (r32 = (0 : Int32) → (∀ v38 : Int32, v38 = x4 + (1 : Int32) → P3 v38))))))))) → P3 x4) → P3 x4
def wp_X3_next (x1 : Int32) (x2 : Int32) (x3 : Int32) (mk : Int32) (mp : Int32) (fMM : (Nat → Int32)) (fML : (Nat → Int64)) (post : Int32 → Prop) : Prop := wp_X3_next_b3 x1 x2 x3 (0 : Int32) mk mp fMM fML post
abbrev rm_X3_next : Room := { frames := 1, cells := 0, slots := 0, locals := 23 }
theorem hv_X3_next : yX3_next.cls = RX3 ∧ yX3_next.cls ≠ "java/lang/invoke/MethodHandle" ∧ yX3_next.cls ≠ "java/lang/invoke/VarHandle" ∧ (parseMethodDescriptor yX3_next.desc).map (fun d => d.parameters.length) = some 3 := by decide +kernel
set_option maxHeartbeats 4000000 in
set_option maxRecDepth 100000 in
theorem k_X3_next {p : Program} {l : Launch} {e : Env} {s : State} {m : MethodId} {args : Array Value} {below : List Frame} {meth : Method} {c : Code} {Q : State → Prop} {A : Nat → Prop} {dC : Nat → ClassId} {dI : Nat → Nat → Nat} {cI cJ cZ : ClassId} (hx : p.tables.exec = Jvm.exec) (hb : c.code = cX3_next) (hml : c.maxLocals = 5) (hown : s.vm.findClass RX3 = some m.cls) (hts : ∀ w ∈ wsX3_next, w.before args s = true) (hK : va_K (dC, dI) vwCl (mTy cI cJ cZ) s) (hA : ∀ q, s.heap.size ≤ q → A q) {aM aMM aML aMY aMT aMR aMB aMN : Nat} {mk : Int32} {mp : Int32} {fMM : (Nat → Int32)} {fML : (Nat → Int64)} {x1 : Int32} {x2 : Int32} {x3 : Int32} {post : Int32 → Prop} (ret : ∀ (r : Int32) (H : Heap) (locs : List Loc) (ls : Array Slot) (pc : Nat), decode cX3_next pc = .ok (.ireturn, 1) → post r → va_P (dC, dI) vwCl [oM aM aMM aML aMY aMT aMR aMB aMN mk mp, aI aMM cZ 36 fMM, aJ aML cJ 61 fML] H → va_D A [oM aM aMM aML aMY aMT aMR aMB aMN mk mp, aI aMM cZ 36 fMM, aJ aML cJ 61 fML] → va_S A s.heap H locs → W p l e rm_X3_next s m args below meth c H locs 0 0 Q (F0 m pc ls [.int r])) (h : wp_X3_next x1 x2 x3 mk mp fMM fML post) : mW p l e rm_X3_next s m args below meth c 0 0 Q A (dC, dI) 5 [oM aM aMM aML aMY aMT aMR aMB aMN mk mp, aI aMM cZ 36 fMM, aJ aML cJ 61 fML] [(0, .ref aM), (1, .int x1), (2, .int x2), (3, .int x3)] 0 [] := by
  have in_X3 : ∀ w ∈ wsX30, w ∈ wsX3_next := fun w hw => List.mem_cons_of_mem _ (List.mem_append_right _ hw)
  have k_40 := hts (.fieldLink RX3 40 "RingTasksModel" "labels" "I") (List.mem_of_getElem? (i := 1) rfl)
  have k_7 := hts (.fieldLink RX3 7 "RingTasksModel" "may" "[Z") (List.mem_of_getElem? (i := 2) rfl)
  have B44 : ∀ (x4 : Int32), wp_X3_next_b44 x4 mk mp fMM fML post → mW p l e rm_X3_next s m args below meth c 0 0 Q A (dC, dI) 5 [oM aM aMM aML aMY aMT aMR aMB aMN mk mp, aI aMM cZ 36 fMM, aJ aML cJ 61 fML] [(0, .ref aM), (4, .int x4)] 44 [] := by
    intro x4 h
    unfold wp_X3_next_b44 at h
    intro H locs ls hP hD hS hl
    refine lv_iload hx hb dX3_next_44 (lv_at hl 1 rfl) ?_
    refine lv_aload_n hx hb dX3_next_46 rfl (lv_at hl 0 rfl) ?_
    refine va_get (D := (dC, dI)) (ci := 3) (v := .int mk) (C := RX3) (T := TX3) (N := 9) hx hb hts in_X3 hown hK hP 0 rfl rfl 0 (by decide) k_40 (fun _ h9 => h9) rfl dX3_next_47 ?_
    refine lv_icmp_ne (tgt := 58) hx hb dX3_next_50 (by decide) (fun q50 => ?_) (fun q50 => ?_)
    · have h := h.1 q50
      refine lv_iload hx hb dX3_next_58 (lv_at hl 1 rfl) ?_
      exact ret _  H locs ls _ dX3_next_60 h hP hD hS
    · have h := h.2 q50
      refine lv_bipush (v := -9) hx hb dX3_next_53 (by decide) ?_
      refine lv_goto (tgt := 60) hx hb dX3_next_55 (by decide) ?_
      exact ret _  H locs ls _ dX3_next_60 h hP hD hS
  have B3 : ∀ (x1 : Int32) (x2 : Int32) (x3 : Int32) (x4 : Int32), wp_X3_next_b3 x1 x2 x3 x4 mk mp fMM fML post → mW p l e rm_X3_next s m args below meth c 0 0 Q A (dC, dI) 5 [oM aM aMM aML aMY aMT aMR aMB aMN mk mp, aI aMM cZ 36 fMM, aJ aML cJ 61 fML] [(0, .ref aM), (1, .int x1), (2, .int x2), (3, .int x3), (4, .int x4)] 3 [] := by
    intro x1 x2 x3 x4 h
    unfold wp_X3_next_b3 at h
    refine h (fun (x4 : Int32) => mW p l e rm_X3_next s m args below meth c 0 0 Q A (dC, dI) 5 [oM aM aMM aML aMY aMT aMR aMB aMN mk mp, aI aMM cZ 36 fMM, aJ aML cJ 61 fML] [(0, .ref aM), (1, .int x1), (2, .int x2), (3, .int x3), (4, .int x4)] 3 []) ?_
    intro x4 h
    intro H locs ls hP hD hS hl
    refine lv_iload hx hb dX3_next_3 (lv_at hl 4 rfl) ?_
    refine lv_aload_n hx hb dX3_next_5 rfl (lv_at hl 0 rfl) ?_
    refine va_get (D := (dC, dI)) (ci := 3) (v := .int mk) (C := RX3) (T := TX3) (N := 9) hx hb hts in_X3 hown hK hP 0 rfl rfl 0 (by decide) k_40 (fun _ h9 => h9) rfl dX3_next_6 ?_
    refine lv_icmp_ge (tgt := 44) hx hb dX3_next_9 (by decide) (fun q9 => ?_) (fun q9 => ?_)
    · have h := h.1 q9
      exact B44 _ h H locs ls hP hD hS (lv_sub hl [0, 4] rfl)
    · have h := h.2 q9
      refine lv_aload_n hx hb dX3_next_12 rfl (lv_at hl 0 rfl) ?_
      refine va_get (D := (dC, dI)) (ci := 3) (v := .ref aMM) (C := RX3) (T := TX3) (N := 9) hx hb hts in_X3 hown hK hP 0 rfl rfl 1 (by decide) k_7 (fun _ h9 => h9) rfl dX3_next_13 ?_
      refine lv_bipush (v := 6) hx hb dX3_next_16 (by decide) ?_
      refine lv_iload_n hx hb dX3_next_18 rfl (lv_at hl 1 rfl) ?_
      refine lv_imul hx hb dX3_next_19 ?_
      refine lv_iload hx hb dX3_next_20 (lv_at hl 4 rfl) ?_
      refine lv_iadd hx hb dX3_next_22 ?_
      refine va_zald (D := (dC, dI)) hx hb hK hP 1 2 rfl rfl h.1 dX3_next_23 ?_
      have h := h.2
      refine lv_if_eq (tgt := 38) hx hb dX3_next_24 (by decide) (fun q24 => ?_) (fun q24 => ?_)
      · have h := h.1 q24
        obtain ⟨v38, ev38⟩ : ∃ y : Int32, y = x4 + (1 : Int32) := ⟨_, rfl⟩
        have h := h v38 ev38
        refine lv_iinc (v := v38) (lv' := [(4, .int v38), (0, .ref aM), (1, .int x1), (2, .int x2), (3, .int x3)]) hx hb dX3_next_38 hl (k := 4) rfl (by rw [ev38]; rfl) (by decide) rfl (fun ls hl => ?_)
        refine lv_goto (tgt := 3) hx hb dX3_next_41 (by decide) ?_
        exact h H locs ls hP hD hS (lv_sub hl [1, 2, 3, 4, 0] rfl)
      · have h := h.2 q24
        refine lv_aload_n hx hb dX3_next_27 rfl (lv_at hl 0 rfl) ?_
        refine lv_iload hx hb dX3_next_28 (lv_at hl 4 rfl) ?_
        refine lv_iload_n hx hb dX3_next_30 rfl (lv_at hl 3 rfl) ?_
        refine lv_iload_n hx hb dX3_next_31 rfl (lv_at hl 2 rfl) ?_
        refine mVi (wr := [aI aMM cZ 36 fMM]) (As := [.int x4, .int x3, .int x2]) (rest := []) ⟨hx, hb, hml, hown, hts⟩ (c_X3_isWalk (l := l) (dC := dC) (dI := dI) (cI := cI) (cJ := cJ) (cZ := cZ) (aM := aM) (aMM := aMM) (aML := aML) (aMY := aMY) (aMT := aMT) (aMR := aMR) (aMB := aMB) (aMN := aMN) h) (cwV 3 hts gX3_next_X3_isWalk rfl rfl rfl hv_X3_isWalk ⟨Nat.le_of_ble_eq_true rfl, Nat.le_of_ble_eq_true rfl⟩) hK hP hD hS hA [0, 2] [1] rfl rfl rfl rfl (by decide) 3 rfl rfl rfl rfl hl.1 rfl (Nat.le_of_ble_eq_true rfl) ⟨Nat.zero_le _, Nat.zero_le _⟩ dX3_next_32 (fun r32 u32 H locs h hP hD hS => ?_)
        have hP : va_P (dC, dI) vwCl [oM aM aMM aML aMY aMT aMR aMB aMN mk mp, aI aMM cZ 36 fMM, aJ aML cJ 61 fML] H := hP.sub [1, 0, 2] rfl
        have hD : va_D A [oM aM aMM aML aMY aMT aMR aMB aMN mk mp, aI aMM cZ 36 fMM, aJ aML cJ 61 fML] := hD.sub [1, 0, 2] rfl rfl
        refine lv_if_ne (tgt := 44) hx hb dX3_next_35 (by decide) (fun q35 => ?_) (fun q35 => ?_)
        · have h := h.1 q35
          exact B44 _ h H locs ls hP hD hS (lv_sub hl [0, 4] rfl)
        · have h := h.2 q35
          obtain ⟨v38, ev38⟩ : ∃ y : Int32, y = x4 + (1 : Int32) := ⟨_, rfl⟩
          have h := h v38 ev38
          refine lv_iinc (v := v38) (lv' := [(4, .int v38), (0, .ref aM), (1, .int x1), (2, .int x2), (3, .int x3)]) hx hb dX3_next_38 hl (k := 4) rfl (by rw [ev38]; rfl) (by decide) rfl (fun ls hl => ?_)
          refine lv_goto (tgt := 3) hx hb dX3_next_41 (by decide) ?_
          exact h H locs ls hP hD hS (lv_sub hl [1, 2, 3, 4, 0] rfl)
  unfold wp_X3_next at h
  intro H locs ls hP hD hS hl
  refine lv_iconst (v := 0) hx hb dX3_next_0 (by decide) ?_
  refine lv_istore (lv' := [(4, .int (0 : Int32)), (0, .ref aM), (1, .int x1), (2, .int x2), (3, .int x3)]) hx hb dX3_next_1 hl (by decide) rfl (fun ls hl => ?_)
  exact B3 _ _ _ _ h H locs ls hP hD hS (lv_sub hl [1, 2, 3, 4, 0] rfl)
set_option maxHeartbeats 4000000 in
set_option maxRecDepth 100000 in
theorem c_X3_next {l : Launch} {dC : Nat → ClassId} {dI : Nat → Nat → Nat} {cI cJ cZ : ClassId} {aM aMM aML aMY aMT aMR aMB aMN : Nat} {mk : Int32} {mp : Int32} {fMM : (Nat → Int32)} {fML : (Nat → Int64)} {x1 : Int32} {x2 : Int32} {x3 : Int32} {post : Int32 → Prop} (h : wp_X3_next x1 x2 x3 mk mp fMM fML post) : ∀ sz, Met l yX3_next wsX3_next rm_X3_next (mP (dC, dI) (mTy cI cJ cZ) [.ref aM, .int x1, .int x2, .int x3] [oM aM aMM aML aMY aMT aMR aMB aMN mk mp, aI aMM cZ 36 fMM, aJ aML cJ 61 fML] sz) (va_Qi (fun (r : Int32) (u : Unit) => post r ) (mB (dC, dI) (va_A [oM aM aMM aML aMY aMT aMR aMB aMN mk mp, aI aMM cZ 36 fMM, aJ aML cJ 61 fML] sz) (fun u => [oM aM aMM aML aMY aMT aMR aMB aMN mk mp, aI aMM cZ 36 fMM, aJ aML cJ 61 fML])) (va_A [oM aM aMM aML aMY aMT aMR aMB aMN mk mp, aI aMM cZ 36 fMM, aJ aML cJ 61 fML] sz)) 0 0 (va_A [oM aM aMM aML aMY aMT aMR aMB aMN mk mp, aI aMM cZ 36 fMM, aJ aML cJ 61 fML] sz) := by
  intro sz
  refine Met.ofW (cc := cX3_next) (maxL := 5) (ret := (some .int)) (by decide) rfl ?_
  intro p e s m args below meth c s₁ B hml hv
  obtain ⟨rfl, hsz, hP, hK, hD0⟩ := hv
  have hlocks := B.notSynchronized
  subst hsz
  have hD := hD0.self (sz := s.heap.size)
  have hl := lv_entry ([.ref aM, .int x1, .int x2, .int x3]) (n := 5) (Nat.le_of_ble_eq_true rfl)
  rw [lg_entry_eq]
  exact k_X3_next B.exec B.bytes hml (findClass_of_methodNamed B.named) (atoms_spec (ws := wsX3_next) B.pre) hK (fun q hq => Or.inr hq) (fun r H locs ls pc hd hp hP hD hS => W.iret B.exec B.bytes B.returns (fun t ht hW => ⟨⟨r, (), rfl, hp, by rw [ht]; exact hP, hD⟩, hS.F ht⟩) hS.2.2 hd) h s.heap [] _ hP hD va_S.rf hl

def wp_X3_layRing_b49 (x1 : Int32) (x2 : Int32) (x3 : Int32) (mk : Int32) (mp : Int32) (fMM : (Nat → Int32)) (fML : (Nat → Int64)) (fMR : (Nat → Int32)) (post : Int32 → (Nat → Int64) → (Nat → Int32) → Prop)  : Prop := ∀ P49 : Int32 → (Nat → Int32) → Prop, (∀ (x3 : Int32) (fMR : (Nat → Int32)), ((x1 ≤ x3 → post (1 : Int32) fML fMR) ∧ (¬ x1 ≤ x3 → (vp_in (x3 - (1 : Int32)) 60 ∧ wp_X3_next (fMR (x3 - (1 : Int32)).toNatClampNeg) (x1 - x3) x2 mk mp fMM fML (fun (r72 : Int32) => (vp_in x3 60 ∧ (∀ fMR_75 : (Nat → Int32), fMR_75 = upd fMR x3.toNatClampNeg r72 → (∀ v76 : Int32, v76 = x3 + (1 : Int32) → P49 v76 fMR_75))))))) → P49 x3 fMR) → P49 x3 fMR
def wp_X3_layRing_b30 (x1 : Int32) (x2 : Int32) (mk : Int32) (mp : Int32) (fMM : (Nat → Int32)) (fML : (Nat → Int64)) (fMR : (Nat → Int32)) (post : Int32 → (Nat → Int64) → (Nat → Int32) → Prop)  : Prop := ((¬ x2 = mk → (vp_in (0 : Int32) 60 ∧ (∀ fMR_46 : (Nat → Int32), fMR_46 = upd fMR (0 : Int32).toNatClampNeg x2 → wp_X3_layRing_b49 x1 x2 (1 : Int32) mk mp fMM fML fMR_46 post))) ∧ (x2 = mk → post (0 : Int32) fML fMR))
def wp_X3_layRing_b6 (x1 : Int32) (x2 : Int32) (mk : Int32) (mp : Int32) (fMM : (Nat → Int32)) (fML : (Nat → Int64)) (fMR : (Nat → Int32)) (post : Int32 → (Nat → Int64) → (Nat → Int32) → Prop)  : Prop := ∀ P6 : Int32 → Prop, (∀ (x2 : Int32), ((mk ≤ x2 → wp_X3_layRing_b30 x1 x2 mk mp fMM fML fMR post) ∧ (¬ mk ≤ x2 → wp_X3_isWalk x2 x2 x1 mk mp fML (fun (r18 : Int32) => ((¬ r18 = (0 : Int32) → wp_X3_layRing_b30 x1 x2 mk mp fMM fML fMR post) ∧ (r18 = (0 : Int32) → (∀ v24 : Int32, v24 = x2 + (1 : Int32) → P6 v24)))))) → P6 x2) → P6 x2
def wp_X3_layRing (x1 : Int32) (mk : Int32) (mp : Int32) (fMM : (Nat → Int32)) (fML : (Nat → Int64)) (fMR : (Nat → Int32)) (post : Int32 → (Nat → Int64) → (Nat → Int32) → Prop) : Prop := wp_X3_layLeads mk mp fMM fML (fun (fML_1 : (Nat → Int64)) => wp_X3_layRing_b6 x1 (0 : Int32) mk mp fMM fML_1 fMR post)
abbrev rm_X3_layRing : Room := { frames := 2, cells := 0, slots := 0, locals := 47 }
theorem hv_X3_layRing : yX3_layRing.cls = RX3 ∧ yX3_layRing.cls ≠ "java/lang/invoke/MethodHandle" ∧ yX3_layRing.cls ≠ "java/lang/invoke/VarHandle" ∧ (parseMethodDescriptor yX3_layRing.desc).map (fun d => d.parameters.length) = some 1 := by decide +kernel
set_option maxHeartbeats 4000000 in
set_option maxRecDepth 100000 in
theorem k_X3_layRing {p : Program} {l : Launch} {e : Env} {s : State} {m : MethodId} {args : Array Value} {below : List Frame} {meth : Method} {c : Code} {Q : State → Prop} {A : Nat → Prop} {dC : Nat → ClassId} {dI : Nat → Nat → Nat} {cI cJ cZ : ClassId} (hx : p.tables.exec = Jvm.exec) (hb : c.code = cX3_layRing) (hml : c.maxLocals = 4) (hown : s.vm.findClass RX3 = some m.cls) (hts : ∀ w ∈ wsX3_layRing, w.before args s = true) (hK : va_K (dC, dI) vwCl (mTy cI cJ cZ) s) (hA : ∀ q, s.heap.size ≤ q → A q) {aM aMM aML aMY aMT aMR aMB aMN : Nat} {mk : Int32} {mp : Int32} {fMM : (Nat → Int32)} {fML : (Nat → Int64)} {fMR : (Nat → Int32)} {x1 : Int32} {post : Int32 → (Nat → Int64) → (Nat → Int32) → Prop} (ret : ∀ (r : Int32) (fML' : (Nat → Int64)) (fMR' : (Nat → Int32)) (H : Heap) (locs : List Loc) (ls : Array Slot) (pc : Nat), decode cX3_layRing pc = .ok (.ireturn, 1) → (r = 0 ∨ r = 1) → post r fML' fMR' → va_P (dC, dI) vwCl [oM aM aMM aML aMY aMT aMR aMB aMN mk mp, aI aMM cZ 36 fMM, aJ aML cJ 61 fML', aI aMR cI 60 fMR'] H → va_D A [oM aM aMM aML aMY aMT aMR aMB aMN mk mp, aI aMM cZ 36 fMM, aJ aML cJ 61 fML', aI aMR cI 60 fMR'] → va_S A s.heap H locs → W p l e rm_X3_layRing s m args below meth c H locs 0 0 Q (F0 m pc ls [.int r])) (h : wp_X3_layRing x1 mk mp fMM fML fMR post) : mW p l e rm_X3_layRing s m args below meth c 0 0 Q A (dC, dI) 4 [oM aM aMM aML aMY aMT aMR aMB aMN mk mp, aI aMM cZ 36 fMM, aJ aML cJ 61 fML, aI aMR cI 60 fMR] [(0, .ref aM), (1, .int x1)] 0 [] := by
  have in_X3 : ∀ w ∈ wsX30, w ∈ wsX3_layRing := fun w hw => List.mem_cons_of_mem _ (List.mem_append_right _ hw)
  have k_23 := hts (.fieldLink RX3 23 "RingTasksModel" "row" "[I") (List.mem_of_getElem? (i := 2) rfl)
  have k_40 := hts (.fieldLink RX3 40 "RingTasksModel" "labels" "I") (List.mem_of_getElem? (i := 1) rfl)
  have B49 : ∀ (x1 : Int32) (x2 : Int32) (x3 : Int32) (fML : (Nat → Int64)) (fMR : (Nat → Int32)), wp_X3_layRing_b49 x1 x2 x3 mk mp fMM fML fMR post → mW p l e rm_X3_layRing s m args below meth c 0 0 Q A (dC, dI) 4 [oM aM aMM aML aMY aMT aMR aMB aMN mk mp, aI aMM cZ 36 fMM, aJ aML cJ 61 fML, aI aMR cI 60 fMR] [(0, .ref aM), (1, .int x1), (2, .int x2), (3, .int x3)] 49 [] := by
    intro x1 x2 x3 fML fMR h
    unfold wp_X3_layRing_b49 at h
    refine h (fun (x3 : Int32) (fMR : (Nat → Int32)) => mW p l e rm_X3_layRing s m args below meth c 0 0 Q A (dC, dI) 4 [oM aM aMM aML aMY aMT aMR aMB aMN mk mp, aI aMM cZ 36 fMM, aJ aML cJ 61 fML, aI aMR cI 60 fMR] [(0, .ref aM), (1, .int x1), (2, .int x2), (3, .int x3)] 49 []) ?_
    intro x3 fMR h
    intro H locs ls hP hD hS hl
    refine lv_iload_n hx hb dX3_layRing_49 rfl (lv_at hl 3 rfl) ?_
    refine lv_iload_n hx hb dX3_layRing_50 rfl (lv_at hl 1 rfl) ?_
    refine lv_icmp_ge (tgt := 82) hx hb dX3_layRing_51 (by decide) (fun q51 => ?_) (fun q51 => ?_)
    · have h := h.1 q51
      refine lv_iconst (v := 1) hx hb dX3_layRing_82 (by decide) ?_
      exact ret _ _ _ H locs ls _ dX3_layRing_83 (Or.inr rfl) h hP hD hS
    · have h := h.2 q51
      refine lv_aload_n hx hb dX3_layRing_54 rfl (lv_at hl 0 rfl) ?_
      refine va_get (D := (dC, dI)) (ci := 3) (v := .ref aMR) (C := RX3) (T := TX3) (N := 9) hx hb hts in_X3 hown hK hP 0 rfl rfl 5 (by decide) k_23 (fun _ h9 => h9) rfl dX3_layRing_55 ?_
      refine lv_iload_n hx hb dX3_layRing_58 rfl (lv_at hl 3 rfl) ?_
      refine lv_aload_n hx hb dX3_layRing_59 rfl (lv_at hl 0 rfl) ?_
      refine lv_aload_n hx hb dX3_layRing_60 rfl (lv_at hl 0 rfl) ?_
      refine va_get (D := (dC, dI)) (ci := 3) (v := .ref aMR) (C := RX3) (T := TX3) (N := 9) hx hb hts in_X3 hown hK hP 0 rfl rfl 5 (by decide) k_23 (fun _ h9 => h9) rfl dX3_layRing_61 ?_
      refine lv_iload_n hx hb dX3_layRing_64 rfl (lv_at hl 3 rfl) ?_
      refine lv_iconst (v := 1) hx hb dX3_layRing_65 (by decide) ?_
      refine lv_isub hx hb dX3_layRing_66 ?_
      refine va_iald (D := (dC, dI)) hx hb hK hP 3 0 rfl rfl h.1 dX3_layRing_67 ?_
      have h := h.2
      refine lv_iload_n hx hb dX3_layRing_68 rfl (lv_at hl 1 rfl) ?_
      refine lv_iload_n hx hb dX3_layRing_69 rfl (lv_at hl 3 rfl) ?_
      refine lv_isub hx hb dX3_layRing_70 ?_
      refine lv_iload_n hx hb dX3_layRing_71 rfl (lv_at hl 2 rfl) ?_
      refine mVi (wr := [aI aMR cI 60 fMR]) (As := [.int (fMR (x3 - (1 : Int32)).toNatClampNeg), .int (x1 - x3), .int x2]) (rest := [.int x3, .ref aMR]) ⟨hx, hb, hml, hown, hts⟩ (c_X3_next (l := l) (dC := dC) (dI := dI) (cI := cI) (cJ := cJ) (cZ := cZ) (aM := aM) (aMM := aMM) (aML := aML) (aMY := aMY) (aMT := aMT) (aMR := aMR) (aMB := aMB) (aMN := aMN) h) (cwV 3 hts gX3_layRing_X3_next rfl rfl rfl hv_X3_next ⟨Nat.le_of_ble_eq_true rfl, Nat.le_of_ble_eq_true rfl⟩) hK hP hD hS hA [0, 1, 2] [3] rfl rfl rfl rfl (by decide) 3 rfl rfl rfl rfl hl.1 rfl (Nat.le_of_ble_eq_true rfl) ⟨Nat.zero_le _, Nat.zero_le _⟩ dX3_layRing_72 (fun r72 u72 H locs h hP hD hS => ?_)
      have hP : va_P (dC, dI) vwCl [oM aM aMM aML aMY aMT aMR aMB aMN mk mp, aI aMM cZ 36 fMM, aJ aML cJ 61 fML, aI aMR cI 60 fMR] H := hP.sub [1, 2, 3, 0] rfl
      have hD : va_D A [oM aM aMM aML aMY aMT aMR aMB aMN mk mp, aI aMM cZ 36 fMM, aJ aML cJ 61 fML, aI aMR cI 60 fMR] := hD.sub [1, 2, 3, 0] rfl rfl
      refine va_iast (D := (dC, dI)) hx hb hK hP hD hS 3 0 rfl rfl h.1 dX3_layRing_75 (fun H locs hP hD hS => ?_)
      obtain ⟨fMR_75, efMR_75⟩ : ∃ y, y = upd fMR x3.toNatClampNeg r72 := ⟨_, rfl⟩
      have h := h.2 fMR_75 efMR_75
      have hP : va_P (dC, dI) vwCl [oM aM aMM aML aMY aMT aMR aMB aMN mk mp, aI aMM cZ 36 fMM, aJ aML cJ 61 fML, aI aMR cI 60 fMR_75] H := by rw [efMR_75]; exact hP
      have hD : va_D A [oM aM aMM aML aMY aMT aMR aMB aMN mk mp, aI aMM cZ 36 fMM, aJ aML cJ 61 fML, aI aMR cI 60 fMR_75] := by rw [efMR_75]; exact hD
      obtain ⟨v76, ev76⟩ : ∃ y : Int32, y = x3 + (1 : Int32) := ⟨_, rfl⟩
      have h := h v76 ev76
      refine lv_iinc (v := v76) (lv' := [(3, .int v76), (0, .ref aM), (1, .int x1), (2, .int x2)]) hx hb dX3_layRing_76 hl (k := 3) rfl (by rw [ev76]; rfl) (by decide) rfl (fun ls hl => ?_)
      refine lv_goto (tgt := 49) hx hb dX3_layRing_79 (by decide) ?_
      exact h H locs ls hP hD hS (lv_sub hl [1, 2, 3, 0] rfl)
  have B30 : ∀ (x1 : Int32) (x2 : Int32) (fML : (Nat → Int64)) (fMR : (Nat → Int32)), wp_X3_layRing_b30 x1 x2 mk mp fMM fML fMR post → mW p l e rm_X3_layRing s m args below meth c 0 0 Q A (dC, dI) 4 [oM aM aMM aML aMY aMT aMR aMB aMN mk mp, aI aMM cZ 36 fMM, aJ aML cJ 61 fML, aI aMR cI 60 fMR] [(0, .ref aM), (1, .int x1), (2, .int x2)] 30 [] := by
    intro x1 x2 fML fMR h
    unfold wp_X3_layRing_b30 at h
    intro H locs ls hP hD hS hl
    refine lv_iload_n hx hb dX3_layRing_30 rfl (lv_at hl 2 rfl) ?_
    refine lv_aload_n hx hb dX3_layRing_31 rfl (lv_at hl 0 rfl) ?_
    refine va_get (D := (dC, dI)) (ci := 3) (v := .int mk) (C := RX3) (T := TX3) (N := 9) hx hb hts in_X3 hown hK hP 0 rfl rfl 0 (by decide) k_40 (fun _ h9 => h9) rfl dX3_layRing_32 ?_
    refine lv_icmp_ne (tgt := 40) hx hb dX3_layRing_35 (by decide) (fun q35 => ?_) (fun q35 => ?_)
    · have h := h.1 q35
      refine lv_aload_n hx hb dX3_layRing_40 rfl (lv_at hl 0 rfl) ?_
      refine va_get (D := (dC, dI)) (ci := 3) (v := .ref aMR) (C := RX3) (T := TX3) (N := 9) hx hb hts in_X3 hown hK hP 0 rfl rfl 5 (by decide) k_23 (fun _ h9 => h9) rfl dX3_layRing_41 ?_
      refine lv_iconst (v := 0) hx hb dX3_layRing_44 (by decide) ?_
      refine lv_iload_n hx hb dX3_layRing_45 rfl (lv_at hl 2 rfl) ?_
      refine va_iast (D := (dC, dI)) hx hb hK hP hD hS 3 0 rfl rfl h.1 dX3_layRing_46 (fun H locs hP hD hS => ?_)
      obtain ⟨fMR_46, efMR_46⟩ : ∃ y, y = upd fMR (0 : Int32).toNatClampNeg x2 := ⟨_, rfl⟩
      have h := h.2 fMR_46 efMR_46
      have hP : va_P (dC, dI) vwCl [oM aM aMM aML aMY aMT aMR aMB aMN mk mp, aI aMM cZ 36 fMM, aJ aML cJ 61 fML, aI aMR cI 60 fMR_46] H := by rw [efMR_46]; exact hP
      have hD : va_D A [oM aM aMM aML aMY aMT aMR aMB aMN mk mp, aI aMM cZ 36 fMM, aJ aML cJ 61 fML, aI aMR cI 60 fMR_46] := by rw [efMR_46]; exact hD
      refine lv_iconst (v := 1) hx hb dX3_layRing_47 (by decide) ?_
      refine lv_istore_n (lv' := [(3, .int (1 : Int32)), (0, .ref aM), (1, .int x1), (2, .int x2)]) hx hb dX3_layRing_48 rfl hl (by decide) rfl (fun ls hl => ?_)
      exact B49 _ _ _ _ _ h H locs ls hP hD hS (lv_sub hl [1, 2, 3, 0] rfl)
    · have h := h.2 q35
      refine lv_iconst (v := 0) hx hb dX3_layRing_38 (by decide) ?_
      exact ret _ _ _ H locs ls _ dX3_layRing_39 (Or.inl rfl) h hP hD hS
  have B6 : ∀ (x1 : Int32) (x2 : Int32) (fML : (Nat → Int64)) (fMR : (Nat → Int32)), wp_X3_layRing_b6 x1 x2 mk mp fMM fML fMR post → mW p l e rm_X3_layRing s m args below meth c 0 0 Q A (dC, dI) 4 [oM aM aMM aML aMY aMT aMR aMB aMN mk mp, aI aMM cZ 36 fMM, aJ aML cJ 61 fML, aI aMR cI 60 fMR] [(0, .ref aM), (1, .int x1), (2, .int x2)] 6 [] := by
    intro x1 x2 fML fMR h
    unfold wp_X3_layRing_b6 at h
    refine h (fun (x2 : Int32) => mW p l e rm_X3_layRing s m args below meth c 0 0 Q A (dC, dI) 4 [oM aM aMM aML aMY aMT aMR aMB aMN mk mp, aI aMM cZ 36 fMM, aJ aML cJ 61 fML, aI aMR cI 60 fMR] [(0, .ref aM), (1, .int x1), (2, .int x2)] 6 []) ?_
    intro x2 h
    intro H locs ls hP hD hS hl
    refine lv_iload_n hx hb dX3_layRing_6 rfl (lv_at hl 2 rfl) ?_
    refine lv_aload_n hx hb dX3_layRing_7 rfl (lv_at hl 0 rfl) ?_
    refine va_get (D := (dC, dI)) (ci := 3) (v := .int mk) (C := RX3) (T := TX3) (N := 9) hx hb hts in_X3 hown hK hP 0 rfl rfl 0 (by decide) k_40 (fun _ h9 => h9) rfl dX3_layRing_8 ?_
    refine lv_icmp_ge (tgt := 30) hx hb dX3_layRing_11 (by decide) (fun q11 => ?_) (fun q11 => ?_)
    · have h := h.1 q11
      exact B30 _ _ _ _ h H locs ls hP hD hS (lv_sub hl [0, 1, 2] rfl)
    · have h := h.2 q11
      refine lv_aload_n hx hb dX3_layRing_14 rfl (lv_at hl 0 rfl) ?_
      refine lv_iload_n hx hb dX3_layRing_15 rfl (lv_at hl 2 rfl) ?_
      refine lv_iload_n hx hb dX3_layRing_16 rfl (lv_at hl 2 rfl) ?_
      refine lv_iload_n hx hb dX3_layRing_17 rfl (lv_at hl 1 rfl) ?_
      refine mVi (wr := [aI aMM cZ 36 fMM, aI aMR cI 60 fMR]) (As := [.int x2, .int x2, .int x1]) (rest := []) ⟨hx, hb, hml, hown, hts⟩ (c_X3_isWalk (l := l) (dC := dC) (dI := dI) (cI := cI) (cJ := cJ) (cZ := cZ) (aM := aM) (aMM := aMM) (aML := aML) (aMY := aMY) (aMT := aMT) (aMR := aMR) (aMB := aMB) (aMN := aMN) h) (cwV 3 hts gX3_layRing_X3_isWalk rfl rfl rfl hv_X3_isWalk ⟨Nat.le_of_ble_eq_true rfl, Nat.le_of_ble_eq_true rfl⟩) hK hP hD hS hA [0, 2] [1, 3] rfl rfl rfl rfl (by decide) 3 rfl rfl rfl rfl hl.1 rfl (Nat.le_of_ble_eq_true rfl) ⟨Nat.zero_le _, Nat.zero_le _⟩ dX3_layRing_18 (fun r18 u18 H locs h hP hD hS => ?_)
      have hP : va_P (dC, dI) vwCl [oM aM aMM aML aMY aMT aMR aMB aMN mk mp, aI aMM cZ 36 fMM, aJ aML cJ 61 fML, aI aMR cI 60 fMR] H := hP.sub [2, 0, 3, 1] rfl
      have hD : va_D A [oM aM aMM aML aMY aMT aMR aMB aMN mk mp, aI aMM cZ 36 fMM, aJ aML cJ 61 fML, aI aMR cI 60 fMR] := hD.sub [2, 0, 3, 1] rfl rfl
      refine lv_if_ne (tgt := 30) hx hb dX3_layRing_21 (by decide) (fun q21 => ?_) (fun q21 => ?_)
      · have h := h.1 q21
        exact B30 _ _ _ _ h H locs ls hP hD hS (lv_sub hl [0, 1, 2] rfl)
      · have h := h.2 q21
        obtain ⟨v24, ev24⟩ : ∃ y : Int32, y = x2 + (1 : Int32) := ⟨_, rfl⟩
        have h := h v24 ev24
        refine lv_iinc (v := v24) (lv' := [(2, .int v24), (0, .ref aM), (1, .int x1)]) hx hb dX3_layRing_24 hl (k := 2) rfl (by rw [ev24]; rfl) (by decide) rfl (fun ls hl => ?_)
        refine lv_goto (tgt := 6) hx hb dX3_layRing_27 (by decide) ?_
        exact h H locs ls hP hD hS (lv_sub hl [1, 2, 0] rfl)
  unfold wp_X3_layRing at h
  intro H locs ls hP hD hS hl
  refine lv_aload_n hx hb dX3_layRing_0 rfl (lv_at hl 0 rfl) ?_
  refine mVv (wr := [aI aMR cI 60 fMR]) (As := []) (rest := []) ⟨hx, hb, hml, hown, hts⟩ (c_X3_layLeads (l := l) (dC := dC) (dI := dI) (cI := cI) (cJ := cJ) (cZ := cZ) (aM := aM) (aMM := aMM) (aML := aML) (aMY := aMY) (aMT := aMT) (aMR := aMR) (aMB := aMB) (aMN := aMN) h) (cwV 0 hts gX3_layRing_X3_layLeads rfl rfl rfl hv_X3_layLeads ⟨Nat.le_of_ble_eq_true rfl, Nat.le_of_ble_eq_true rfl⟩) hK hP hD hS hA [0, 1, 2] [3] rfl rfl rfl rfl (by decide) 3 rfl rfl rfl rfl hl.1 rfl (Nat.le_of_ble_eq_true rfl) ⟨Nat.zero_le _, Nat.zero_le _⟩ dX3_layRing_1 (fun fML_1 H locs h hP hD hS => ?_)
  have hP : va_P (dC, dI) vwCl [oM aM aMM aML aMY aMT aMR aMB aMN mk mp, aI aMM cZ 36 fMM, aJ aML cJ 61 fML_1, aI aMR cI 60 fMR] H := hP.sub [1, 2, 3, 0] rfl
  have hD : va_D A [oM aM aMM aML aMY aMT aMR aMB aMN mk mp, aI aMM cZ 36 fMM, aJ aML cJ 61 fML_1, aI aMR cI 60 fMR] := hD.sub [1, 2, 3, 0] rfl rfl
  refine lv_iconst (v := 0) hx hb dX3_layRing_4 (by decide) ?_
  refine lv_istore_n (lv' := [(2, .int (0 : Int32)), (0, .ref aM), (1, .int x1)]) hx hb dX3_layRing_5 rfl hl (by decide) rfl (fun ls hl => ?_)
  exact B6 _ _ _ _ h H locs ls hP hD hS (lv_sub hl [1, 2, 0] rfl)
set_option maxHeartbeats 4000000 in
set_option maxRecDepth 100000 in
theorem c_X3_layRing {l : Launch} {dC : Nat → ClassId} {dI : Nat → Nat → Nat} {cI cJ cZ : ClassId} {aM aMM aML aMY aMT aMR aMB aMN : Nat} {mk : Int32} {mp : Int32} {fMM : (Nat → Int32)} {fML : (Nat → Int64)} {fMR : (Nat → Int32)} {x1 : Int32} {post : Int32 → (Nat → Int64) → (Nat → Int32) → Prop} (h : wp_X3_layRing x1 mk mp fMM fML fMR post) : ∀ sz, Met l yX3_layRing wsX3_layRing rm_X3_layRing (mP (dC, dI) (mTy cI cJ cZ) [.ref aM, .int x1] [oM aM aMM aML aMY aMT aMR aMB aMN mk mp, aI aMM cZ 36 fMM, aJ aML cJ 61 fML, aI aMR cI 60 fMR] sz) (va_Qi (fun (r : Int32) (u : (Nat → Int64) × (Nat → Int32)) => post r (u.1) (u.2)) (mB (dC, dI) (va_A [oM aM aMM aML aMY aMT aMR aMB aMN mk mp, aI aMM cZ 36 fMM, aJ aML cJ 61 fML, aI aMR cI 60 fMR] sz) (fun u => [oM aM aMM aML aMY aMT aMR aMB aMN mk mp, aI aMM cZ 36 fMM, aJ aML cJ 61 (u.1), aI aMR cI 60 (u.2)])) (va_A [oM aM aMM aML aMY aMT aMR aMB aMN mk mp, aI aMM cZ 36 fMM, aJ aML cJ 61 fML, aI aMR cI 60 fMR] sz)) 0 0 (va_A [oM aM aMM aML aMY aMT aMR aMB aMN mk mp, aI aMM cZ 36 fMM, aJ aML cJ 61 fML, aI aMR cI 60 fMR] sz) := by
  intro sz
  refine Met.ofW (cc := cX3_layRing) (maxL := 4) (ret := (some .boolean)) (by decide) rfl ?_
  intro p e s m args below meth c s₁ B hml hv
  obtain ⟨rfl, hsz, hP, hK, hD0⟩ := hv
  have hlocks := B.notSynchronized
  subst hsz
  have hD := hD0.self (sz := s.heap.size)
  have hl := lv_entry ([.ref aM, .int x1]) (n := 4) (Nat.le_of_ble_eq_true rfl)
  rw [lg_entry_eq]
  exact k_X3_layRing B.exec B.bytes hml (findClass_of_methodNamed B.named) (atoms_spec (ws := wsX3_layRing) B.pre) hK (fun q hq => Or.inr hq) (fun r fML' fMR' H locs ls pc hd hz hp hP hD hS => W.zret B.exec B.bytes B.returns (m_bz hz) (fun t ht hW => ⟨⟨r, (fML', fMR'), rfl, hp, by rw [ht]; exact hP, hD⟩, hS.F ht⟩) hS.2.2 hd) h s.heap [] _ hP hD va_S.rf hl

def wp_X3_first (x1 : Int32) (x2 : Int32) (mk : Int32) (mp : Int32) (fMM : (Nat → Int32)) (fML : (Nat → Int64)) (fMR : (Nat → Int32)) (post : Int32 → (Nat → Int64) → (Nat → Int32) → Prop) : Prop := wp_X3_isRing x1 (fun (r1 : Int32) => ((¬ r1 = (0 : Int32) → wp_X3_in x2 (0 : Int32) (x1 - (1 : Int32)) (fun (r15 : Int32) => ((¬ r15 = (0 : Int32) → wp_X3_layRing x1 mk mp fMM fML fMR (fun (r25 : Int32) (fML_25 : (Nat → Int64)) (fMR_25 : (Nat → Int32)) => ((r25 = (0 : Int32) → post (-9 : Int32) fML_25 fMR_25) ∧ (¬ r25 = (0 : Int32) → (vp_in x2 60 ∧ post (fMR_25 x2.toNatClampNeg) fML_25 fMR_25))))) ∧ (r15 = (0 : Int32) → post (-1 : Int32) fML fMR)))) ∧ (r1 = (0 : Int32) → post (-2 : Int32) fML fMR)))
abbrev rm_X3_first : Room := { frames := 3, cells := 0, slots := 0, locals := 70 }
theorem hv_X3_first : yX3_first.cls = RX3 ∧ yX3_first.cls ≠ "java/lang/invoke/MethodHandle" ∧ yX3_first.cls ≠ "java/lang/invoke/VarHandle" ∧ (parseMethodDescriptor yX3_first.desc).map (fun d => d.parameters.length) = some 2 := by decide +kernel
set_option maxHeartbeats 4000000 in
set_option maxRecDepth 100000 in
theorem k_X3_first {p : Program} {l : Launch} {e : Env} {s : State} {m : MethodId} {args : Array Value} {below : List Frame} {meth : Method} {c : Code} {Q : State → Prop} {A : Nat → Prop} {dC : Nat → ClassId} {dI : Nat → Nat → Nat} {cI cJ cZ : ClassId} (hx : p.tables.exec = Jvm.exec) (hb : c.code = cX3_first) (hml : c.maxLocals = 3) (hown : s.vm.findClass RX3 = some m.cls) (hts : ∀ w ∈ wsX3_first, w.before args s = true) (hK : va_K (dC, dI) vwCl (mTy cI cJ cZ) s) (hA : ∀ q, s.heap.size ≤ q → A q) {aM aMM aML aMY aMT aMR aMB aMN : Nat} {mk : Int32} {mp : Int32} {fMM : (Nat → Int32)} {fML : (Nat → Int64)} {fMR : (Nat → Int32)} {x1 : Int32} {x2 : Int32} {post : Int32 → (Nat → Int64) → (Nat → Int32) → Prop} (ret : ∀ (r : Int32) (fML' : (Nat → Int64)) (fMR' : (Nat → Int32)) (H : Heap) (locs : List Loc) (ls : Array Slot) (pc : Nat), decode cX3_first pc = .ok (.ireturn, 1) → post r fML' fMR' → va_P (dC, dI) vwCl [oM aM aMM aML aMY aMT aMR aMB aMN mk mp, aI aMM cZ 36 fMM, aJ aML cJ 61 fML', aI aMR cI 60 fMR'] H → va_D A [oM aM aMM aML aMY aMT aMR aMB aMN mk mp, aI aMM cZ 36 fMM, aJ aML cJ 61 fML', aI aMR cI 60 fMR'] → va_S A s.heap H locs → W p l e rm_X3_first s m args below meth c H locs 0 0 Q (F0 m pc ls [.int r])) (h : wp_X3_first x1 x2 mk mp fMM fML fMR post) : mW p l e rm_X3_first s m args below meth c 0 0 Q A (dC, dI) 3 [oM aM aMM aML aMY aMT aMR aMB aMN mk mp, aI aMM cZ 36 fMM, aJ aML cJ 61 fML, aI aMR cI 60 fMR] [(0, .ref aM), (1, .int x1), (2, .int x2)] 0 [] := by
  have in_X3 : ∀ w ∈ wsX30, w ∈ wsX3_first := fun w hw => List.mem_cons_of_mem _ (List.mem_append_right _ hw)
  have k_23 := hts (.fieldLink RX3 23 "RingTasksModel" "row" "[I") (List.mem_of_getElem? (i := 1) rfl)
  unfold wp_X3_first at h
  intro H locs ls hP hD hS hl
  refine lv_iload_n hx hb dX3_first_0 rfl (lv_at hl 1 rfl) ?_
  refine mSi (wr := [oM aM aMM aML aMY aMT aMR aMB aMN mk mp, aI aMM cZ 36 fMM, aJ aML cJ 61 fML, aI aMR cI 60 fMR]) (As := [.int x1]) (rest := []) ⟨hx, hb, hml, hown, hts⟩ (c_X3_isRing (l := l) (dC := dC) (dI := dI) (cI := cI) (cJ := cJ) (cZ := cZ)  h) (va_cwS 1 hts gX3_first_X3_isRing rfl rfl rfl hv_X3_isRing ⟨Nat.le_of_ble_eq_true rfl, Nat.le_of_ble_eq_true rfl⟩) hK hP hD hS hA [] [0, 1, 2, 3] rfl rfl rfl rfl (by decide) rfl hl.1 rfl (Nat.le_of_ble_eq_true rfl) ⟨Nat.zero_le _, Nat.zero_le _⟩ dX3_first_1 (fun r1 u1 H locs h hP hD hS => ?_)
  have hP : va_P (dC, dI) vwCl [oM aM aMM aML aMY aMT aMR aMB aMN mk mp, aI aMM cZ 36 fMM, aJ aML cJ 61 fML, aI aMR cI 60 fMR] H := hP.sub [0, 1, 2, 3] rfl
  have hD : va_D A [oM aM aMM aML aMY aMT aMR aMB aMN mk mp, aI aMM cZ 36 fMM, aJ aML cJ 61 fML, aI aMR cI 60 fMR] := hD.sub [0, 1, 2, 3] rfl rfl
  refine lv_if_ne (tgt := 10) hx hb dX3_first_4 (by decide) (fun q4 => ?_) (fun q4 => ?_)
  · have h := h.1 q4
    refine lv_iload_n hx hb dX3_first_10 rfl (lv_at hl 2 rfl) ?_
    refine lv_iconst (v := 0) hx hb dX3_first_11 (by decide) ?_
    refine lv_iload_n hx hb dX3_first_12 rfl (lv_at hl 1 rfl) ?_
    refine lv_iconst (v := 1) hx hb dX3_first_13 (by decide) ?_
    refine lv_isub hx hb dX3_first_14 ?_
    refine mSi (wr := [oM aM aMM aML aMY aMT aMR aMB aMN mk mp, aI aMM cZ 36 fMM, aJ aML cJ 61 fML, aI aMR cI 60 fMR]) (As := [.int x2, .int (0 : Int32), .int (x1 - (1 : Int32))]) (rest := []) ⟨hx, hb, hml, hown, hts⟩ (c_X3_in (l := l) (dC := dC) (dI := dI) (cI := cI) (cJ := cJ) (cZ := cZ)  h) (va_cwS 3 hts gX3_first_X3_in rfl rfl rfl hv_X3_in ⟨Nat.le_of_ble_eq_true rfl, Nat.le_of_ble_eq_true rfl⟩) hK hP hD hS hA [] [0, 1, 2, 3] rfl rfl rfl rfl (by decide) rfl hl.1 rfl (Nat.le_of_ble_eq_true rfl) ⟨Nat.zero_le _, Nat.zero_le _⟩ dX3_first_15 (fun r15 u15 H locs h hP hD hS => ?_)
    have hP : va_P (dC, dI) vwCl [oM aM aMM aML aMY aMT aMR aMB aMN mk mp, aI aMM cZ 36 fMM, aJ aML cJ 61 fML, aI aMR cI 60 fMR] H := hP.sub [0, 1, 2, 3] rfl
    have hD : va_D A [oM aM aMM aML aMY aMT aMR aMB aMN mk mp, aI aMM cZ 36 fMM, aJ aML cJ 61 fML, aI aMR cI 60 fMR] := hD.sub [0, 1, 2, 3] rfl rfl
    refine lv_if_ne (tgt := 23) hx hb dX3_first_18 (by decide) (fun q18 => ?_) (fun q18 => ?_)
    · have h := h.1 q18
      refine lv_aload_n hx hb dX3_first_23 rfl (lv_at hl 0 rfl) ?_
      refine lv_iload_n hx hb dX3_first_24 rfl (lv_at hl 1 rfl) ?_
      refine mVi (wr := []) (As := [.int x1]) (rest := []) ⟨hx, hb, hml, hown, hts⟩ (c_X3_layRing (l := l) (dC := dC) (dI := dI) (cI := cI) (cJ := cJ) (cZ := cZ) (aM := aM) (aMM := aMM) (aML := aML) (aMY := aMY) (aMT := aMT) (aMR := aMR) (aMB := aMB) (aMN := aMN) h) (cwV 1 hts gX3_first_X3_layRing rfl rfl rfl hv_X3_layRing ⟨Nat.le_of_ble_eq_true rfl, Nat.le_of_ble_eq_true rfl⟩) hK hP hD hS hA [0, 1, 2, 3] [] rfl rfl rfl rfl (by decide) 3 rfl rfl rfl rfl hl.1 rfl (Nat.le_of_ble_eq_true rfl) ⟨Nat.zero_le _, Nat.zero_le _⟩ dX3_first_25 (fun r25 u25 H locs h hP hD hS => ?_)
      obtain ⟨fML_25, fMR_25⟩ := u25
      have hP : va_P (dC, dI) vwCl [oM aM aMM aML aMY aMT aMR aMB aMN mk mp, aI aMM cZ 36 fMM, aJ aML cJ 61 fML_25, aI aMR cI 60 fMR_25] H := hP.sub [0, 1, 2, 3] rfl
      have hD : va_D A [oM aM aMM aML aMY aMT aMR aMB aMN mk mp, aI aMM cZ 36 fMM, aJ aML cJ 61 fML_25, aI aMR cI 60 fMR_25] := hD.sub [0, 1, 2, 3] rfl rfl
      refine lv_if_eq (tgt := 40) hx hb dX3_first_28 (by decide) (fun q28 => ?_) (fun q28 => ?_)
      · have h := h.1 q28
        refine lv_bipush (v := -9) hx hb dX3_first_40 (by decide) ?_
        exact ret _ _ _ H locs ls _ dX3_first_42 h hP hD hS
      · have h := h.2 q28
        refine lv_aload_n hx hb dX3_first_31 rfl (lv_at hl 0 rfl) ?_
        refine va_get (D := (dC, dI)) (ci := 3) (v := .ref aMR) (C := RX3) (T := TX3) (N := 9) hx hb hts in_X3 hown hK hP 0 rfl rfl 5 (by decide) k_23 (fun _ h9 => h9) rfl dX3_first_32 ?_
        refine lv_iload_n hx hb dX3_first_35 rfl (lv_at hl 2 rfl) ?_
        refine va_iald (D := (dC, dI)) hx hb hK hP 3 0 rfl rfl h.1 dX3_first_36 ?_
        have h := h.2
        refine lv_goto (tgt := 42) hx hb dX3_first_37 (by decide) ?_
        exact ret _ _ _ H locs ls _ dX3_first_42 h hP hD hS
    · have h := h.2 q18
      refine lv_iconst (v := -1) hx hb dX3_first_21 (by decide) ?_
      exact ret _ _ _ H locs ls _ dX3_first_22 h hP hD hS
  · have h := h.2 q4
    refine lv_bipush (v := -2) hx hb dX3_first_7 (by decide) ?_
    exact ret _ _ _ H locs ls _ dX3_first_9 h hP hD hS
set_option maxHeartbeats 4000000 in
set_option maxRecDepth 100000 in
theorem c_X3_first {l : Launch} {dC : Nat → ClassId} {dI : Nat → Nat → Nat} {cI cJ cZ : ClassId} {aM aMM aML aMY aMT aMR aMB aMN : Nat} {mk : Int32} {mp : Int32} {fMM : (Nat → Int32)} {fML : (Nat → Int64)} {fMR : (Nat → Int32)} {x1 : Int32} {x2 : Int32} {post : Int32 → (Nat → Int64) → (Nat → Int32) → Prop} (h : wp_X3_first x1 x2 mk mp fMM fML fMR post) : ∀ sz, Met l yX3_first wsX3_first rm_X3_first (mP (dC, dI) (mTy cI cJ cZ) [.ref aM, .int x1, .int x2] [oM aM aMM aML aMY aMT aMR aMB aMN mk mp, aI aMM cZ 36 fMM, aJ aML cJ 61 fML, aI aMR cI 60 fMR] sz) (va_Qi (fun (r : Int32) (u : (Nat → Int64) × (Nat → Int32)) => post r (u.1) (u.2)) (mB (dC, dI) (va_A [oM aM aMM aML aMY aMT aMR aMB aMN mk mp, aI aMM cZ 36 fMM, aJ aML cJ 61 fML, aI aMR cI 60 fMR] sz) (fun u => [oM aM aMM aML aMY aMT aMR aMB aMN mk mp, aI aMM cZ 36 fMM, aJ aML cJ 61 (u.1), aI aMR cI 60 (u.2)])) (va_A [oM aM aMM aML aMY aMT aMR aMB aMN mk mp, aI aMM cZ 36 fMM, aJ aML cJ 61 fML, aI aMR cI 60 fMR] sz)) 0 0 (va_A [oM aM aMM aML aMY aMT aMR aMB aMN mk mp, aI aMM cZ 36 fMM, aJ aML cJ 61 fML, aI aMR cI 60 fMR] sz) := by
  intro sz
  refine Met.ofW (cc := cX3_first) (maxL := 3) (ret := (some .int)) (by decide) rfl ?_
  intro p e s m args below meth c s₁ B hml hv
  obtain ⟨rfl, hsz, hP, hK, hD0⟩ := hv
  have hlocks := B.notSynchronized
  subst hsz
  have hD := hD0.self (sz := s.heap.size)
  have hl := lv_entry ([.ref aM, .int x1, .int x2]) (n := 3) (Nat.le_of_ble_eq_true rfl)
  rw [lg_entry_eq]
  exact k_X3_first B.exec B.bytes hml (findClass_of_methodNamed B.named) (atoms_spec (ws := wsX3_first) B.pre) hK (fun q hq => Or.inr hq) (fun r fML' fMR' H locs ls pc hd hp hP hD hS => W.iret B.exec B.bytes B.returns (fun t ht hW => ⟨⟨r, (fML', fMR'), rfl, hp, by rw [ht]; exact hP, hD⟩, hS.F ht⟩) hS.2.2 hd) h s.heap [] _ hP hD va_S.rf hl

def wp_X3_isOneBlock_b35 (x1 : Int32) (x2 : Int32) (x4 : Int32) (x5 : Int32) (z0 : Int32) (mk : Int32) (mp : Int32) (fML : (Nat → Int64)) (post : Int32 → Prop) (P8 : Int32 → Int32 → Int32 → Prop) : Prop := ((¬ x4 = (0 : Int32) → (∀ v59 : Int32, v59 = x5 + (1 : Int32) → P8 z0 (1 : Int32) v59)) ∧ (x4 = (0 : Int32) → wp_X3_isWalk x2 x1 x5 mk mp fML (fun (r46 : Int32) => ((r46 = (0 : Int32) → (∀ v59 : Int32, v59 = x5 + (1 : Int32) → P8 z0 (0 : Int32) v59)) ∧ (¬ r46 = (0 : Int32) → (∀ v59 : Int32, v59 = x5 + (1 : Int32) → P8 z0 (1 : Int32) v59))))))
def wp_X3_isOneBlock_b8 (x1 : Int32) (x2 : Int32) (x3 : Int32) (x4 : Int32) (x5 : Int32) (mk : Int32) (mp : Int32) (fML : (Nat → Int64)) (post : Int32 → Prop)  : Prop := ∀ P8 : Int32 → Int32 → Int32 → Prop, (∀ (x3 : Int32) (x4 : Int32) (x5 : Int32), (((6 : Int32) ≤ x5 → ((x3 = (0 : Int32) → post (0 : Int32)) ∧ (¬ x3 = (0 : Int32) → ((x4 = (0 : Int32) → post (0 : Int32)) ∧ (¬ x4 = (0 : Int32) → post (1 : Int32)))))) ∧ (¬ (6 : Int32) ≤ x5 → ((¬ x3 = (0 : Int32) → wp_X3_isOneBlock_b35 x1 x2 x4 x5 (1 : Int32) mk mp fML post P8) ∧ (x3 = (0 : Int32) → wp_X3_isWalk x1 x2 x5 mk mp fML (fun (r24 : Int32) => ((r24 = (0 : Int32) → wp_X3_isOneBlock_b35 x1 x2 x4 x5 (0 : Int32) mk mp fML post P8) ∧ (¬ r24 = (0 : Int32) → wp_X3_isOneBlock_b35 x1 x2 x4 x5 (1 : Int32) mk mp fML post P8))))))) → P8 x3 x4 x5) → P8 x3 x4 x5
def wp_X3_isOneBlock (x1 : Int32) (x2 : Int32) (mk : Int32) (mp : Int32) (fML : (Nat → Int64)) (post : Int32 → Prop) : Prop := wp_X3_isOneBlock_b8 x1 x2 (0 : Int32) (0 : Int32) (0 : Int32) mk mp fML post
abbrev rm_X3_isOneBlock : Room := { frames := 1, cells := 0, slots := 0, locals := 23 }
theorem hv_X3_isOneBlock : yX3_isOneBlock.cls = RX3 ∧ yX3_isOneBlock.cls ≠ "java/lang/invoke/MethodHandle" ∧ yX3_isOneBlock.cls ≠ "java/lang/invoke/VarHandle" ∧ (parseMethodDescriptor yX3_isOneBlock.desc).map (fun d => d.parameters.length) = some 2 := by decide +kernel
set_option maxHeartbeats 4000000 in
set_option maxRecDepth 100000 in
theorem k_X3_isOneBlock {p : Program} {l : Launch} {e : Env} {s : State} {m : MethodId} {args : Array Value} {below : List Frame} {meth : Method} {c : Code} {Q : State → Prop} {A : Nat → Prop} {dC : Nat → ClassId} {dI : Nat → Nat → Nat} {cI cJ cZ : ClassId} (hx : p.tables.exec = Jvm.exec) (hb : c.code = cX3_isOneBlock) (hml : c.maxLocals = 6) (hown : s.vm.findClass RX3 = some m.cls) (hts : ∀ w ∈ wsX3_isOneBlock, w.before args s = true) (hK : va_K (dC, dI) vwCl (mTy cI cJ cZ) s) (hA : ∀ q, s.heap.size ≤ q → A q) {aM aMM aML aMY aMT aMR aMB aMN : Nat} {mk : Int32} {mp : Int32} {fML : (Nat → Int64)} {x1 : Int32} {x2 : Int32} {post : Int32 → Prop} (ret : ∀ (r : Int32) (H : Heap) (locs : List Loc) (ls : Array Slot) (pc : Nat), decode cX3_isOneBlock pc = .ok (.ireturn, 1) → (r = 0 ∨ r = 1) → post r → va_P (dC, dI) vwCl [oM aM aMM aML aMY aMT aMR aMB aMN mk mp, aJ aML cJ 61 fML] H → va_D A [oM aM aMM aML aMY aMT aMR aMB aMN mk mp, aJ aML cJ 61 fML] → va_S A s.heap H locs → W p l e rm_X3_isOneBlock s m args below meth c H locs 0 0 Q (F0 m pc ls [.int r])) (h : wp_X3_isOneBlock x1 x2 mk mp fML post) : mW p l e rm_X3_isOneBlock s m args below meth c 0 0 Q A (dC, dI) 6 [oM aM aMM aML aMY aMT aMR aMB aMN mk mp, aJ aML cJ 61 fML] [(0, .ref aM), (1, .int x1), (2, .int x2)] 0 [] := by
  have B35 : ∀ (x1 : Int32) (x2 : Int32) (x4 : Int32) (x5 : Int32) (z0 : Int32), ∀ (P8 : Int32 → Int32 → Int32 → Prop) (hP8 : ∀ (x3 : Int32) (x4 : Int32) (x5 : Int32), P8 x3 x4 x5 → mW p l e rm_X3_isOneBlock s m args below meth c 0 0 Q A (dC, dI) 6 [oM aM aMM aML aMY aMT aMR aMB aMN mk mp, aJ aML cJ 61 fML] [(0, .ref aM), (1, .int x1), (2, .int x2), (3, .int x3), (4, .int x4), (5, .int x5)] 8 []), wp_X3_isOneBlock_b35 x1 x2 x4 x5 z0 mk mp fML post P8 → mW p l e rm_X3_isOneBlock s m args below meth c 0 0 Q A (dC, dI) 6 [oM aM aMM aML aMY aMT aMR aMB aMN mk mp, aJ aML cJ 61 fML] [(0, .ref aM), (1, .int x1), (2, .int x2), (4, .int x4), (5, .int x5)] 35 [.int z0] := by
    intro x1 x2 x4 x5 z0 P8 hP8 h
    unfold wp_X3_isOneBlock_b35 at h
    intro H locs ls hP hD hS hl
    refine lv_istore_n (lv' := [(3, .int z0), (0, .ref aM), (1, .int x1), (2, .int x2), (4, .int x4), (5, .int x5)]) hx hb dX3_isOneBlock_35 rfl hl (by decide) rfl (fun ls hl => ?_)
    refine lv_iload hx hb dX3_isOneBlock_36 (lv_at hl 4 rfl) ?_
    refine lv_if_ne (tgt := 52) hx hb dX3_isOneBlock_38 (by decide) (fun q38 => ?_) (fun q38 => ?_)
    · have h := h.1 q38
      refine lv_iconst (v := 1) hx hb dX3_isOneBlock_52 (by decide) ?_
      refine lv_goto (tgt := 57) hx hb dX3_isOneBlock_53 (by decide) ?_
      refine lv_istore (lv' := [(4, .int (1 : Int32)), (3, .int z0), (0, .ref aM), (1, .int x1), (2, .int x2), (5, .int x5)]) hx hb dX3_isOneBlock_57 hl (by decide) rfl (fun ls hl => ?_)
      obtain ⟨v59, ev59⟩ : ∃ y : Int32, y = x5 + (1 : Int32) := ⟨_, rfl⟩
      have h := h v59 ev59
      refine lv_iinc (v := v59) (lv' := [(5, .int v59), (4, .int (1 : Int32)), (3, .int z0), (0, .ref aM), (1, .int x1), (2, .int x2)]) hx hb dX3_isOneBlock_59 hl (k := 5) rfl (by rw [ev59]; rfl) (by decide) rfl (fun ls hl => ?_)
      refine lv_goto (tgt := 8) hx hb dX3_isOneBlock_62 (by decide) ?_
      exact hP8 _ _ _ h H locs ls hP hD hS (lv_sub hl [3, 4, 5, 2, 1, 0] rfl)
    · have h := h.2 q38
      refine lv_aload_n hx hb dX3_isOneBlock_41 rfl (lv_at hl 1 rfl) ?_
      refine lv_iload_n hx hb dX3_isOneBlock_42 rfl (lv_at hl 3 rfl) ?_
      refine lv_iload_n hx hb dX3_isOneBlock_43 rfl (lv_at hl 2 rfl) ?_
      refine lv_iload hx hb dX3_isOneBlock_44 (lv_at hl 5 rfl) ?_
      refine mVi (wr := []) (As := [.int x2, .int x1, .int x5]) (rest := []) ⟨hx, hb, hml, hown, hts⟩ (c_X3_isWalk (l := l) (dC := dC) (dI := dI) (cI := cI) (cJ := cJ) (cZ := cZ) (aM := aM) (aMM := aMM) (aML := aML) (aMY := aMY) (aMT := aMT) (aMR := aMR) (aMB := aMB) (aMN := aMN) h) (cwV 3 hts gX3_isOneBlock_X3_isWalk rfl rfl rfl hv_X3_isWalk ⟨Nat.le_of_ble_eq_true rfl, Nat.le_of_ble_eq_true rfl⟩) hK hP hD hS hA [0, 1] [] rfl rfl rfl rfl (by decide) 3 rfl rfl rfl rfl hl.1 rfl (Nat.le_of_ble_eq_true rfl) ⟨Nat.zero_le _, Nat.zero_le _⟩ dX3_isOneBlock_46 (fun r46 u46 H locs h hP hD hS => ?_)
      have hP : va_P (dC, dI) vwCl [oM aM aMM aML aMY aMT aMR aMB aMN mk mp, aJ aML cJ 61 fML] H := hP.sub [0, 1] rfl
      have hD : va_D A [oM aM aMM aML aMY aMT aMR aMB aMN mk mp, aJ aML cJ 61 fML] := hD.sub [0, 1] rfl rfl
      refine lv_if_eq (tgt := 56) hx hb dX3_isOneBlock_49 (by decide) (fun q49 => ?_) (fun q49 => ?_)
      · have h := h.1 q49
        refine lv_iconst (v := 0) hx hb dX3_isOneBlock_56 (by decide) ?_
        refine lv_istore (lv' := [(4, .int (0 : Int32)), (3, .int z0), (0, .ref aM), (1, .int x1), (2, .int x2), (5, .int x5)]) hx hb dX3_isOneBlock_57 hl (by decide) rfl (fun ls hl => ?_)
        obtain ⟨v59, ev59⟩ : ∃ y : Int32, y = x5 + (1 : Int32) := ⟨_, rfl⟩
        have h := h v59 ev59
        refine lv_iinc (v := v59) (lv' := [(5, .int v59), (4, .int (0 : Int32)), (3, .int z0), (0, .ref aM), (1, .int x1), (2, .int x2)]) hx hb dX3_isOneBlock_59 hl (k := 5) rfl (by rw [ev59]; rfl) (by decide) rfl (fun ls hl => ?_)
        refine lv_goto (tgt := 8) hx hb dX3_isOneBlock_62 (by decide) ?_
        exact hP8 _ _ _ h H locs ls hP hD hS (lv_sub hl [3, 4, 5, 2, 1, 0] rfl)
      · have h := h.2 q49
        refine lv_iconst (v := 1) hx hb dX3_isOneBlock_52 (by decide) ?_
        refine lv_goto (tgt := 57) hx hb dX3_isOneBlock_53 (by decide) ?_
        refine lv_istore (lv' := [(4, .int (1 : Int32)), (3, .int z0), (0, .ref aM), (1, .int x1), (2, .int x2), (5, .int x5)]) hx hb dX3_isOneBlock_57 hl (by decide) rfl (fun ls hl => ?_)
        obtain ⟨v59, ev59⟩ : ∃ y : Int32, y = x5 + (1 : Int32) := ⟨_, rfl⟩
        have h := h v59 ev59
        refine lv_iinc (v := v59) (lv' := [(5, .int v59), (4, .int (1 : Int32)), (3, .int z0), (0, .ref aM), (1, .int x1), (2, .int x2)]) hx hb dX3_isOneBlock_59 hl (k := 5) rfl (by rw [ev59]; rfl) (by decide) rfl (fun ls hl => ?_)
        refine lv_goto (tgt := 8) hx hb dX3_isOneBlock_62 (by decide) ?_
        exact hP8 _ _ _ h H locs ls hP hD hS (lv_sub hl [3, 4, 5, 2, 1, 0] rfl)
  have B8 : ∀ (x1 : Int32) (x2 : Int32) (x3 : Int32) (x4 : Int32) (x5 : Int32), wp_X3_isOneBlock_b8 x1 x2 x3 x4 x5 mk mp fML post → mW p l e rm_X3_isOneBlock s m args below meth c 0 0 Q A (dC, dI) 6 [oM aM aMM aML aMY aMT aMR aMB aMN mk mp, aJ aML cJ 61 fML] [(0, .ref aM), (1, .int x1), (2, .int x2), (3, .int x3), (4, .int x4), (5, .int x5)] 8 [] := by
    intro x1 x2 x3 x4 x5 h
    unfold wp_X3_isOneBlock_b8 at h
    refine h (fun (x3 : Int32) (x4 : Int32) (x5 : Int32) => mW p l e rm_X3_isOneBlock s m args below meth c 0 0 Q A (dC, dI) 6 [oM aM aMM aML aMY aMT aMR aMB aMN mk mp, aJ aML cJ 61 fML] [(0, .ref aM), (1, .int x1), (2, .int x2), (3, .int x3), (4, .int x4), (5, .int x5)] 8 []) ?_
    intro x3 x4 x5 h
    intro H locs ls hP hD hS hl
    refine lv_iload hx hb dX3_isOneBlock_8 (lv_at hl 5 rfl) ?_
    refine lv_bipush (v := 6) hx hb dX3_isOneBlock_10 (by decide) ?_
    refine lv_icmp_ge (tgt := 65) hx hb dX3_isOneBlock_12 (by decide) (fun q12 => ?_) (fun q12 => ?_)
    · have h := h.1 q12
      refine lv_iload_n hx hb dX3_isOneBlock_65 rfl (lv_at hl 3 rfl) ?_
      refine lv_if_eq (tgt := 78) hx hb dX3_isOneBlock_66 (by decide) (fun q66 => ?_) (fun q66 => ?_)
      · have h := h.1 q66
        refine lv_iconst (v := 0) hx hb dX3_isOneBlock_78 (by decide) ?_
        exact ret _  H locs ls _ dX3_isOneBlock_79 (Or.inl rfl) h hP hD hS
      · have h := h.2 q66
        refine lv_iload hx hb dX3_isOneBlock_69 (lv_at hl 4 rfl) ?_
        refine lv_if_eq (tgt := 78) hx hb dX3_isOneBlock_71 (by decide) (fun q71 => ?_) (fun q71 => ?_)
        · have h := h.1 q71
          refine lv_iconst (v := 0) hx hb dX3_isOneBlock_78 (by decide) ?_
          exact ret _  H locs ls _ dX3_isOneBlock_79 (Or.inl rfl) h hP hD hS
        · have h := h.2 q71
          refine lv_iconst (v := 1) hx hb dX3_isOneBlock_74 (by decide) ?_
          refine lv_goto (tgt := 79) hx hb dX3_isOneBlock_75 (by decide) ?_
          exact ret _  H locs ls _ dX3_isOneBlock_79 (Or.inr rfl) h hP hD hS
    · have h := h.2 q12
      refine lv_iload_n hx hb dX3_isOneBlock_15 rfl (lv_at hl 3 rfl) ?_
      refine lv_if_ne (tgt := 30) hx hb dX3_isOneBlock_16 (by decide) (fun q16 => ?_) (fun q16 => ?_)
      · have h := h.1 q16
        refine lv_iconst (v := 1) hx hb dX3_isOneBlock_30 (by decide) ?_
        refine lv_goto (tgt := 35) hx hb dX3_isOneBlock_31 (by decide) ?_
        exact B35 _ _ _ _ _ _ (fun _ _ _ hq => hq) h H locs ls hP hD hS (lv_sub hl [0, 1, 2, 4, 5] rfl)
      · have h := h.2 q16
        refine lv_aload_n hx hb dX3_isOneBlock_19 rfl (lv_at hl 0 rfl) ?_
        refine lv_iload_n hx hb dX3_isOneBlock_20 rfl (lv_at hl 1 rfl) ?_
        refine lv_iload_n hx hb dX3_isOneBlock_21 rfl (lv_at hl 2 rfl) ?_
        refine lv_iload hx hb dX3_isOneBlock_22 (lv_at hl 5 rfl) ?_
        refine mVi (wr := []) (As := [.int x1, .int x2, .int x5]) (rest := []) ⟨hx, hb, hml, hown, hts⟩ (c_X3_isWalk (l := l) (dC := dC) (dI := dI) (cI := cI) (cJ := cJ) (cZ := cZ) (aM := aM) (aMM := aMM) (aML := aML) (aMY := aMY) (aMT := aMT) (aMR := aMR) (aMB := aMB) (aMN := aMN) h) (cwV 3 hts gX3_isOneBlock_X3_isWalk rfl rfl rfl hv_X3_isWalk ⟨Nat.le_of_ble_eq_true rfl, Nat.le_of_ble_eq_true rfl⟩) hK hP hD hS hA [0, 1] [] rfl rfl rfl rfl (by decide) 3 rfl rfl rfl rfl hl.1 rfl (Nat.le_of_ble_eq_true rfl) ⟨Nat.zero_le _, Nat.zero_le _⟩ dX3_isOneBlock_24 (fun r24 u24 H locs h hP hD hS => ?_)
        have hP : va_P (dC, dI) vwCl [oM aM aMM aML aMY aMT aMR aMB aMN mk mp, aJ aML cJ 61 fML] H := hP.sub [0, 1] rfl
        have hD : va_D A [oM aM aMM aML aMY aMT aMR aMB aMN mk mp, aJ aML cJ 61 fML] := hD.sub [0, 1] rfl rfl
        refine lv_if_eq (tgt := 34) hx hb dX3_isOneBlock_27 (by decide) (fun q27 => ?_) (fun q27 => ?_)
        · have h := h.1 q27
          refine lv_iconst (v := 0) hx hb dX3_isOneBlock_34 (by decide) ?_
          exact B35 _ _ _ _ _ _ (fun _ _ _ hq => hq) h H locs ls hP hD hS (lv_sub hl [0, 1, 2, 4, 5] rfl)
        · have h := h.2 q27
          refine lv_iconst (v := 1) hx hb dX3_isOneBlock_30 (by decide) ?_
          refine lv_goto (tgt := 35) hx hb dX3_isOneBlock_31 (by decide) ?_
          exact B35 _ _ _ _ _ _ (fun _ _ _ hq => hq) h H locs ls hP hD hS (lv_sub hl [0, 1, 2, 4, 5] rfl)
  unfold wp_X3_isOneBlock at h
  intro H locs ls hP hD hS hl
  refine lv_iconst (v := 0) hx hb dX3_isOneBlock_0 (by decide) ?_
  refine lv_istore_n (lv' := [(3, .int (0 : Int32)), (0, .ref aM), (1, .int x1), (2, .int x2)]) hx hb dX3_isOneBlock_1 rfl hl (by decide) rfl (fun ls hl => ?_)
  refine lv_iconst (v := 0) hx hb dX3_isOneBlock_2 (by decide) ?_
  refine lv_istore (lv' := [(4, .int (0 : Int32)), (3, .int (0 : Int32)), (0, .ref aM), (1, .int x1), (2, .int x2)]) hx hb dX3_isOneBlock_3 hl (by decide) rfl (fun ls hl => ?_)
  refine lv_iconst (v := 0) hx hb dX3_isOneBlock_5 (by decide) ?_
  refine lv_istore (lv' := [(5, .int (0 : Int32)), (4, .int (0 : Int32)), (3, .int (0 : Int32)), (0, .ref aM), (1, .int x1), (2, .int x2)]) hx hb dX3_isOneBlock_6 hl (by decide) rfl (fun ls hl => ?_)
  exact B8 _ _ _ _ _ h H locs ls hP hD hS (lv_sub hl [3, 4, 5, 2, 1, 0] rfl)
set_option maxHeartbeats 4000000 in
set_option maxRecDepth 100000 in
theorem c_X3_isOneBlock {l : Launch} {dC : Nat → ClassId} {dI : Nat → Nat → Nat} {cI cJ cZ : ClassId} {aM aMM aML aMY aMT aMR aMB aMN : Nat} {mk : Int32} {mp : Int32} {fML : (Nat → Int64)} {x1 : Int32} {x2 : Int32} {post : Int32 → Prop} (h : wp_X3_isOneBlock x1 x2 mk mp fML post) : ∀ sz, Met l yX3_isOneBlock wsX3_isOneBlock rm_X3_isOneBlock (mP (dC, dI) (mTy cI cJ cZ) [.ref aM, .int x1, .int x2] [oM aM aMM aML aMY aMT aMR aMB aMN mk mp, aJ aML cJ 61 fML] sz) (va_Qi (fun (r : Int32) (u : Unit) => post r ) (mB (dC, dI) (va_A [oM aM aMM aML aMY aMT aMR aMB aMN mk mp, aJ aML cJ 61 fML] sz) (fun u => [oM aM aMM aML aMY aMT aMR aMB aMN mk mp, aJ aML cJ 61 fML])) (va_A [oM aM aMM aML aMY aMT aMR aMB aMN mk mp, aJ aML cJ 61 fML] sz)) 0 0 (va_A [oM aM aMM aML aMY aMT aMR aMB aMN mk mp, aJ aML cJ 61 fML] sz) := by
  intro sz
  refine Met.ofW (cc := cX3_isOneBlock) (maxL := 6) (ret := (some .boolean)) (by decide) rfl ?_
  intro p e s m args below meth c s₁ B hml hv
  obtain ⟨rfl, hsz, hP, hK, hD0⟩ := hv
  have hlocks := B.notSynchronized
  subst hsz
  have hD := hD0.self (sz := s.heap.size)
  have hl := lv_entry ([.ref aM, .int x1, .int x2]) (n := 6) (Nat.le_of_ble_eq_true rfl)
  rw [lg_entry_eq]
  exact k_X3_isOneBlock B.exec B.bytes hml (findClass_of_methodNamed B.named) (atoms_spec (ws := wsX3_isOneBlock) B.pre) hK (fun q hq => Or.inr hq) (fun r H locs ls pc hd hz hp hP hD hS => W.zret B.exec B.bytes B.returns (m_bz hz) (fun t ht hW => ⟨⟨r, (), rfl, hp, by rw [ht]; exact hP, hD⟩, hS.F ht⟩) hS.2.2 hd) h s.heap [] _ hP hD va_S.rf hl

def wp_X3_blockOf_b2 (x1 : Int32) (x2 : Int32) (mk : Int32) (mp : Int32) (fML : (Nat → Int64)) (post : Int32 → Prop)  : Prop := ∀ P2 : Int32 → Prop, (∀ (x2 : Int32), wp_X3_isOneBlock x1 x2 mk mp fML (fun (r5 : Int32) => ((¬ r5 = (0 : Int32) → post x2) ∧ (r5 = (0 : Int32) → (∀ v11 : Int32, v11 = x2 + (1 : Int32) → P2 v11)))) → P2 x2) → P2 x2
def wp_X3_blockOf (x1 : Int32) (mk : Int32) (mp : Int32) (fML : (Nat → Int64)) (post : Int32 → Prop) : Prop := wp_X3_blockOf_b2 x1 (0 : Int32) mk mp fML post
abbrev rm_X3_blockOf : Room := { frames := 2, cells := 0, slots := 0, locals := 48 }
theorem hv_X3_blockOf : yX3_blockOf.cls = RX3 ∧ yX3_blockOf.cls ≠ "java/lang/invoke/MethodHandle" ∧ yX3_blockOf.cls ≠ "java/lang/invoke/VarHandle" ∧ (parseMethodDescriptor yX3_blockOf.desc).map (fun d => d.parameters.length) = some 1 := by decide +kernel
set_option maxHeartbeats 4000000 in
set_option maxRecDepth 100000 in
theorem k_X3_blockOf {p : Program} {l : Launch} {e : Env} {s : State} {m : MethodId} {args : Array Value} {below : List Frame} {meth : Method} {c : Code} {Q : State → Prop} {A : Nat → Prop} {dC : Nat → ClassId} {dI : Nat → Nat → Nat} {cI cJ cZ : ClassId} (hx : p.tables.exec = Jvm.exec) (hb : c.code = cX3_blockOf) (hml : c.maxLocals = 3) (hown : s.vm.findClass RX3 = some m.cls) (hts : ∀ w ∈ wsX3_blockOf, w.before args s = true) (hK : va_K (dC, dI) vwCl (mTy cI cJ cZ) s) (hA : ∀ q, s.heap.size ≤ q → A q) {aM aMM aML aMY aMT aMR aMB aMN : Nat} {mk : Int32} {mp : Int32} {fML : (Nat → Int64)} {x1 : Int32} {post : Int32 → Prop} (ret : ∀ (r : Int32) (H : Heap) (locs : List Loc) (ls : Array Slot) (pc : Nat), decode cX3_blockOf pc = .ok (.ireturn, 1) → post r → va_P (dC, dI) vwCl [oM aM aMM aML aMY aMT aMR aMB aMN mk mp, aJ aML cJ 61 fML] H → va_D A [oM aM aMM aML aMY aMT aMR aMB aMN mk mp, aJ aML cJ 61 fML] → va_S A s.heap H locs → W p l e rm_X3_blockOf s m args below meth c H locs 0 0 Q (F0 m pc ls [.int r])) (h : wp_X3_blockOf x1 mk mp fML post) : mW p l e rm_X3_blockOf s m args below meth c 0 0 Q A (dC, dI) 3 [oM aM aMM aML aMY aMT aMR aMB aMN mk mp, aJ aML cJ 61 fML] [(0, .ref aM), (1, .int x1)] 0 [] := by
  have B2 : ∀ (x1 : Int32) (x2 : Int32), wp_X3_blockOf_b2 x1 x2 mk mp fML post → mW p l e rm_X3_blockOf s m args below meth c 0 0 Q A (dC, dI) 3 [oM aM aMM aML aMY aMT aMR aMB aMN mk mp, aJ aML cJ 61 fML] [(0, .ref aM), (1, .int x1), (2, .int x2)] 2 [] := by
    intro x1 x2 h
    unfold wp_X3_blockOf_b2 at h
    refine h (fun (x2 : Int32) => mW p l e rm_X3_blockOf s m args below meth c 0 0 Q A (dC, dI) 3 [oM aM aMM aML aMY aMT aMR aMB aMN mk mp, aJ aML cJ 61 fML] [(0, .ref aM), (1, .int x1), (2, .int x2)] 2 []) ?_
    intro x2 h
    intro H locs ls hP hD hS hl
    refine lv_aload_n hx hb dX3_blockOf_2 rfl (lv_at hl 0 rfl) ?_
    refine lv_iload_n hx hb dX3_blockOf_3 rfl (lv_at hl 1 rfl) ?_
    refine lv_iload_n hx hb dX3_blockOf_4 rfl (lv_at hl 2 rfl) ?_
    refine mVi (wr := []) (As := [.int x1, .int x2]) (rest := []) ⟨hx, hb, hml, hown, hts⟩ (c_X3_isOneBlock (l := l) (dC := dC) (dI := dI) (cI := cI) (cJ := cJ) (cZ := cZ) (aM := aM) (aMM := aMM) (aML := aML) (aMY := aMY) (aMT := aMT) (aMR := aMR) (aMB := aMB) (aMN := aMN) h) (cwV 2 hts gX3_blockOf_X3_isOneBlock rfl rfl rfl hv_X3_isOneBlock ⟨Nat.le_of_ble_eq_true rfl, Nat.le_of_ble_eq_true rfl⟩) hK hP hD hS hA [0, 1] [] rfl rfl rfl rfl (by decide) 3 rfl rfl rfl rfl hl.1 rfl (Nat.le_of_ble_eq_true rfl) ⟨Nat.zero_le _, Nat.zero_le _⟩ dX3_blockOf_5 (fun r5 u5 H locs h hP hD hS => ?_)
    have hP : va_P (dC, dI) vwCl [oM aM aMM aML aMY aMT aMR aMB aMN mk mp, aJ aML cJ 61 fML] H := hP.sub [0, 1] rfl
    have hD : va_D A [oM aM aMM aML aMY aMT aMR aMB aMN mk mp, aJ aML cJ 61 fML] := hD.sub [0, 1] rfl rfl
    refine lv_if_ne (tgt := 17) hx hb dX3_blockOf_8 (by decide) (fun q8 => ?_) (fun q8 => ?_)
    · have h := h.1 q8
      refine lv_iload_n hx hb dX3_blockOf_17 rfl (lv_at hl 2 rfl) ?_
      exact ret _  H locs ls _ dX3_blockOf_18 h hP hD hS
    · have h := h.2 q8
      obtain ⟨v11, ev11⟩ : ∃ y : Int32, y = x2 + (1 : Int32) := ⟨_, rfl⟩
      have h := h v11 ev11
      refine lv_iinc (v := v11) (lv' := [(2, .int v11), (0, .ref aM), (1, .int x1)]) hx hb dX3_blockOf_11 hl (k := 2) rfl (by rw [ev11]; rfl) (by decide) rfl (fun ls hl => ?_)
      refine lv_goto (tgt := 2) hx hb dX3_blockOf_14 (by decide) ?_
      exact h H locs ls hP hD hS (lv_sub hl [1, 2, 0] rfl)
  unfold wp_X3_blockOf at h
  intro H locs ls hP hD hS hl
  refine lv_iconst (v := 0) hx hb dX3_blockOf_0 (by decide) ?_
  refine lv_istore_n (lv' := [(2, .int (0 : Int32)), (0, .ref aM), (1, .int x1)]) hx hb dX3_blockOf_1 rfl hl (by decide) rfl (fun ls hl => ?_)
  exact B2 _ _ h H locs ls hP hD hS (lv_sub hl [1, 2, 0] rfl)
set_option maxHeartbeats 4000000 in
set_option maxRecDepth 100000 in
theorem c_X3_blockOf {l : Launch} {dC : Nat → ClassId} {dI : Nat → Nat → Nat} {cI cJ cZ : ClassId} {aM aMM aML aMY aMT aMR aMB aMN : Nat} {mk : Int32} {mp : Int32} {fML : (Nat → Int64)} {x1 : Int32} {post : Int32 → Prop} (h : wp_X3_blockOf x1 mk mp fML post) : ∀ sz, Met l yX3_blockOf wsX3_blockOf rm_X3_blockOf (mP (dC, dI) (mTy cI cJ cZ) [.ref aM, .int x1] [oM aM aMM aML aMY aMT aMR aMB aMN mk mp, aJ aML cJ 61 fML] sz) (va_Qi (fun (r : Int32) (u : Unit) => post r ) (mB (dC, dI) (va_A [oM aM aMM aML aMY aMT aMR aMB aMN mk mp, aJ aML cJ 61 fML] sz) (fun u => [oM aM aMM aML aMY aMT aMR aMB aMN mk mp, aJ aML cJ 61 fML])) (va_A [oM aM aMM aML aMY aMT aMR aMB aMN mk mp, aJ aML cJ 61 fML] sz)) 0 0 (va_A [oM aM aMM aML aMY aMT aMR aMB aMN mk mp, aJ aML cJ 61 fML] sz) := by
  intro sz
  refine Met.ofW (cc := cX3_blockOf) (maxL := 3) (ret := (some .int)) (by decide) rfl ?_
  intro p e s m args below meth c s₁ B hml hv
  obtain ⟨rfl, hsz, hP, hK, hD0⟩ := hv
  have hlocks := B.notSynchronized
  subst hsz
  have hD := hD0.self (sz := s.heap.size)
  have hl := lv_entry ([.ref aM, .int x1]) (n := 3) (Nat.le_of_ble_eq_true rfl)
  rw [lg_entry_eq]
  exact k_X3_blockOf B.exec B.bytes hml (findClass_of_methodNamed B.named) (atoms_spec (ws := wsX3_blockOf) B.pre) hK (fun q hq => Or.inr hq) (fun r H locs ls pc hd hp hP hD hS => W.iret B.exec B.bytes B.returns (fun t ht hW => ⟨⟨r, (), rfl, hp, by rw [ht]; exact hP, hD⟩, hS.F ht⟩) hS.2.2 hd) h s.heap [] _ hP hD va_S.rf hl

def wp_X3_blocks_b8 (x1 : Int32) (x2 : Int32) (mk : Int32) (mp : Int32) (fMM : (Nat → Int32)) (fML : (Nat → Int64)) (post : Int32 → (Nat → Int64) → Prop)  : Prop := ∀ P8 : Int32 → Int32 → Prop, (∀ (x1 : Int32) (x2 : Int32), ((mk ≤ x2 → post x1 fML) ∧ (¬ mk ≤ x2 → wp_X3_blockOf x2 mk mp fML (fun (r19 : Int32) => ((¬ r19 = x2 → (∀ v32 : Int32, v32 = (x1 + (0 : Int32)) → (∀ v33 : Int32, v33 = x2 + (1 : Int32) → P8 v32 v33))) ∧ (r19 = x2 → (∀ v32 : Int32, v32 = (x1 + (1 : Int32)) → (∀ v33 : Int32, v33 = x2 + (1 : Int32) → P8 v32 v33))))))) → P8 x1 x2) → P8 x1 x2
def wp_X3_blocks  (mk : Int32) (mp : Int32) (fMM : (Nat → Int32)) (fML : (Nat → Int64)) (post : Int32 → (Nat → Int64) → Prop) : Prop := wp_X3_layLeads mk mp fMM fML (fun (fML_1 : (Nat → Int64)) => wp_X3_blocks_b8 (0 : Int32) (0 : Int32) mk mp fMM fML_1 post)
abbrev rm_X3_blocks : Room := { frames := 3, cells := 0, slots := 0, locals := 70 }
theorem hv_X3_blocks : yX3_blocks.cls = RX3 ∧ yX3_blocks.cls ≠ "java/lang/invoke/MethodHandle" ∧ yX3_blocks.cls ≠ "java/lang/invoke/VarHandle" ∧ (parseMethodDescriptor yX3_blocks.desc).map (fun d => d.parameters.length) = some 0 := by decide +kernel
set_option maxHeartbeats 4000000 in
set_option maxRecDepth 100000 in
theorem k_X3_blocks {p : Program} {l : Launch} {e : Env} {s : State} {m : MethodId} {args : Array Value} {below : List Frame} {meth : Method} {c : Code} {Q : State → Prop} {A : Nat → Prop} {dC : Nat → ClassId} {dI : Nat → Nat → Nat} {cI cJ cZ : ClassId} (hx : p.tables.exec = Jvm.exec) (hb : c.code = cX3_blocks) (hml : c.maxLocals = 3) (hown : s.vm.findClass RX3 = some m.cls) (hts : ∀ w ∈ wsX3_blocks, w.before args s = true) (hK : va_K (dC, dI) vwCl (mTy cI cJ cZ) s) (hA : ∀ q, s.heap.size ≤ q → A q) {aM aMM aML aMY aMT aMR aMB aMN : Nat} {mk : Int32} {mp : Int32} {fMM : (Nat → Int32)} {fML : (Nat → Int64)}  {post : Int32 → (Nat → Int64) → Prop} (ret : ∀ (r : Int32) (fML' : (Nat → Int64)) (H : Heap) (locs : List Loc) (ls : Array Slot) (pc : Nat), decode cX3_blocks pc = .ok (.ireturn, 1) → post r fML' → va_P (dC, dI) vwCl [oM aM aMM aML aMY aMT aMR aMB aMN mk mp, aI aMM cZ 36 fMM, aJ aML cJ 61 fML'] H → va_D A [oM aM aMM aML aMY aMT aMR aMB aMN mk mp, aI aMM cZ 36 fMM, aJ aML cJ 61 fML'] → va_S A s.heap H locs → W p l e rm_X3_blocks s m args below meth c H locs 0 0 Q (F0 m pc ls [.int r])) (h : wp_X3_blocks  mk mp fMM fML post) : mW p l e rm_X3_blocks s m args below meth c 0 0 Q A (dC, dI) 3 [oM aM aMM aML aMY aMT aMR aMB aMN mk mp, aI aMM cZ 36 fMM, aJ aML cJ 61 fML] [(0, .ref aM)] 0 [] := by
  have in_X3 : ∀ w ∈ wsX30, w ∈ wsX3_blocks := fun w hw => List.mem_cons_of_mem _ (List.mem_append_right _ hw)
  have k_40 := hts (.fieldLink RX3 40 "RingTasksModel" "labels" "I") (List.mem_of_getElem? (i := 1) rfl)
  have B8 : ∀ (x1 : Int32) (x2 : Int32) (fML : (Nat → Int64)), wp_X3_blocks_b8 x1 x2 mk mp fMM fML post → mW p l e rm_X3_blocks s m args below meth c 0 0 Q A (dC, dI) 3 [oM aM aMM aML aMY aMT aMR aMB aMN mk mp, aI aMM cZ 36 fMM, aJ aML cJ 61 fML] [(0, .ref aM), (1, .int x1), (2, .int x2)] 8 [] := by
    intro x1 x2 fML h
    unfold wp_X3_blocks_b8 at h
    refine h (fun (x1 : Int32) (x2 : Int32) => mW p l e rm_X3_blocks s m args below meth c 0 0 Q A (dC, dI) 3 [oM aM aMM aML aMY aMT aMR aMB aMN mk mp, aI aMM cZ 36 fMM, aJ aML cJ 61 fML] [(0, .ref aM), (1, .int x1), (2, .int x2)] 8 []) ?_
    intro x1 x2 h
    intro H locs ls hP hD hS hl
    refine lv_iload_n hx hb dX3_blocks_8 rfl (lv_at hl 2 rfl) ?_
    refine lv_aload_n hx hb dX3_blocks_9 rfl (lv_at hl 0 rfl) ?_
    refine va_get (D := (dC, dI)) (ci := 3) (v := .int mk) (C := RX3) (T := TX3) (N := 9) hx hb hts in_X3 hown hK hP 0 rfl rfl 0 (by decide) k_40 (fun _ h9 => h9) rfl dX3_blocks_10 ?_
    refine lv_icmp_ge (tgt := 39) hx hb dX3_blocks_13 (by decide) (fun q13 => ?_) (fun q13 => ?_)
    · have h := h.1 q13
      refine lv_iload_n hx hb dX3_blocks_39 rfl (lv_at hl 1 rfl) ?_
      exact ret _ _ H locs ls _ dX3_blocks_40 h hP hD hS
    · have h := h.2 q13
      refine lv_iload_n hx hb dX3_blocks_16 rfl (lv_at hl 1 rfl) ?_
      refine lv_aload_n hx hb dX3_blocks_17 rfl (lv_at hl 0 rfl) ?_
      refine lv_iload_n hx hb dX3_blocks_18 rfl (lv_at hl 2 rfl) ?_
      refine mVi (wr := [aI aMM cZ 36 fMM]) (As := [.int x2]) (rest := [.int x1]) ⟨hx, hb, hml, hown, hts⟩ (c_X3_blockOf (l := l) (dC := dC) (dI := dI) (cI := cI) (cJ := cJ) (cZ := cZ) (aM := aM) (aMM := aMM) (aML := aML) (aMY := aMY) (aMT := aMT) (aMR := aMR) (aMB := aMB) (aMN := aMN) h) (cwV 1 hts gX3_blocks_X3_blockOf rfl rfl rfl hv_X3_blockOf ⟨Nat.le_of_ble_eq_true rfl, Nat.le_of_ble_eq_true rfl⟩) hK hP hD hS hA [0, 2] [1] rfl rfl rfl rfl (by decide) 3 rfl rfl rfl rfl hl.1 rfl (Nat.le_of_ble_eq_true rfl) ⟨Nat.zero_le _, Nat.zero_le _⟩ dX3_blocks_19 (fun r19 u19 H locs h hP hD hS => ?_)
      have hP : va_P (dC, dI) vwCl [oM aM aMM aML aMY aMT aMR aMB aMN mk mp, aI aMM cZ 36 fMM, aJ aML cJ 61 fML] H := hP.sub [1, 0, 2] rfl
      have hD : va_D A [oM aM aMM aML aMY aMT aMR aMB aMN mk mp, aI aMM cZ 36 fMM, aJ aML cJ 61 fML] := hD.sub [1, 0, 2] rfl rfl
      refine lv_iload_n hx hb dX3_blocks_22 rfl (lv_at hl 2 rfl) ?_
      refine lv_icmp_ne (tgt := 30) hx hb dX3_blocks_23 (by decide) (fun q23 => ?_) (fun q23 => ?_)
      · have h := h.1 q23
        refine lv_iconst (v := 0) hx hb dX3_blocks_30 (by decide) ?_
        refine lv_iadd hx hb dX3_blocks_31 ?_
        refine lv_topi (fun v32 ev32 => ?_)
        have h := h v32 ev32
        refine lv_istore_n (lv' := [(1, .int v32), (0, .ref aM), (2, .int x2)]) hx hb dX3_blocks_32 rfl hl (by decide) rfl (fun ls hl => ?_)
        obtain ⟨v33, ev33⟩ : ∃ y : Int32, y = x2 + (1 : Int32) := ⟨_, rfl⟩
        have h := h v33 ev33
        refine lv_iinc (v := v33) (lv' := [(2, .int v33), (1, .int v32), (0, .ref aM)]) hx hb dX3_blocks_33 hl (k := 2) rfl (by rw [ev33]; rfl) (by decide) rfl (fun ls hl => ?_)
        refine lv_goto (tgt := 8) hx hb dX3_blocks_36 (by decide) ?_
        exact h H locs ls hP hD hS (lv_sub hl [2, 1, 0] rfl)
      · have h := h.2 q23
        refine lv_iconst (v := 1) hx hb dX3_blocks_26 (by decide) ?_
        refine lv_goto (tgt := 31) hx hb dX3_blocks_27 (by decide) ?_
        refine lv_iadd hx hb dX3_blocks_31 ?_
        refine lv_topi (fun v32 ev32 => ?_)
        have h := h v32 ev32
        refine lv_istore_n (lv' := [(1, .int v32), (0, .ref aM), (2, .int x2)]) hx hb dX3_blocks_32 rfl hl (by decide) rfl (fun ls hl => ?_)
        obtain ⟨v33, ev33⟩ : ∃ y : Int32, y = x2 + (1 : Int32) := ⟨_, rfl⟩
        have h := h v33 ev33
        refine lv_iinc (v := v33) (lv' := [(2, .int v33), (1, .int v32), (0, .ref aM)]) hx hb dX3_blocks_33 hl (k := 2) rfl (by rw [ev33]; rfl) (by decide) rfl (fun ls hl => ?_)
        refine lv_goto (tgt := 8) hx hb dX3_blocks_36 (by decide) ?_
        exact h H locs ls hP hD hS (lv_sub hl [2, 1, 0] rfl)
  unfold wp_X3_blocks at h
  intro H locs ls hP hD hS hl
  refine lv_aload_n hx hb dX3_blocks_0 rfl (lv_at hl 0 rfl) ?_
  refine mVv (wr := []) (As := []) (rest := []) ⟨hx, hb, hml, hown, hts⟩ (c_X3_layLeads (l := l) (dC := dC) (dI := dI) (cI := cI) (cJ := cJ) (cZ := cZ) (aM := aM) (aMM := aMM) (aML := aML) (aMY := aMY) (aMT := aMT) (aMR := aMR) (aMB := aMB) (aMN := aMN) h) (cwV 0 hts gX3_blocks_X3_layLeads rfl rfl rfl hv_X3_layLeads ⟨Nat.le_of_ble_eq_true rfl, Nat.le_of_ble_eq_true rfl⟩) hK hP hD hS hA [0, 1, 2] [] rfl rfl rfl rfl (by decide) 3 rfl rfl rfl rfl hl.1 rfl (Nat.le_of_ble_eq_true rfl) ⟨Nat.zero_le _, Nat.zero_le _⟩ dX3_blocks_1 (fun fML_1 H locs h hP hD hS => ?_)
  have hP : va_P (dC, dI) vwCl [oM aM aMM aML aMY aMT aMR aMB aMN mk mp, aI aMM cZ 36 fMM, aJ aML cJ 61 fML_1] H := hP.sub [0, 1, 2] rfl
  have hD : va_D A [oM aM aMM aML aMY aMT aMR aMB aMN mk mp, aI aMM cZ 36 fMM, aJ aML cJ 61 fML_1] := hD.sub [0, 1, 2] rfl rfl
  refine lv_iconst (v := 0) hx hb dX3_blocks_4 (by decide) ?_
  refine lv_istore_n (lv' := [(1, .int (0 : Int32)), (0, .ref aM)]) hx hb dX3_blocks_5 rfl hl (by decide) rfl (fun ls hl => ?_)
  refine lv_iconst (v := 0) hx hb dX3_blocks_6 (by decide) ?_
  refine lv_istore_n (lv' := [(2, .int (0 : Int32)), (1, .int (0 : Int32)), (0, .ref aM)]) hx hb dX3_blocks_7 rfl hl (by decide) rfl (fun ls hl => ?_)
  exact B8 _ _ _ h H locs ls hP hD hS (lv_sub hl [2, 1, 0] rfl)
set_option maxHeartbeats 4000000 in
set_option maxRecDepth 100000 in
theorem c_X3_blocks {l : Launch} {dC : Nat → ClassId} {dI : Nat → Nat → Nat} {cI cJ cZ : ClassId} {aM aMM aML aMY aMT aMR aMB aMN : Nat} {mk : Int32} {mp : Int32} {fMM : (Nat → Int32)} {fML : (Nat → Int64)}  {post : Int32 → (Nat → Int64) → Prop} (h : wp_X3_blocks  mk mp fMM fML post) : ∀ sz, Met l yX3_blocks wsX3_blocks rm_X3_blocks (mP (dC, dI) (mTy cI cJ cZ) [.ref aM] [oM aM aMM aML aMY aMT aMR aMB aMN mk mp, aI aMM cZ 36 fMM, aJ aML cJ 61 fML] sz) (va_Qi (fun (r : Int32) (u : (Nat → Int64)) => post r u) (mB (dC, dI) (va_A [oM aM aMM aML aMY aMT aMR aMB aMN mk mp, aI aMM cZ 36 fMM, aJ aML cJ 61 fML] sz) (fun u => [oM aM aMM aML aMY aMT aMR aMB aMN mk mp, aI aMM cZ 36 fMM, aJ aML cJ 61 u])) (va_A [oM aM aMM aML aMY aMT aMR aMB aMN mk mp, aI aMM cZ 36 fMM, aJ aML cJ 61 fML] sz)) 0 0 (va_A [oM aM aMM aML aMY aMT aMR aMB aMN mk mp, aI aMM cZ 36 fMM, aJ aML cJ 61 fML] sz) := by
  intro sz
  refine Met.ofW (cc := cX3_blocks) (maxL := 3) (ret := (some .int)) (by decide) rfl ?_
  intro p e s m args below meth c s₁ B hml hv
  obtain ⟨rfl, hsz, hP, hK, hD0⟩ := hv
  have hlocks := B.notSynchronized
  subst hsz
  have hD := hD0.self (sz := s.heap.size)
  have hl := lv_entry ([.ref aM]) (n := 3) (Nat.le_of_ble_eq_true rfl)
  rw [lg_entry_eq]
  exact k_X3_blocks B.exec B.bytes hml (findClass_of_methodNamed B.named) (atoms_spec (ws := wsX3_blocks) B.pre) hK (fun q hq => Or.inr hq) (fun r fML' H locs ls pc hd hp hP hD hS => W.iret B.exec B.bytes B.returns (fun t ht hW => ⟨⟨r, fML', rfl, hp, by rw [ht]; exact hP, hD⟩, hS.F ht⟩) hS.2.2 hd) h s.heap [] _ hP hD va_S.rf hl

def wp_X3_block (x1 : Int32) (mk : Int32) (mp : Int32) (fMM : (Nat → Int32)) (fML : (Nat → Int64)) (post : Int32 → (Nat → Int64) → Prop) : Prop := wp_X3_layLeads mk mp fMM fML (fun (fML_1 : (Nat → Int64)) => wp_X3_isLabel x1 mk mp (fun (r6 : Int32) => ((r6 = (0 : Int32) → post (-1 : Int32) fML_1) ∧ (¬ r6 = (0 : Int32) → wp_X3_blockOf x1 mk mp fML_1 (fun (r14 : Int32) => post r14 fML_1)))))
abbrev rm_X3_block : Room := { frames := 3, cells := 0, slots := 0, locals := 70 }
theorem hv_X3_block : yX3_block.cls = RX3 ∧ yX3_block.cls ≠ "java/lang/invoke/MethodHandle" ∧ yX3_block.cls ≠ "java/lang/invoke/VarHandle" ∧ (parseMethodDescriptor yX3_block.desc).map (fun d => d.parameters.length) = some 1 := by decide +kernel
set_option maxHeartbeats 4000000 in
set_option maxRecDepth 100000 in
theorem k_X3_block {p : Program} {l : Launch} {e : Env} {s : State} {m : MethodId} {args : Array Value} {below : List Frame} {meth : Method} {c : Code} {Q : State → Prop} {A : Nat → Prop} {dC : Nat → ClassId} {dI : Nat → Nat → Nat} {cI cJ cZ : ClassId} (hx : p.tables.exec = Jvm.exec) (hb : c.code = cX3_block) (hml : c.maxLocals = 2) (hown : s.vm.findClass RX3 = some m.cls) (hts : ∀ w ∈ wsX3_block, w.before args s = true) (hK : va_K (dC, dI) vwCl (mTy cI cJ cZ) s) (hA : ∀ q, s.heap.size ≤ q → A q) {aM aMM aML aMY aMT aMR aMB aMN : Nat} {mk : Int32} {mp : Int32} {fMM : (Nat → Int32)} {fML : (Nat → Int64)} {x1 : Int32} {post : Int32 → (Nat → Int64) → Prop} (ret : ∀ (r : Int32) (fML' : (Nat → Int64)) (H : Heap) (locs : List Loc) (ls : Array Slot) (pc : Nat), decode cX3_block pc = .ok (.ireturn, 1) → post r fML' → va_P (dC, dI) vwCl [oM aM aMM aML aMY aMT aMR aMB aMN mk mp, aI aMM cZ 36 fMM, aJ aML cJ 61 fML'] H → va_D A [oM aM aMM aML aMY aMT aMR aMB aMN mk mp, aI aMM cZ 36 fMM, aJ aML cJ 61 fML'] → va_S A s.heap H locs → W p l e rm_X3_block s m args below meth c H locs 0 0 Q (F0 m pc ls [.int r])) (h : wp_X3_block x1 mk mp fMM fML post) : mW p l e rm_X3_block s m args below meth c 0 0 Q A (dC, dI) 2 [oM aM aMM aML aMY aMT aMR aMB aMN mk mp, aI aMM cZ 36 fMM, aJ aML cJ 61 fML] [(0, .ref aM), (1, .int x1)] 0 [] := by
  unfold wp_X3_block at h
  intro H locs ls hP hD hS hl
  refine lv_aload_n hx hb dX3_block_0 rfl (lv_at hl 0 rfl) ?_
  refine mVv (wr := []) (As := []) (rest := []) ⟨hx, hb, hml, hown, hts⟩ (c_X3_layLeads (l := l) (dC := dC) (dI := dI) (cI := cI) (cJ := cJ) (cZ := cZ) (aM := aM) (aMM := aMM) (aML := aML) (aMY := aMY) (aMT := aMT) (aMR := aMR) (aMB := aMB) (aMN := aMN) h) (cwV 0 hts gX3_block_X3_layLeads rfl rfl rfl hv_X3_layLeads ⟨Nat.le_of_ble_eq_true rfl, Nat.le_of_ble_eq_true rfl⟩) hK hP hD hS hA [0, 1, 2] [] rfl rfl rfl rfl (by decide) 3 rfl rfl rfl rfl hl.1 rfl (Nat.le_of_ble_eq_true rfl) ⟨Nat.zero_le _, Nat.zero_le _⟩ dX3_block_1 (fun fML_1 H locs h hP hD hS => ?_)
  have hP : va_P (dC, dI) vwCl [oM aM aMM aML aMY aMT aMR aMB aMN mk mp, aI aMM cZ 36 fMM, aJ aML cJ 61 fML_1] H := hP.sub [0, 1, 2] rfl
  have hD : va_D A [oM aM aMM aML aMY aMT aMR aMB aMN mk mp, aI aMM cZ 36 fMM, aJ aML cJ 61 fML_1] := hD.sub [0, 1, 2] rfl rfl
  refine lv_aload_n hx hb dX3_block_4 rfl (lv_at hl 0 rfl) ?_
  refine lv_iload_n hx hb dX3_block_5 rfl (lv_at hl 1 rfl) ?_
  refine mVi (wr := [aI aMM cZ 36 fMM, aJ aML cJ 61 fML_1]) (As := [.int x1]) (rest := []) ⟨hx, hb, hml, hown, hts⟩ (c_X3_isLabel (l := l) (dC := dC) (dI := dI) (cI := cI) (cJ := cJ) (cZ := cZ) (aM := aM) (aMM := aMM) (aML := aML) (aMY := aMY) (aMT := aMT) (aMR := aMR) (aMB := aMB) (aMN := aMN) h) (cwV 1 hts gX3_block_X3_isLabel rfl rfl rfl hv_X3_isLabel ⟨Nat.le_of_ble_eq_true rfl, Nat.le_of_ble_eq_true rfl⟩) hK hP hD hS hA [0] [1, 2] rfl rfl rfl rfl (by decide) 3 rfl rfl rfl rfl hl.1 rfl (Nat.le_of_ble_eq_true rfl) ⟨Nat.zero_le _, Nat.zero_le _⟩ dX3_block_6 (fun r6 u6 H locs h hP hD hS => ?_)
  have hP : va_P (dC, dI) vwCl [oM aM aMM aML aMY aMT aMR aMB aMN mk mp, aI aMM cZ 36 fMM, aJ aML cJ 61 fML_1] H := hP.sub [2, 0, 1] rfl
  have hD : va_D A [oM aM aMM aML aMY aMT aMR aMB aMN mk mp, aI aMM cZ 36 fMM, aJ aML cJ 61 fML_1] := hD.sub [2, 0, 1] rfl rfl
  refine lv_if_eq (tgt := 20) hx hb dX3_block_9 (by decide) (fun q9 => ?_) (fun q9 => ?_)
  · have h := h.1 q9
    refine lv_iconst (v := -1) hx hb dX3_block_20 (by decide) ?_
    exact ret _ _ H locs ls _ dX3_block_21 h hP hD hS
  · have h := h.2 q9
    refine lv_aload_n hx hb dX3_block_12 rfl (lv_at hl 0 rfl) ?_
    refine lv_iload_n hx hb dX3_block_13 rfl (lv_at hl 1 rfl) ?_
    refine mVi (wr := [aI aMM cZ 36 fMM]) (As := [.int x1]) (rest := []) ⟨hx, hb, hml, hown, hts⟩ (c_X3_blockOf (l := l) (dC := dC) (dI := dI) (cI := cI) (cJ := cJ) (cZ := cZ) (aM := aM) (aMM := aMM) (aML := aML) (aMY := aMY) (aMT := aMT) (aMR := aMR) (aMB := aMB) (aMN := aMN) h) (cwV 1 hts gX3_block_X3_blockOf rfl rfl rfl hv_X3_blockOf ⟨Nat.le_of_ble_eq_true rfl, Nat.le_of_ble_eq_true rfl⟩) hK hP hD hS hA [0, 2] [1] rfl rfl rfl rfl (by decide) 3 rfl rfl rfl rfl hl.1 rfl (Nat.le_of_ble_eq_true rfl) ⟨Nat.zero_le _, Nat.zero_le _⟩ dX3_block_14 (fun r14 u14 H locs h hP hD hS => ?_)
    have hP : va_P (dC, dI) vwCl [oM aM aMM aML aMY aMT aMR aMB aMN mk mp, aI aMM cZ 36 fMM, aJ aML cJ 61 fML_1] H := hP.sub [1, 0, 2] rfl
    have hD : va_D A [oM aM aMM aML aMY aMT aMR aMB aMN mk mp, aI aMM cZ 36 fMM, aJ aML cJ 61 fML_1] := hD.sub [1, 0, 2] rfl rfl
    refine lv_goto (tgt := 21) hx hb dX3_block_17 (by decide) ?_
    exact ret _ _ H locs ls _ dX3_block_21 h hP hD hS
set_option maxHeartbeats 4000000 in
set_option maxRecDepth 100000 in
theorem c_X3_block {l : Launch} {dC : Nat → ClassId} {dI : Nat → Nat → Nat} {cI cJ cZ : ClassId} {aM aMM aML aMY aMT aMR aMB aMN : Nat} {mk : Int32} {mp : Int32} {fMM : (Nat → Int32)} {fML : (Nat → Int64)} {x1 : Int32} {post : Int32 → (Nat → Int64) → Prop} (h : wp_X3_block x1 mk mp fMM fML post) : ∀ sz, Met l yX3_block wsX3_block rm_X3_block (mP (dC, dI) (mTy cI cJ cZ) [.ref aM, .int x1] [oM aM aMM aML aMY aMT aMR aMB aMN mk mp, aI aMM cZ 36 fMM, aJ aML cJ 61 fML] sz) (va_Qi (fun (r : Int32) (u : (Nat → Int64)) => post r u) (mB (dC, dI) (va_A [oM aM aMM aML aMY aMT aMR aMB aMN mk mp, aI aMM cZ 36 fMM, aJ aML cJ 61 fML] sz) (fun u => [oM aM aMM aML aMY aMT aMR aMB aMN mk mp, aI aMM cZ 36 fMM, aJ aML cJ 61 u])) (va_A [oM aM aMM aML aMY aMT aMR aMB aMN mk mp, aI aMM cZ 36 fMM, aJ aML cJ 61 fML] sz)) 0 0 (va_A [oM aM aMM aML aMY aMT aMR aMB aMN mk mp, aI aMM cZ 36 fMM, aJ aML cJ 61 fML] sz) := by
  intro sz
  refine Met.ofW (cc := cX3_block) (maxL := 2) (ret := (some .int)) (by decide) rfl ?_
  intro p e s m args below meth c s₁ B hml hv
  obtain ⟨rfl, hsz, hP, hK, hD0⟩ := hv
  have hlocks := B.notSynchronized
  subst hsz
  have hD := hD0.self (sz := s.heap.size)
  have hl := lv_entry ([.ref aM, .int x1]) (n := 2) (Nat.le_of_ble_eq_true rfl)
  rw [lg_entry_eq]
  exact k_X3_block B.exec B.bytes hml (findClass_of_methodNamed B.named) (atoms_spec (ws := wsX3_block) B.pre) hK (fun q hq => Or.inr hq) (fun r fML' H locs ls pc hd hp hP hD hS => W.iret B.exec B.bytes B.returns (fun t ht hW => ⟨⟨r, fML', rfl, hp, by rw [ht]; exact hP, hD⟩, hS.F ht⟩) hS.2.2 hd) h s.heap [] _ hP hD va_S.rf hl

def wp_X3_common_b4 (x2 : Int32) (x3 : Int32)  (post : Int32 → Prop)  : Prop := ∀ P4 : Int32 → Int32 → Prop, (∀ (x2 : Int32) (x3 : Int32), ((x3 ≤ (0 : Int32) → post x2) ∧ (¬ x3 ≤ (0 : Int32) → (¬ x3 = (0 : Int32) ∧ (∀ v11 : Int32, v11 = (x2 - x2 / x3 * x3) → P4 x3 v11)))) → P4 x2 x3) → P4 x2 x3
def wp_X3_common (x0 : Int32) (x1 : Int32)  (post : Int32 → Prop) : Prop := wp_X3_common_b4 x0 x1 post
abbrev rm_X3_common : Room := { frames := 0, cells := 0, slots := 0, locals := 0 }
theorem hv_X3_common : yX3_common.cls ≠ "java/lang/invoke/MethodHandle" ∧ yX3_common.cls ≠ "java/lang/invoke/VarHandle" ∧ (parseMethodDescriptor yX3_common.desc).map (fun d => d.parameters.length) = some 2 := by decide +kernel
set_option maxHeartbeats 4000000 in
set_option maxRecDepth 100000 in
theorem k_X3_common {p : Program} {l : Launch} {e : Env} {s : State} {m : MethodId} {args : Array Value} {below : List Frame} {meth : Method} {c : Code} {Q : State → Prop} {A : Nat → Prop} {dC : Nat → ClassId} {dI : Nat → Nat → Nat} {cI cJ cZ : ClassId} (hx : p.tables.exec = Jvm.exec) (hb : c.code = cX3_common) (hml : c.maxLocals = 5) (hown : s.vm.findClass RX3 = some m.cls) (hts : ∀ w ∈ wsX3_common, w.before args s = true) (hK : va_K (dC, dI) vwCl (mTy cI cJ cZ) s) (hA : ∀ q, s.heap.size ≤ q → A q)  {x0 : Int32} {x1 : Int32} {post : Int32 → Prop} (ret : ∀ (r : Int32) (H : Heap) (locs : List Loc) (ls : Array Slot) (pc : Nat), decode cX3_common pc = .ok (.ireturn, 1) → post r → va_P (dC, dI) vwCl [] H → va_D A [] → va_S A s.heap H locs → W p l e rm_X3_common s m args below meth c H locs 0 0 Q (F0 m pc ls [.int r])) (h : wp_X3_common x0 x1  post) : mW p l e rm_X3_common s m args below meth c 0 0 Q A (dC, dI) 5 [] [(0, .int x0), (1, .int x1)] 0 [] := by
  have B4 : ∀ (x2 : Int32) (x3 : Int32), wp_X3_common_b4 x2 x3  post → mW p l e rm_X3_common s m args below meth c 0 0 Q A (dC, dI) 5 [] [(2, .int x2), (3, .int x3)] 4 [] := by
    intro x2 x3 h
    unfold wp_X3_common_b4 at h
    refine h (fun (x2 : Int32) (x3 : Int32) => mW p l e rm_X3_common s m args below meth c 0 0 Q A (dC, dI) 5 [] [(2, .int x2), (3, .int x3)] 4 []) ?_
    intro x2 x3 h
    intro H locs ls hP hD hS hl
    refine lv_iload_n hx hb dX3_common_4 rfl (lv_at hl 1 rfl) ?_
    refine lv_if_le (tgt := 21) hx hb dX3_common_5 (by decide) (fun q5 => ?_) (fun q5 => ?_)
    · have h := h.1 q5
      refine lv_iload_n hx hb dX3_common_21 rfl (lv_at hl 0 rfl) ?_
      exact ret _  H locs ls _ dX3_common_22 h hP hD hS
    · have h := h.2 q5
      refine lv_iload_n hx hb dX3_common_8 rfl (lv_at hl 0 rfl) ?_
      refine lv_iload_n hx hb dX3_common_9 rfl (lv_at hl 1 rfl) ?_
      refine lv_irem hx hb dX3_common_10 h.1 ?_
      have h := h.2
      refine lv_topi (fun v11 ev11 => ?_)
      have h := h v11 ev11
      refine lv_istore (lv' := [(4, .int v11), (2, .int x2), (3, .int x3)]) hx hb dX3_common_11 hl (by decide) rfl (fun ls hl => ?_)
      refine lv_iload_n hx hb dX3_common_13 rfl (lv_at hl 2 rfl) ?_
      refine lv_istore_n (lv' := [(2, .int x3), (4, .int v11), (3, .int x3)]) hx hb dX3_common_14 rfl hl (by decide) rfl (fun ls hl => ?_)
      refine lv_iload hx hb dX3_common_15 (lv_at hl 1 rfl) ?_
      refine lv_istore_n (lv' := [(3, .int v11), (2, .int x3), (4, .int v11)]) hx hb dX3_common_17 rfl hl (by decide) rfl (fun ls hl => ?_)
      refine lv_goto (tgt := 4) hx hb dX3_common_18 (by decide) ?_
      exact h H locs ls hP hD hS (lv_sub hl [1, 0] rfl)
  unfold wp_X3_common at h
  intro H locs ls hP hD hS hl
  refine lv_iload_n hx hb dX3_common_0 rfl (lv_at hl 0 rfl) ?_
  refine lv_istore_n (lv' := [(2, .int x0), (0, .int x0), (1, .int x1)]) hx hb dX3_common_1 rfl hl (by decide) rfl (fun ls hl => ?_)
  refine lv_iload_n hx hb dX3_common_2 rfl (lv_at hl 2 rfl) ?_
  refine lv_istore_n (lv' := [(3, .int x1), (2, .int x0), (0, .int x0), (1, .int x1)]) hx hb dX3_common_3 rfl hl (by decide) rfl (fun ls hl => ?_)
  exact B4 _ _ h H locs ls hP hD hS (lv_sub hl [1, 0] rfl)
set_option maxHeartbeats 4000000 in
set_option maxRecDepth 100000 in
theorem c_X3_common {l : Launch} {dC : Nat → ClassId} {dI : Nat → Nat → Nat} {cI cJ cZ : ClassId}  {x0 : Int32} {x1 : Int32} {post : Int32 → Prop} (h : wp_X3_common x0 x1  post) : ∀ sz, Met l yX3_common wsX3_common rm_X3_common (mP (dC, dI) (mTy cI cJ cZ) [.int x0, .int x1] [] sz) (va_Qi (fun (r : Int32) (u : Unit) => post r ) (mB (dC, dI) (va_A [] sz) (fun u => [])) (va_A [] sz)) 0 0 (va_A [] sz) := by
  intro sz
  refine Met.ofW (cc := cX3_common) (maxL := 5) (ret := (some .int)) (by decide) rfl ?_
  intro p e s m args below meth c s₁ B hml hv
  obtain ⟨rfl, hsz, hP, hK, hD0⟩ := hv
  have hlocks := B.notSynchronized
  subst hsz
  have hD := hD0.self (sz := s.heap.size)
  have hl := lv_entry ([.int x0, .int x1]) (n := 5) (Nat.le_of_ble_eq_true rfl)
  rw [lg_entry_eq]
  exact k_X3_common B.exec B.bytes hml (findClass_of_methodNamed B.named) (atoms_spec (ws := wsX3_common) B.pre) hK (fun q hq => Or.inr hq) (fun r H locs ls pc hd hp hP hD hS => W.iret B.exec B.bytes B.returns (fun t ht hW => ⟨⟨r, (), rfl, hp, by rw [ht]; exact hP, hD⟩, hS.F ht⟩) hS.2.2 hd) h s.heap [] _ hP hD va_S.rf hl

def wp_X3_paceOf_b4 (x1 : Int32) (x2 : Int32) (x3 : Int32) (mk : Int32) (mp : Int32) (fML : (Nat → Int64)) (post : Int32 → Prop)  : Prop := ∀ P4 : Int32 → Int32 → Prop, (∀ (x2 : Int32) (x3 : Int32), (((60 : Int32) < x3 → post x2) ∧ (¬ (60 : Int32) < x3 → wp_X3_isWalk x1 x1 x3 mk mp fML (fun (r14 : Int32) => ((r14 = (0 : Int32) → (∀ v30 : Int32, v30 = x3 + (1 : Int32) → P4 x2 v30)) ∧ (¬ r14 = (0 : Int32) → wp_X3_common x3 x2 (fun (r22 : Int32) => (∀ v30 : Int32, v30 = x3 + (1 : Int32) → P4 r22 v30))))))) → P4 x2 x3) → P4 x2 x3
def wp_X3_paceOf (x1 : Int32) (mk : Int32) (mp : Int32) (fML : (Nat → Int64)) (post : Int32 → Prop) : Prop := wp_X3_paceOf_b4 x1 (0 : Int32) (1 : Int32) mk mp fML post
abbrev rm_X3_paceOf : Room := { frames := 1, cells := 0, slots := 0, locals := 24 }
theorem hv_X3_paceOf : yX3_paceOf.cls = RX3 ∧ yX3_paceOf.cls ≠ "java/lang/invoke/MethodHandle" ∧ yX3_paceOf.cls ≠ "java/lang/invoke/VarHandle" ∧ (parseMethodDescriptor yX3_paceOf.desc).map (fun d => d.parameters.length) = some 1 := by decide +kernel
set_option maxHeartbeats 4000000 in
set_option maxRecDepth 100000 in
theorem k_X3_paceOf {p : Program} {l : Launch} {e : Env} {s : State} {m : MethodId} {args : Array Value} {below : List Frame} {meth : Method} {c : Code} {Q : State → Prop} {A : Nat → Prop} {dC : Nat → ClassId} {dI : Nat → Nat → Nat} {cI cJ cZ : ClassId} (hx : p.tables.exec = Jvm.exec) (hb : c.code = cX3_paceOf) (hml : c.maxLocals = 4) (hown : s.vm.findClass RX3 = some m.cls) (hts : ∀ w ∈ wsX3_paceOf, w.before args s = true) (hK : va_K (dC, dI) vwCl (mTy cI cJ cZ) s) (hA : ∀ q, s.heap.size ≤ q → A q) {aM aMM aML aMY aMT aMR aMB aMN : Nat} {mk : Int32} {mp : Int32} {fML : (Nat → Int64)} {x1 : Int32} {post : Int32 → Prop} (ret : ∀ (r : Int32) (H : Heap) (locs : List Loc) (ls : Array Slot) (pc : Nat), decode cX3_paceOf pc = .ok (.ireturn, 1) → post r → va_P (dC, dI) vwCl [oM aM aMM aML aMY aMT aMR aMB aMN mk mp, aJ aML cJ 61 fML] H → va_D A [oM aM aMM aML aMY aMT aMR aMB aMN mk mp, aJ aML cJ 61 fML] → va_S A s.heap H locs → W p l e rm_X3_paceOf s m args below meth c H locs 0 0 Q (F0 m pc ls [.int r])) (h : wp_X3_paceOf x1 mk mp fML post) : mW p l e rm_X3_paceOf s m args below meth c 0 0 Q A (dC, dI) 4 [oM aM aMM aML aMY aMT aMR aMB aMN mk mp, aJ aML cJ 61 fML] [(0, .ref aM), (1, .int x1)] 0 [] := by
  have B4 : ∀ (x1 : Int32) (x2 : Int32) (x3 : Int32), wp_X3_paceOf_b4 x1 x2 x3 mk mp fML post → mW p l e rm_X3_paceOf s m args below meth c 0 0 Q A (dC, dI) 4 [oM aM aMM aML aMY aMT aMR aMB aMN mk mp, aJ aML cJ 61 fML] [(0, .ref aM), (1, .int x1), (2, .int x2), (3, .int x3)] 4 [] := by
    intro x1 x2 x3 h
    unfold wp_X3_paceOf_b4 at h
    refine h (fun (x2 : Int32) (x3 : Int32) => mW p l e rm_X3_paceOf s m args below meth c 0 0 Q A (dC, dI) 4 [oM aM aMM aML aMY aMT aMR aMB aMN mk mp, aJ aML cJ 61 fML] [(0, .ref aM), (1, .int x1), (2, .int x2), (3, .int x3)] 4 []) ?_
    intro x2 x3 h
    intro H locs ls hP hD hS hl
    refine lv_iload_n hx hb dX3_paceOf_4 rfl (lv_at hl 3 rfl) ?_
    refine lv_bipush (v := 60) hx hb dX3_paceOf_5 (by decide) ?_
    refine lv_icmp_gt (tgt := 36) hx hb dX3_paceOf_7 (by decide) (fun q7 => ?_) (fun q7 => ?_)
    · have h := h.1 q7
      refine lv_iload_n hx hb dX3_paceOf_36 rfl (lv_at hl 2 rfl) ?_
      exact ret _  H locs ls _ dX3_paceOf_37 h hP hD hS
    · have h := h.2 q7
      refine lv_aload_n hx hb dX3_paceOf_10 rfl (lv_at hl 0 rfl) ?_
      refine lv_iload_n hx hb dX3_paceOf_11 rfl (lv_at hl 1 rfl) ?_
      refine lv_iload_n hx hb dX3_paceOf_12 rfl (lv_at hl 1 rfl) ?_
      refine lv_iload_n hx hb dX3_paceOf_13 rfl (lv_at hl 3 rfl) ?_
      refine mVi (wr := []) (As := [.int x1, .int x1, .int x3]) (rest := []) ⟨hx, hb, hml, hown, hts⟩ (c_X3_isWalk (l := l) (dC := dC) (dI := dI) (cI := cI) (cJ := cJ) (cZ := cZ) (aM := aM) (aMM := aMM) (aML := aML) (aMY := aMY) (aMT := aMT) (aMR := aMR) (aMB := aMB) (aMN := aMN) h) (cwV 3 hts gX3_paceOf_X3_isWalk rfl rfl rfl hv_X3_isWalk ⟨Nat.le_of_ble_eq_true rfl, Nat.le_of_ble_eq_true rfl⟩) hK hP hD hS hA [0, 1] [] rfl rfl rfl rfl (by decide) 3 rfl rfl rfl rfl hl.1 rfl (Nat.le_of_ble_eq_true rfl) ⟨Nat.zero_le _, Nat.zero_le _⟩ dX3_paceOf_14 (fun r14 u14 H locs h hP hD hS => ?_)
      have hP : va_P (dC, dI) vwCl [oM aM aMM aML aMY aMT aMR aMB aMN mk mp, aJ aML cJ 61 fML] H := hP.sub [0, 1] rfl
      have hD : va_D A [oM aM aMM aML aMY aMT aMR aMB aMN mk mp, aJ aML cJ 61 fML] := hD.sub [0, 1] rfl rfl
      refine lv_if_eq (tgt := 28) hx hb dX3_paceOf_17 (by decide) (fun q17 => ?_) (fun q17 => ?_)
      · have h := h.1 q17
        refine lv_iload_n hx hb dX3_paceOf_28 rfl (lv_at hl 2 rfl) ?_
        refine lv_istore_n (lv' := [(2, .int x2), (0, .ref aM), (1, .int x1), (3, .int x3)]) hx hb dX3_paceOf_29 rfl hl (by decide) rfl (fun ls hl => ?_)
        obtain ⟨v30, ev30⟩ : ∃ y : Int32, y = x3 + (1 : Int32) := ⟨_, rfl⟩
        have h := h v30 ev30
        refine lv_iinc (v := v30) (lv' := [(3, .int v30), (2, .int x2), (0, .ref aM), (1, .int x1)]) hx hb dX3_paceOf_30 hl (k := 3) rfl (by rw [ev30]; rfl) (by decide) rfl (fun ls hl => ?_)
        refine lv_goto (tgt := 4) hx hb dX3_paceOf_33 (by decide) ?_
        exact h H locs ls hP hD hS (lv_sub hl [2, 3, 1, 0] rfl)
      · have h := h.2 q17
        refine lv_iload_n hx hb dX3_paceOf_20 rfl (lv_at hl 3 rfl) ?_
        refine lv_iload_n hx hb dX3_paceOf_21 rfl (lv_at hl 2 rfl) ?_
        refine mSi (wr := [oM aM aMM aML aMY aMT aMR aMB aMN mk mp, aJ aML cJ 61 fML]) (As := [.int x3, .int x2]) (rest := []) ⟨hx, hb, hml, hown, hts⟩ (c_X3_common (l := l) (dC := dC) (dI := dI) (cI := cI) (cJ := cJ) (cZ := cZ)  h) (va_cwS 2 hts gX3_paceOf_X3_common rfl rfl rfl hv_X3_common ⟨Nat.le_of_ble_eq_true rfl, Nat.le_of_ble_eq_true rfl⟩) hK hP hD hS hA [] [0, 1] rfl rfl rfl rfl (by decide) rfl hl.1 rfl (Nat.le_of_ble_eq_true rfl) ⟨Nat.zero_le _, Nat.zero_le _⟩ dX3_paceOf_22 (fun r22 u22 H locs h hP hD hS => ?_)
        have hP : va_P (dC, dI) vwCl [oM aM aMM aML aMY aMT aMR aMB aMN mk mp, aJ aML cJ 61 fML] H := hP.sub [0, 1] rfl
        have hD : va_D A [oM aM aMM aML aMY aMT aMR aMB aMN mk mp, aJ aML cJ 61 fML] := hD.sub [0, 1] rfl rfl
        refine lv_goto (tgt := 29) hx hb dX3_paceOf_25 (by decide) ?_
        refine lv_istore_n (lv' := [(2, .int r22), (0, .ref aM), (1, .int x1), (3, .int x3)]) hx hb dX3_paceOf_29 rfl hl (by decide) rfl (fun ls hl => ?_)
        obtain ⟨v30, ev30⟩ : ∃ y : Int32, y = x3 + (1 : Int32) := ⟨_, rfl⟩
        have h := h v30 ev30
        refine lv_iinc (v := v30) (lv' := [(3, .int v30), (2, .int r22), (0, .ref aM), (1, .int x1)]) hx hb dX3_paceOf_30 hl (k := 3) rfl (by rw [ev30]; rfl) (by decide) rfl (fun ls hl => ?_)
        refine lv_goto (tgt := 4) hx hb dX3_paceOf_33 (by decide) ?_
        exact h H locs ls hP hD hS (lv_sub hl [2, 3, 1, 0] rfl)
  unfold wp_X3_paceOf at h
  intro H locs ls hP hD hS hl
  refine lv_iconst (v := 0) hx hb dX3_paceOf_0 (by decide) ?_
  refine lv_istore_n (lv' := [(2, .int (0 : Int32)), (0, .ref aM), (1, .int x1)]) hx hb dX3_paceOf_1 rfl hl (by decide) rfl (fun ls hl => ?_)
  refine lv_iconst (v := 1) hx hb dX3_paceOf_2 (by decide) ?_
  refine lv_istore_n (lv' := [(3, .int (1 : Int32)), (2, .int (0 : Int32)), (0, .ref aM), (1, .int x1)]) hx hb dX3_paceOf_3 rfl hl (by decide) rfl (fun ls hl => ?_)
  exact B4 _ _ _ h H locs ls hP hD hS (lv_sub hl [2, 3, 1, 0] rfl)
set_option maxHeartbeats 4000000 in
set_option maxRecDepth 100000 in
theorem c_X3_paceOf {l : Launch} {dC : Nat → ClassId} {dI : Nat → Nat → Nat} {cI cJ cZ : ClassId} {aM aMM aML aMY aMT aMR aMB aMN : Nat} {mk : Int32} {mp : Int32} {fML : (Nat → Int64)} {x1 : Int32} {post : Int32 → Prop} (h : wp_X3_paceOf x1 mk mp fML post) : ∀ sz, Met l yX3_paceOf wsX3_paceOf rm_X3_paceOf (mP (dC, dI) (mTy cI cJ cZ) [.ref aM, .int x1] [oM aM aMM aML aMY aMT aMR aMB aMN mk mp, aJ aML cJ 61 fML] sz) (va_Qi (fun (r : Int32) (u : Unit) => post r ) (mB (dC, dI) (va_A [oM aM aMM aML aMY aMT aMR aMB aMN mk mp, aJ aML cJ 61 fML] sz) (fun u => [oM aM aMM aML aMY aMT aMR aMB aMN mk mp, aJ aML cJ 61 fML])) (va_A [oM aM aMM aML aMY aMT aMR aMB aMN mk mp, aJ aML cJ 61 fML] sz)) 0 0 (va_A [oM aM aMM aML aMY aMT aMR aMB aMN mk mp, aJ aML cJ 61 fML] sz) := by
  intro sz
  refine Met.ofW (cc := cX3_paceOf) (maxL := 4) (ret := (some .int)) (by decide) rfl ?_
  intro p e s m args below meth c s₁ B hml hv
  obtain ⟨rfl, hsz, hP, hK, hD0⟩ := hv
  have hlocks := B.notSynchronized
  subst hsz
  have hD := hD0.self (sz := s.heap.size)
  have hl := lv_entry ([.ref aM, .int x1]) (n := 4) (Nat.le_of_ble_eq_true rfl)
  rw [lg_entry_eq]
  exact k_X3_paceOf B.exec B.bytes hml (findClass_of_methodNamed B.named) (atoms_spec (ws := wsX3_paceOf) B.pre) hK (fun q hq => Or.inr hq) (fun r H locs ls pc hd hp hP hD hS => W.iret B.exec B.bytes B.returns (fun t ht hW => ⟨⟨r, (), rfl, hp, by rw [ht]; exact hP, hD⟩, hS.F ht⟩) hS.2.2 hd) h s.heap [] _ hP hD va_S.rf hl

def wp_X3_pace (x1 : Int32) (mk : Int32) (mp : Int32) (fMM : (Nat → Int32)) (fML : (Nat → Int64)) (post : Int32 → (Nat → Int64) → Prop) : Prop := wp_X3_layLeads mk mp fMM fML (fun (fML_1 : (Nat → Int64)) => wp_X3_isLabel x1 mk mp (fun (r6 : Int32) => ((r6 = (0 : Int32) → post (-1 : Int32) fML_1) ∧ (¬ r6 = (0 : Int32) → wp_X3_paceOf x1 mk mp fML_1 (fun (r14 : Int32) => post r14 fML_1)))))
abbrev rm_X3_pace : Room := { frames := 2, cells := 0, slots := 0, locals := 47 }
theorem hv_X3_pace : yX3_pace.cls = RX3 ∧ yX3_pace.cls ≠ "java/lang/invoke/MethodHandle" ∧ yX3_pace.cls ≠ "java/lang/invoke/VarHandle" ∧ (parseMethodDescriptor yX3_pace.desc).map (fun d => d.parameters.length) = some 1 := by decide +kernel
set_option maxHeartbeats 4000000 in
set_option maxRecDepth 100000 in
theorem k_X3_pace {p : Program} {l : Launch} {e : Env} {s : State} {m : MethodId} {args : Array Value} {below : List Frame} {meth : Method} {c : Code} {Q : State → Prop} {A : Nat → Prop} {dC : Nat → ClassId} {dI : Nat → Nat → Nat} {cI cJ cZ : ClassId} (hx : p.tables.exec = Jvm.exec) (hb : c.code = cX3_pace) (hml : c.maxLocals = 2) (hown : s.vm.findClass RX3 = some m.cls) (hts : ∀ w ∈ wsX3_pace, w.before args s = true) (hK : va_K (dC, dI) vwCl (mTy cI cJ cZ) s) (hA : ∀ q, s.heap.size ≤ q → A q) {aM aMM aML aMY aMT aMR aMB aMN : Nat} {mk : Int32} {mp : Int32} {fMM : (Nat → Int32)} {fML : (Nat → Int64)} {x1 : Int32} {post : Int32 → (Nat → Int64) → Prop} (ret : ∀ (r : Int32) (fML' : (Nat → Int64)) (H : Heap) (locs : List Loc) (ls : Array Slot) (pc : Nat), decode cX3_pace pc = .ok (.ireturn, 1) → post r fML' → va_P (dC, dI) vwCl [oM aM aMM aML aMY aMT aMR aMB aMN mk mp, aI aMM cZ 36 fMM, aJ aML cJ 61 fML'] H → va_D A [oM aM aMM aML aMY aMT aMR aMB aMN mk mp, aI aMM cZ 36 fMM, aJ aML cJ 61 fML'] → va_S A s.heap H locs → W p l e rm_X3_pace s m args below meth c H locs 0 0 Q (F0 m pc ls [.int r])) (h : wp_X3_pace x1 mk mp fMM fML post) : mW p l e rm_X3_pace s m args below meth c 0 0 Q A (dC, dI) 2 [oM aM aMM aML aMY aMT aMR aMB aMN mk mp, aI aMM cZ 36 fMM, aJ aML cJ 61 fML] [(0, .ref aM), (1, .int x1)] 0 [] := by
  unfold wp_X3_pace at h
  intro H locs ls hP hD hS hl
  refine lv_aload_n hx hb dX3_pace_0 rfl (lv_at hl 0 rfl) ?_
  refine mVv (wr := []) (As := []) (rest := []) ⟨hx, hb, hml, hown, hts⟩ (c_X3_layLeads (l := l) (dC := dC) (dI := dI) (cI := cI) (cJ := cJ) (cZ := cZ) (aM := aM) (aMM := aMM) (aML := aML) (aMY := aMY) (aMT := aMT) (aMR := aMR) (aMB := aMB) (aMN := aMN) h) (cwV 0 hts gX3_pace_X3_layLeads rfl rfl rfl hv_X3_layLeads ⟨Nat.le_of_ble_eq_true rfl, Nat.le_of_ble_eq_true rfl⟩) hK hP hD hS hA [0, 1, 2] [] rfl rfl rfl rfl (by decide) 3 rfl rfl rfl rfl hl.1 rfl (Nat.le_of_ble_eq_true rfl) ⟨Nat.zero_le _, Nat.zero_le _⟩ dX3_pace_1 (fun fML_1 H locs h hP hD hS => ?_)
  have hP : va_P (dC, dI) vwCl [oM aM aMM aML aMY aMT aMR aMB aMN mk mp, aI aMM cZ 36 fMM, aJ aML cJ 61 fML_1] H := hP.sub [0, 1, 2] rfl
  have hD : va_D A [oM aM aMM aML aMY aMT aMR aMB aMN mk mp, aI aMM cZ 36 fMM, aJ aML cJ 61 fML_1] := hD.sub [0, 1, 2] rfl rfl
  refine lv_aload_n hx hb dX3_pace_4 rfl (lv_at hl 0 rfl) ?_
  refine lv_iload_n hx hb dX3_pace_5 rfl (lv_at hl 1 rfl) ?_
  refine mVi (wr := [aI aMM cZ 36 fMM, aJ aML cJ 61 fML_1]) (As := [.int x1]) (rest := []) ⟨hx, hb, hml, hown, hts⟩ (c_X3_isLabel (l := l) (dC := dC) (dI := dI) (cI := cI) (cJ := cJ) (cZ := cZ) (aM := aM) (aMM := aMM) (aML := aML) (aMY := aMY) (aMT := aMT) (aMR := aMR) (aMB := aMB) (aMN := aMN) h) (cwV 1 hts gX3_pace_X3_isLabel rfl rfl rfl hv_X3_isLabel ⟨Nat.le_of_ble_eq_true rfl, Nat.le_of_ble_eq_true rfl⟩) hK hP hD hS hA [0] [1, 2] rfl rfl rfl rfl (by decide) 3 rfl rfl rfl rfl hl.1 rfl (Nat.le_of_ble_eq_true rfl) ⟨Nat.zero_le _, Nat.zero_le _⟩ dX3_pace_6 (fun r6 u6 H locs h hP hD hS => ?_)
  have hP : va_P (dC, dI) vwCl [oM aM aMM aML aMY aMT aMR aMB aMN mk mp, aI aMM cZ 36 fMM, aJ aML cJ 61 fML_1] H := hP.sub [2, 0, 1] rfl
  have hD : va_D A [oM aM aMM aML aMY aMT aMR aMB aMN mk mp, aI aMM cZ 36 fMM, aJ aML cJ 61 fML_1] := hD.sub [2, 0, 1] rfl rfl
  refine lv_if_eq (tgt := 20) hx hb dX3_pace_9 (by decide) (fun q9 => ?_) (fun q9 => ?_)
  · have h := h.1 q9
    refine lv_iconst (v := -1) hx hb dX3_pace_20 (by decide) ?_
    exact ret _ _ H locs ls _ dX3_pace_21 h hP hD hS
  · have h := h.2 q9
    refine lv_aload_n hx hb dX3_pace_12 rfl (lv_at hl 0 rfl) ?_
    refine lv_iload_n hx hb dX3_pace_13 rfl (lv_at hl 1 rfl) ?_
    refine mVi (wr := [aI aMM cZ 36 fMM]) (As := [.int x1]) (rest := []) ⟨hx, hb, hml, hown, hts⟩ (c_X3_paceOf (l := l) (dC := dC) (dI := dI) (cI := cI) (cJ := cJ) (cZ := cZ) (aM := aM) (aMM := aMM) (aML := aML) (aMY := aMY) (aMT := aMT) (aMR := aMR) (aMB := aMB) (aMN := aMN) h) (cwV 1 hts gX3_pace_X3_paceOf rfl rfl rfl hv_X3_paceOf ⟨Nat.le_of_ble_eq_true rfl, Nat.le_of_ble_eq_true rfl⟩) hK hP hD hS hA [0, 2] [1] rfl rfl rfl rfl (by decide) 3 rfl rfl rfl rfl hl.1 rfl (Nat.le_of_ble_eq_true rfl) ⟨Nat.zero_le _, Nat.zero_le _⟩ dX3_pace_14 (fun r14 u14 H locs h hP hD hS => ?_)
    have hP : va_P (dC, dI) vwCl [oM aM aMM aML aMY aMT aMR aMB aMN mk mp, aI aMM cZ 36 fMM, aJ aML cJ 61 fML_1] H := hP.sub [1, 0, 2] rfl
    have hD : va_D A [oM aM aMM aML aMY aMT aMR aMB aMN mk mp, aI aMM cZ 36 fMM, aJ aML cJ 61 fML_1] := hD.sub [1, 0, 2] rfl rfl
    refine lv_goto (tgt := 21) hx hb dX3_pace_17 (by decide) ?_
    exact ret _ _ H locs ls _ dX3_pace_21 h hP hD hS
set_option maxHeartbeats 4000000 in
set_option maxRecDepth 100000 in
theorem c_X3_pace {l : Launch} {dC : Nat → ClassId} {dI : Nat → Nat → Nat} {cI cJ cZ : ClassId} {aM aMM aML aMY aMT aMR aMB aMN : Nat} {mk : Int32} {mp : Int32} {fMM : (Nat → Int32)} {fML : (Nat → Int64)} {x1 : Int32} {post : Int32 → (Nat → Int64) → Prop} (h : wp_X3_pace x1 mk mp fMM fML post) : ∀ sz, Met l yX3_pace wsX3_pace rm_X3_pace (mP (dC, dI) (mTy cI cJ cZ) [.ref aM, .int x1] [oM aM aMM aML aMY aMT aMR aMB aMN mk mp, aI aMM cZ 36 fMM, aJ aML cJ 61 fML] sz) (va_Qi (fun (r : Int32) (u : (Nat → Int64)) => post r u) (mB (dC, dI) (va_A [oM aM aMM aML aMY aMT aMR aMB aMN mk mp, aI aMM cZ 36 fMM, aJ aML cJ 61 fML] sz) (fun u => [oM aM aMM aML aMY aMT aMR aMB aMN mk mp, aI aMM cZ 36 fMM, aJ aML cJ 61 u])) (va_A [oM aM aMM aML aMY aMT aMR aMB aMN mk mp, aI aMM cZ 36 fMM, aJ aML cJ 61 fML] sz)) 0 0 (va_A [oM aM aMM aML aMY aMT aMR aMB aMN mk mp, aI aMM cZ 36 fMM, aJ aML cJ 61 fML] sz) := by
  intro sz
  refine Met.ofW (cc := cX3_pace) (maxL := 2) (ret := (some .int)) (by decide) rfl ?_
  intro p e s m args below meth c s₁ B hml hv
  obtain ⟨rfl, hsz, hP, hK, hD0⟩ := hv
  have hlocks := B.notSynchronized
  subst hsz
  have hD := hD0.self (sz := s.heap.size)
  have hl := lv_entry ([.ref aM, .int x1]) (n := 2) (Nat.le_of_ble_eq_true rfl)
  rw [lg_entry_eq]
  exact k_X3_pace B.exec B.bytes hml (findClass_of_methodNamed B.named) (atoms_spec (ws := wsX3_pace) B.pre) hK (fun q hq => Or.inr hq) (fun r fML' H locs ls pc hd hp hP hD hS => W.iret B.exec B.bytes B.returns (fun t ht hW => ⟨⟨r, fML', rfl, hp, by rw [ht]; exact hP, hD⟩, hS.F ht⟩) hS.2.2 hd) h s.heap [] _ hP hD va_S.rf hl

def wp_X3_kind_b67 (x1 : Int32) (x3 : Int32) (x4 : Int32) (x5 : Int32) (z0 : Int32) (mk : Int32) (mp : Int32) (fMM : (Nat → Int32)) (fML : (Nat → Int64)) (post : Int32 → (Nat → Int64) → Prop) (P13 : Int32 → Int32 → Int32 → Int32 → Prop) : Prop := ((¬ x3 = (0 : Int32) → (∀ v84 : Int32, v84 = x4 + (1 : Int32) → P13 x1 z0 (1 : Int32) v84)) ∧ (x3 = (0 : Int32) → ((¬ x5 = (1 : Int32) → (∀ v84 : Int32, v84 = x4 + (1 : Int32) → P13 x1 z0 (0 : Int32) v84)) ∧ (x5 = (1 : Int32) → (∀ v84 : Int32, v84 = x4 + (1 : Int32) → P13 x1 z0 (1 : Int32) v84)))))
def wp_X3_kind_b44 (x2 : Int32) (x3 : Int32) (x4 : Int32) (x5 : Int32) (z0 : Int32) (mk : Int32) (mp : Int32) (fMM : (Nat → Int32)) (fML : (Nat → Int64)) (post : Int32 → (Nat → Int64) → Prop) (P13 : Int32 → Int32 → Int32 → Int32 → Prop) : Prop := ((¬ x2 = (0 : Int32) → wp_X3_kind_b67 z0 x3 x4 x5 (1 : Int32) mk mp fMM fML post P13) ∧ (x2 = (0 : Int32) → (vp_in ((7 : Int32) * x4) 36 ∧ (((fMM ((7 : Int32) * x4).toNatClampNeg) = (0 : Int32) → wp_X3_kind_b67 z0 x3 x4 x5 (0 : Int32) mk mp fMM fML post P13) ∧ (¬ (fMM ((7 : Int32) * x4).toNatClampNeg) = (0 : Int32) → wp_X3_kind_b67 z0 x3 x4 x5 (1 : Int32) mk mp fMM fML post P13)))))
def wp_X3_kind_b13 (x1 : Int32) (x2 : Int32) (x3 : Int32) (x4 : Int32) (mk : Int32) (mp : Int32) (fMM : (Nat → Int32)) (fML : (Nat → Int64)) (post : Int32 → (Nat → Int64) → Prop)  : Prop := ∀ P13 : Int32 → Int32 → Int32 → Int32 → Prop, (∀ (x1 : Int32) (x2 : Int32) (x3 : Int32) (x4 : Int32), ((mk ≤ x4 → ((¬ x1 = (0 : Int32) → ((x2 = (0 : Int32) → ((x3 = (0 : Int32) → post (3 : Int32) fML) ∧ (¬ x3 = (0 : Int32) → post (2 : Int32) fML))) ∧ (¬ x2 = (0 : Int32) → post (1 : Int32) fML))) ∧ (x1 = (0 : Int32) → post (0 : Int32) fML))) ∧ (¬ mk ≤ x4 → wp_X3_paceOf x4 mk mp fML (fun (r25 : Int32) => ((¬ x1 = (0 : Int32) → wp_X3_kind_b44 x2 x3 x4 r25 (1 : Int32) mk mp fMM fML post P13) ∧ (x1 = (0 : Int32) → ((r25 ≤ (0 : Int32) → wp_X3_kind_b44 x2 x3 x4 r25 (0 : Int32) mk mp fMM fML post P13) ∧ (¬ r25 ≤ (0 : Int32) → wp_X3_kind_b44 x2 x3 x4 r25 (1 : Int32) mk mp fMM fML post P13))))))) → P13 x1 x2 x3 x4) → P13 x1 x2 x3 x4
def wp_X3_kind  (mk : Int32) (mp : Int32) (fMM : (Nat → Int32)) (fML : (Nat → Int64)) (post : Int32 → (Nat → Int64) → Prop) : Prop := wp_X3_layLeads mk mp fMM fML (fun (fML_1 : (Nat → Int64)) => wp_X3_kind_b13 (0 : Int32) (0 : Int32) (0 : Int32) (0 : Int32) mk mp fMM fML_1 post)
abbrev rm_X3_kind : Room := { frames := 2, cells := 0, slots := 0, locals := 47 }
theorem hv_X3_kind : yX3_kind.cls = RX3 ∧ yX3_kind.cls ≠ "java/lang/invoke/MethodHandle" ∧ yX3_kind.cls ≠ "java/lang/invoke/VarHandle" ∧ (parseMethodDescriptor yX3_kind.desc).map (fun d => d.parameters.length) = some 0 := by decide +kernel
set_option maxHeartbeats 4000000 in
set_option maxRecDepth 100000 in
theorem k_X3_kind {p : Program} {l : Launch} {e : Env} {s : State} {m : MethodId} {args : Array Value} {below : List Frame} {meth : Method} {c : Code} {Q : State → Prop} {A : Nat → Prop} {dC : Nat → ClassId} {dI : Nat → Nat → Nat} {cI cJ cZ : ClassId} (hx : p.tables.exec = Jvm.exec) (hb : c.code = cX3_kind) (hml : c.maxLocals = 6) (hown : s.vm.findClass RX3 = some m.cls) (hts : ∀ w ∈ wsX3_kind, w.before args s = true) (hK : va_K (dC, dI) vwCl (mTy cI cJ cZ) s) (hA : ∀ q, s.heap.size ≤ q → A q) {aM aMM aML aMY aMT aMR aMB aMN : Nat} {mk : Int32} {mp : Int32} {fMM : (Nat → Int32)} {fML : (Nat → Int64)}  {post : Int32 → (Nat → Int64) → Prop} (ret : ∀ (r : Int32) (fML' : (Nat → Int64)) (H : Heap) (locs : List Loc) (ls : Array Slot) (pc : Nat), decode cX3_kind pc = .ok (.ireturn, 1) → post r fML' → va_P (dC, dI) vwCl [oM aM aMM aML aMY aMT aMR aMB aMN mk mp, aI aMM cZ 36 fMM, aJ aML cJ 61 fML'] H → va_D A [oM aM aMM aML aMY aMT aMR aMB aMN mk mp, aI aMM cZ 36 fMM, aJ aML cJ 61 fML'] → va_S A s.heap H locs → W p l e rm_X3_kind s m args below meth c H locs 0 0 Q (F0 m pc ls [.int r])) (h : wp_X3_kind  mk mp fMM fML post) : mW p l e rm_X3_kind s m args below meth c 0 0 Q A (dC, dI) 6 [oM aM aMM aML aMY aMT aMR aMB aMN mk mp, aI aMM cZ 36 fMM, aJ aML cJ 61 fML] [(0, .ref aM)] 0 [] := by
  have in_X3 : ∀ w ∈ wsX30, w ∈ wsX3_kind := fun w hw => List.mem_cons_of_mem _ (List.mem_append_right _ hw)
  have k_40 := hts (.fieldLink RX3 40 "RingTasksModel" "labels" "I") (List.mem_of_getElem? (i := 1) rfl)
  have k_7 := hts (.fieldLink RX3 7 "RingTasksModel" "may" "[Z") (List.mem_of_getElem? (i := 2) rfl)
  have B67 : ∀ (x1 : Int32) (x3 : Int32) (x4 : Int32) (x5 : Int32) (z0 : Int32) (fML : (Nat → Int64)), ∀ (P13 : Int32 → Int32 → Int32 → Int32 → Prop) (hP13 : ∀ (x1 : Int32) (x2 : Int32) (x3 : Int32) (x4 : Int32), P13 x1 x2 x3 x4 → mW p l e rm_X3_kind s m args below meth c 0 0 Q A (dC, dI) 6 [oM aM aMM aML aMY aMT aMR aMB aMN mk mp, aI aMM cZ 36 fMM, aJ aML cJ 61 fML] [(0, .ref aM), (1, .int x1), (2, .int x2), (3, .int x3), (4, .int x4)] 13 []), wp_X3_kind_b67 x1 x3 x4 x5 z0 mk mp fMM fML post P13 → mW p l e rm_X3_kind s m args below meth c 0 0 Q A (dC, dI) 6 [oM aM aMM aML aMY aMT aMR aMB aMN mk mp, aI aMM cZ 36 fMM, aJ aML cJ 61 fML] [(0, .ref aM), (1, .int x1), (3, .int x3), (4, .int x4), (5, .int x5)] 67 [.int z0] := by
    intro x1 x3 x4 x5 z0 fML P13 hP13 h
    unfold wp_X3_kind_b67 at h
    intro H locs ls hP hD hS hl
    refine lv_istore_n (lv' := [(2, .int z0), (0, .ref aM), (1, .int x1), (3, .int x3), (4, .int x4), (5, .int x5)]) hx hb dX3_kind_67 rfl hl (by decide) rfl (fun ls hl => ?_)
    refine lv_iload_n hx hb dX3_kind_68 rfl (lv_at hl 3 rfl) ?_
    refine lv_if_ne (tgt := 78) hx hb dX3_kind_69 (by decide) (fun q69 => ?_) (fun q69 => ?_)
    · have h := h.1 q69
      refine lv_iconst (v := 1) hx hb dX3_kind_78 (by decide) ?_
      refine lv_goto (tgt := 83) hx hb dX3_kind_79 (by decide) ?_
      refine lv_istore_n (lv' := [(3, .int (1 : Int32)), (2, .int z0), (0, .ref aM), (1, .int x1), (4, .int x4), (5, .int x5)]) hx hb dX3_kind_83 rfl hl (by decide) rfl (fun ls hl => ?_)
      obtain ⟨v84, ev84⟩ : ∃ y : Int32, y = x4 + (1 : Int32) := ⟨_, rfl⟩
      have h := h v84 ev84
      refine lv_iinc (v := v84) (lv' := [(4, .int v84), (3, .int (1 : Int32)), (2, .int z0), (0, .ref aM), (1, .int x1), (5, .int x5)]) hx hb dX3_kind_84 hl (k := 4) rfl (by rw [ev84]; rfl) (by decide) rfl (fun ls hl => ?_)
      refine lv_goto (tgt := 13) hx hb dX3_kind_87 (by decide) ?_
      exact hP13 _ _ _ _ h H locs ls hP hD hS (lv_sub hl [3, 4, 2, 1, 0] rfl)
    · have h := h.2 q69
      refine lv_iload hx hb dX3_kind_72 (lv_at hl 5 rfl) ?_
      refine lv_iconst (v := 1) hx hb dX3_kind_74 (by decide) ?_
      refine lv_icmp_ne (tgt := 82) hx hb dX3_kind_75 (by decide) (fun q75 => ?_) (fun q75 => ?_)
      · have h := h.1 q75
        refine lv_iconst (v := 0) hx hb dX3_kind_82 (by decide) ?_
        refine lv_istore_n (lv' := [(3, .int (0 : Int32)), (2, .int z0), (0, .ref aM), (1, .int x1), (4, .int x4), (5, .int x5)]) hx hb dX3_kind_83 rfl hl (by decide) rfl (fun ls hl => ?_)
        obtain ⟨v84, ev84⟩ : ∃ y : Int32, y = x4 + (1 : Int32) := ⟨_, rfl⟩
        have h := h v84 ev84
        refine lv_iinc (v := v84) (lv' := [(4, .int v84), (3, .int (0 : Int32)), (2, .int z0), (0, .ref aM), (1, .int x1), (5, .int x5)]) hx hb dX3_kind_84 hl (k := 4) rfl (by rw [ev84]; rfl) (by decide) rfl (fun ls hl => ?_)
        refine lv_goto (tgt := 13) hx hb dX3_kind_87 (by decide) ?_
        exact hP13 _ _ _ _ h H locs ls hP hD hS (lv_sub hl [3, 4, 2, 1, 0] rfl)
      · have h := h.2 q75
        refine lv_iconst (v := 1) hx hb dX3_kind_78 (by decide) ?_
        refine lv_goto (tgt := 83) hx hb dX3_kind_79 (by decide) ?_
        refine lv_istore_n (lv' := [(3, .int (1 : Int32)), (2, .int z0), (0, .ref aM), (1, .int x1), (4, .int x4), (5, .int x5)]) hx hb dX3_kind_83 rfl hl (by decide) rfl (fun ls hl => ?_)
        obtain ⟨v84, ev84⟩ : ∃ y : Int32, y = x4 + (1 : Int32) := ⟨_, rfl⟩
        have h := h v84 ev84
        refine lv_iinc (v := v84) (lv' := [(4, .int v84), (3, .int (1 : Int32)), (2, .int z0), (0, .ref aM), (1, .int x1), (5, .int x5)]) hx hb dX3_kind_84 hl (k := 4) rfl (by rw [ev84]; rfl) (by decide) rfl (fun ls hl => ?_)
        refine lv_goto (tgt := 13) hx hb dX3_kind_87 (by decide) ?_
        exact hP13 _ _ _ _ h H locs ls hP hD hS (lv_sub hl [3, 4, 2, 1, 0] rfl)
  have B44 : ∀ (x2 : Int32) (x3 : Int32) (x4 : Int32) (x5 : Int32) (z0 : Int32) (fML : (Nat → Int64)), ∀ (P13 : Int32 → Int32 → Int32 → Int32 → Prop) (hP13 : ∀ (x1 : Int32) (x2 : Int32) (x3 : Int32) (x4 : Int32), P13 x1 x2 x3 x4 → mW p l e rm_X3_kind s m args below meth c 0 0 Q A (dC, dI) 6 [oM aM aMM aML aMY aMT aMR aMB aMN mk mp, aI aMM cZ 36 fMM, aJ aML cJ 61 fML] [(0, .ref aM), (1, .int x1), (2, .int x2), (3, .int x3), (4, .int x4)] 13 []), wp_X3_kind_b44 x2 x3 x4 x5 z0 mk mp fMM fML post P13 → mW p l e rm_X3_kind s m args below meth c 0 0 Q A (dC, dI) 6 [oM aM aMM aML aMY aMT aMR aMB aMN mk mp, aI aMM cZ 36 fMM, aJ aML cJ 61 fML] [(0, .ref aM), (2, .int x2), (3, .int x3), (4, .int x4), (5, .int x5)] 44 [.int z0] := by
    intro x2 x3 x4 x5 z0 fML P13 hP13 h
    unfold wp_X3_kind_b44 at h
    intro H locs ls hP hD hS hl
    refine lv_istore_n (lv' := [(1, .int z0), (0, .ref aM), (2, .int x2), (3, .int x3), (4, .int x4), (5, .int x5)]) hx hb dX3_kind_44 rfl hl (by decide) rfl (fun ls hl => ?_)
    refine lv_iload_n hx hb dX3_kind_45 rfl (lv_at hl 2 rfl) ?_
    refine lv_if_ne (tgt := 62) hx hb dX3_kind_46 (by decide) (fun q46 => ?_) (fun q46 => ?_)
    · have h := h.1 q46
      refine lv_iconst (v := 1) hx hb dX3_kind_62 (by decide) ?_
      refine lv_goto (tgt := 67) hx hb dX3_kind_63 (by decide) ?_
      exact B67 _ _ _ _ _ _ _ hP13 h H locs ls hP hD hS (lv_sub hl [1, 0, 3, 4, 5] rfl)
    · have h := h.2 q46
      refine lv_aload_n hx hb dX3_kind_49 rfl (lv_at hl 1 rfl) ?_
      refine va_get (D := (dC, dI)) (ci := 3) (v := .ref aMM) (C := RX3) (T := TX3) (N := 9) hx hb hts in_X3 hown hK hP 0 rfl rfl 1 (by decide) k_7 (fun _ h9 => h9) rfl dX3_kind_50 ?_
      refine lv_bipush (v := 7) hx hb dX3_kind_53 (by decide) ?_
      refine lv_iload hx hb dX3_kind_55 (lv_at hl 4 rfl) ?_
      refine lv_imul hx hb dX3_kind_57 ?_
      refine va_zald (D := (dC, dI)) hx hb hK hP 1 2 rfl rfl h.1 dX3_kind_58 ?_
      have h := h.2
      refine lv_if_eq (tgt := 66) hx hb dX3_kind_59 (by decide) (fun q59 => ?_) (fun q59 => ?_)
      · have h := h.1 q59
        refine lv_iconst (v := 0) hx hb dX3_kind_66 (by decide) ?_
        exact B67 _ _ _ _ _ _ _ hP13 h H locs ls hP hD hS (lv_sub hl [1, 0, 3, 4, 5] rfl)
      · have h := h.2 q59
        refine lv_iconst (v := 1) hx hb dX3_kind_62 (by decide) ?_
        refine lv_goto (tgt := 67) hx hb dX3_kind_63 (by decide) ?_
        exact B67 _ _ _ _ _ _ _ hP13 h H locs ls hP hD hS (lv_sub hl [1, 0, 3, 4, 5] rfl)
  have B13 : ∀ (x1 : Int32) (x2 : Int32) (x3 : Int32) (x4 : Int32) (fML : (Nat → Int64)), wp_X3_kind_b13 x1 x2 x3 x4 mk mp fMM fML post → mW p l e rm_X3_kind s m args below meth c 0 0 Q A (dC, dI) 6 [oM aM aMM aML aMY aMT aMR aMB aMN mk mp, aI aMM cZ 36 fMM, aJ aML cJ 61 fML] [(0, .ref aM), (1, .int x1), (2, .int x2), (3, .int x3), (4, .int x4)] 13 [] := by
    intro x1 x2 x3 x4 fML h
    unfold wp_X3_kind_b13 at h
    refine h (fun (x1 : Int32) (x2 : Int32) (x3 : Int32) (x4 : Int32) => mW p l e rm_X3_kind s m args below meth c 0 0 Q A (dC, dI) 6 [oM aM aMM aML aMY aMT aMR aMB aMN mk mp, aI aMM cZ 36 fMM, aJ aML cJ 61 fML] [(0, .ref aM), (1, .int x1), (2, .int x2), (3, .int x3), (4, .int x4)] 13 []) ?_
    intro x1 x2 x3 x4 h
    intro H locs ls hP hD hS hl
    refine lv_iload hx hb dX3_kind_13 (lv_at hl 4 rfl) ?_
    refine lv_aload_n hx hb dX3_kind_15 rfl (lv_at hl 0 rfl) ?_
    refine va_get (D := (dC, dI)) (ci := 3) (v := .int mk) (C := RX3) (T := TX3) (N := 9) hx hb hts in_X3 hown hK hP 0 rfl rfl 0 (by decide) k_40 (fun _ h9 => h9) rfl dX3_kind_16 ?_
    refine lv_icmp_ge (tgt := 90) hx hb dX3_kind_19 (by decide) (fun q19 => ?_) (fun q19 => ?_)
    · have h := h.1 q19
      refine lv_iload_n hx hb dX3_kind_90 rfl (lv_at hl 1 rfl) ?_
      refine lv_if_ne (tgt := 98) hx hb dX3_kind_91 (by decide) (fun q91 => ?_) (fun q91 => ?_)
      · have h := h.1 q91
        refine lv_iload_n hx hb dX3_kind_98 rfl (lv_at hl 2 rfl) ?_
        refine lv_if_eq (tgt := 106) hx hb dX3_kind_99 (by decide) (fun q99 => ?_) (fun q99 => ?_)
        · have h := h.1 q99
          refine lv_iload_n hx hb dX3_kind_106 rfl (lv_at hl 3 rfl) ?_
          refine lv_if_eq (tgt := 114) hx hb dX3_kind_107 (by decide) (fun q107 => ?_) (fun q107 => ?_)
          · have h := h.1 q107
            refine lv_iconst (v := 3) hx hb dX3_kind_114 (by decide) ?_
            exact ret _ _ H locs ls _ dX3_kind_115 h hP hD hS
          · have h := h.2 q107
            refine lv_iconst (v := 2) hx hb dX3_kind_110 (by decide) ?_
            refine lv_goto (tgt := 115) hx hb dX3_kind_111 (by decide) ?_
            exact ret _ _ H locs ls _ dX3_kind_115 h hP hD hS
        · have h := h.2 q99
          refine lv_iconst (v := 1) hx hb dX3_kind_102 (by decide) ?_
          refine lv_goto (tgt := 115) hx hb dX3_kind_103 (by decide) ?_
          exact ret _ _ H locs ls _ dX3_kind_115 h hP hD hS
      · have h := h.2 q91
        refine lv_iconst (v := 0) hx hb dX3_kind_94 (by decide) ?_
        refine lv_goto (tgt := 115) hx hb dX3_kind_95 (by decide) ?_
        exact ret _ _ H locs ls _ dX3_kind_115 h hP hD hS
    · have h := h.2 q19
      refine lv_aload_n hx hb dX3_kind_22 rfl (lv_at hl 0 rfl) ?_
      refine lv_iload hx hb dX3_kind_23 (lv_at hl 4 rfl) ?_
      refine mVi (wr := [aI aMM cZ 36 fMM]) (As := [.int x4]) (rest := []) ⟨hx, hb, hml, hown, hts⟩ (c_X3_paceOf (l := l) (dC := dC) (dI := dI) (cI := cI) (cJ := cJ) (cZ := cZ) (aM := aM) (aMM := aMM) (aML := aML) (aMY := aMY) (aMT := aMT) (aMR := aMR) (aMB := aMB) (aMN := aMN) h) (cwV 1 hts gX3_kind_X3_paceOf rfl rfl rfl hv_X3_paceOf ⟨Nat.le_of_ble_eq_true rfl, Nat.le_of_ble_eq_true rfl⟩) hK hP hD hS hA [0, 2] [1] rfl rfl rfl rfl (by decide) 3 rfl rfl rfl rfl hl.1 rfl (Nat.le_of_ble_eq_true rfl) ⟨Nat.zero_le _, Nat.zero_le _⟩ dX3_kind_25 (fun r25 u25 H locs h hP hD hS => ?_)
      have hP : va_P (dC, dI) vwCl [oM aM aMM aML aMY aMT aMR aMB aMN mk mp, aI aMM cZ 36 fMM, aJ aML cJ 61 fML] H := hP.sub [1, 0, 2] rfl
      have hD : va_D A [oM aM aMM aML aMY aMT aMR aMB aMN mk mp, aI aMM cZ 36 fMM, aJ aML cJ 61 fML] := hD.sub [1, 0, 2] rfl rfl
      refine lv_istore (lv' := [(5, .int r25), (0, .ref aM), (1, .int x1), (2, .int x2), (3, .int x3), (4, .int x4)]) hx hb dX3_kind_28 hl (by decide) rfl (fun ls hl => ?_)
      refine lv_iload_n hx hb dX3_kind_30 rfl (lv_at hl 2 rfl) ?_
      refine lv_if_ne (tgt := 39) hx hb dX3_kind_31 (by decide) (fun q31 => ?_) (fun q31 => ?_)
      · have h := h.1 q31
        refine lv_iconst (v := 1) hx hb dX3_kind_39 (by decide) ?_
        refine lv_goto (tgt := 44) hx hb dX3_kind_40 (by decide) ?_
        exact B44 _ _ _ _ _ _ _ (fun _ _ _ _ hq => hq) h H locs ls hP hD hS (lv_sub hl [1, 3, 4, 5, 0] rfl)
      · have h := h.2 q31
        refine lv_iload hx hb dX3_kind_34 (lv_at hl 0 rfl) ?_
        refine lv_if_le (tgt := 43) hx hb dX3_kind_36 (by decide) (fun q36 => ?_) (fun q36 => ?_)
        · have h := h.1 q36
          refine lv_iconst (v := 0) hx hb dX3_kind_43 (by decide) ?_
          exact B44 _ _ _ _ _ _ _ (fun _ _ _ _ hq => hq) h H locs ls hP hD hS (lv_sub hl [1, 3, 4, 5, 0] rfl)
        · have h := h.2 q36
          refine lv_iconst (v := 1) hx hb dX3_kind_39 (by decide) ?_
          refine lv_goto (tgt := 44) hx hb dX3_kind_40 (by decide) ?_
          exact B44 _ _ _ _ _ _ _ (fun _ _ _ _ hq => hq) h H locs ls hP hD hS (lv_sub hl [1, 3, 4, 5, 0] rfl)
  unfold wp_X3_kind at h
  intro H locs ls hP hD hS hl
  refine lv_aload_n hx hb dX3_kind_0 rfl (lv_at hl 0 rfl) ?_
  refine mVv (wr := []) (As := []) (rest := []) ⟨hx, hb, hml, hown, hts⟩ (c_X3_layLeads (l := l) (dC := dC) (dI := dI) (cI := cI) (cJ := cJ) (cZ := cZ) (aM := aM) (aMM := aMM) (aML := aML) (aMY := aMY) (aMT := aMT) (aMR := aMR) (aMB := aMB) (aMN := aMN) h) (cwV 0 hts gX3_kind_X3_layLeads rfl rfl rfl hv_X3_layLeads ⟨Nat.le_of_ble_eq_true rfl, Nat.le_of_ble_eq_true rfl⟩) hK hP hD hS hA [0, 1, 2] [] rfl rfl rfl rfl (by decide) 3 rfl rfl rfl rfl hl.1 rfl (Nat.le_of_ble_eq_true rfl) ⟨Nat.zero_le _, Nat.zero_le _⟩ dX3_kind_1 (fun fML_1 H locs h hP hD hS => ?_)
  have hP : va_P (dC, dI) vwCl [oM aM aMM aML aMY aMT aMR aMB aMN mk mp, aI aMM cZ 36 fMM, aJ aML cJ 61 fML_1] H := hP.sub [0, 1, 2] rfl
  have hD : va_D A [oM aM aMM aML aMY aMT aMR aMB aMN mk mp, aI aMM cZ 36 fMM, aJ aML cJ 61 fML_1] := hD.sub [0, 1, 2] rfl rfl
  refine lv_iconst (v := 0) hx hb dX3_kind_4 (by decide) ?_
  refine lv_istore_n (lv' := [(1, .int (0 : Int32)), (0, .ref aM)]) hx hb dX3_kind_5 rfl hl (by decide) rfl (fun ls hl => ?_)
  refine lv_iconst (v := 0) hx hb dX3_kind_6 (by decide) ?_
  refine lv_istore_n (lv' := [(2, .int (0 : Int32)), (1, .int (0 : Int32)), (0, .ref aM)]) hx hb dX3_kind_7 rfl hl (by decide) rfl (fun ls hl => ?_)
  refine lv_iconst (v := 0) hx hb dX3_kind_8 (by decide) ?_
  refine lv_istore_n (lv' := [(3, .int (0 : Int32)), (2, .int (0 : Int32)), (1, .int (0 : Int32)), (0, .ref aM)]) hx hb dX3_kind_9 rfl hl (by decide) rfl (fun ls hl => ?_)
  refine lv_iconst (v := 0) hx hb dX3_kind_10 (by decide) ?_
  refine lv_istore (lv' := [(4, .int (0 : Int32)), (3, .int (0 : Int32)), (2, .int (0 : Int32)), (1, .int (0 : Int32)), (0, .ref aM)]) hx hb dX3_kind_11 hl (by decide) rfl (fun ls hl => ?_)
  exact B13 _ _ _ _ _ h H locs ls hP hD hS (lv_sub hl [4, 3, 2, 1, 0] rfl)
set_option maxHeartbeats 4000000 in
set_option maxRecDepth 100000 in
theorem c_X3_kind {l : Launch} {dC : Nat → ClassId} {dI : Nat → Nat → Nat} {cI cJ cZ : ClassId} {aM aMM aML aMY aMT aMR aMB aMN : Nat} {mk : Int32} {mp : Int32} {fMM : (Nat → Int32)} {fML : (Nat → Int64)}  {post : Int32 → (Nat → Int64) → Prop} (h : wp_X3_kind  mk mp fMM fML post) : ∀ sz, Met l yX3_kind wsX3_kind rm_X3_kind (mP (dC, dI) (mTy cI cJ cZ) [.ref aM] [oM aM aMM aML aMY aMT aMR aMB aMN mk mp, aI aMM cZ 36 fMM, aJ aML cJ 61 fML] sz) (va_Qi (fun (r : Int32) (u : (Nat → Int64)) => post r u) (mB (dC, dI) (va_A [oM aM aMM aML aMY aMT aMR aMB aMN mk mp, aI aMM cZ 36 fMM, aJ aML cJ 61 fML] sz) (fun u => [oM aM aMM aML aMY aMT aMR aMB aMN mk mp, aI aMM cZ 36 fMM, aJ aML cJ 61 u])) (va_A [oM aM aMM aML aMY aMT aMR aMB aMN mk mp, aI aMM cZ 36 fMM, aJ aML cJ 61 fML] sz)) 0 0 (va_A [oM aM aMM aML aMY aMT aMR aMB aMN mk mp, aI aMM cZ 36 fMM, aJ aML cJ 61 fML] sz) := by
  intro sz
  refine Met.ofW (cc := cX3_kind) (maxL := 6) (ret := (some .int)) (by decide) rfl ?_
  intro p e s m args below meth c s₁ B hml hv
  obtain ⟨rfl, hsz, hP, hK, hD0⟩ := hv
  have hlocks := B.notSynchronized
  subst hsz
  have hD := hD0.self (sz := s.heap.size)
  have hl := lv_entry ([.ref aM]) (n := 6) (Nat.le_of_ble_eq_true rfl)
  rw [lg_entry_eq]
  exact k_X3_kind B.exec B.bytes hml (findClass_of_methodNamed B.named) (atoms_spec (ws := wsX3_kind) B.pre) hK (fun q hq => Or.inr hq) (fun r fML' H locs ls pc hd hp hP hD hS => W.iret B.exec B.bytes B.returns (fun t ht hW => ⟨⟨r, fML', rfl, hp, by rw [ht]; exact hP, hD⟩, hS.F ht⟩) hS.2.2 hd) h s.heap [] _ hP hD va_S.rf hl

def wp_X3_behindLast_b42 (x1 : Int32) (x2 : Int32) (x3 : Int32) (x5 : Int32) (mk : Int32) (mp : Int32) (fML : (Nat → Int64)) (post : Int32 → Prop) (P4 : Int32 → Int32 → Prop) (P16 : Int32 → Int32 → Prop) : Prop := wp_X3_isWalk x5 x5 x3 mk mp fML (fun (r48 : Int32) => ((r48 = (0 : Int32) → (∀ v61 : Int32, v61 = x5 + (1 : Int32) → P16 (0 : Int32) v61)) ∧ (¬ r48 = (0 : Int32) → (∀ v61 : Int32, v61 = x5 + (1 : Int32) → P16 (1 : Int32) v61))))
def wp_X3_behindLast_b16 (x1 : Int32) (x2 : Int32) (x3 : Int32) (x4 : Int32) (x5 : Int32) (mk : Int32) (mp : Int32) (fML : (Nat → Int64)) (post : Int32 → Prop) (P4 : Int32 → Int32 → Prop) : Prop := ∀ P16 : Int32 → Int32 → Prop, (∀ (x4 : Int32) (x5 : Int32), ((mk ≤ x5 → ((x4 = (0 : Int32) → (∀ v78 : Int32, v78 = x3 + (1 : Int32) → P4 x3 v78)) ∧ (¬ x4 = (0 : Int32) → (∀ v78 : Int32, v78 = x3 + (1 : Int32) → P4 x2 v78)))) ∧ (¬ mk ≤ x5 → ((¬ x4 = (0 : Int32) → (∀ v61 : Int32, v61 = x5 + (1 : Int32) → P16 (1 : Int32) v61)) ∧ (x4 = (0 : Int32) → ((x1 = (-9 : Int32) → wp_X3_behindLast_b42 x1 x2 x3 x5 mk mp fML post P4 P16) ∧ (¬ x1 = (-9 : Int32) → ((¬ x1 = x5 → (∀ v61 : Int32, v61 = x5 + (1 : Int32) → P16 (0 : Int32) v61)) ∧ (x1 = x5 → wp_X3_behindLast_b42 x1 x2 x3 x5 mk mp fML post P4 P16)))))))) → P16 x4 x5) → P16 x4 x5
def wp_X3_behindLast_b4 (x1 : Int32) (x2 : Int32) (x3 : Int32) (mk : Int32) (mp : Int32) (fML : (Nat → Int64)) (post : Int32 → Prop)  : Prop := ∀ P4 : Int32 → Int32 → Prop, (∀ (x2 : Int32) (x3 : Int32), (((60 : Int32) < x3 → post (x2 + (1 : Int32))) ∧ (¬ (60 : Int32) < x3 → wp_X3_behindLast_b16 x1 x2 x3 (0 : Int32) (0 : Int32) mk mp fML post P4)) → P4 x2 x3) → P4 x2 x3
def wp_X3_behindLast (x1 : Int32) (mk : Int32) (mp : Int32) (fML : (Nat → Int64)) (post : Int32 → Prop) : Prop := wp_X3_behindLast_b4 x1 (-1 : Int32) (0 : Int32) mk mp fML post
abbrev rm_X3_behindLast : Room := { frames := 1, cells := 0, slots := 0, locals := 23 }
theorem hv_X3_behindLast : yX3_behindLast.cls = RX3 ∧ yX3_behindLast.cls ≠ "java/lang/invoke/MethodHandle" ∧ yX3_behindLast.cls ≠ "java/lang/invoke/VarHandle" ∧ (parseMethodDescriptor yX3_behindLast.desc).map (fun d => d.parameters.length) = some 1 := by decide +kernel
set_option maxHeartbeats 4000000 in
set_option maxRecDepth 100000 in
theorem k_X3_behindLast {p : Program} {l : Launch} {e : Env} {s : State} {m : MethodId} {args : Array Value} {below : List Frame} {meth : Method} {c : Code} {Q : State → Prop} {A : Nat → Prop} {dC : Nat → ClassId} {dI : Nat → Nat → Nat} {cI cJ cZ : ClassId} (hx : p.tables.exec = Jvm.exec) (hb : c.code = cX3_behindLast) (hml : c.maxLocals = 6) (hown : s.vm.findClass RX3 = some m.cls) (hts : ∀ w ∈ wsX3_behindLast, w.before args s = true) (hK : va_K (dC, dI) vwCl (mTy cI cJ cZ) s) (hA : ∀ q, s.heap.size ≤ q → A q) {aM aMM aML aMY aMT aMR aMB aMN : Nat} {mk : Int32} {mp : Int32} {fML : (Nat → Int64)} {x1 : Int32} {post : Int32 → Prop} (ret : ∀ (r : Int32) (H : Heap) (locs : List Loc) (ls : Array Slot) (pc : Nat), decode cX3_behindLast pc = .ok (.ireturn, 1) → post r → va_P (dC, dI) vwCl [oM aM aMM aML aMY aMT aMR aMB aMN mk mp, aJ aML cJ 61 fML] H → va_D A [oM aM aMM aML aMY aMT aMR aMB aMN mk mp, aJ aML cJ 61 fML] → va_S A s.heap H locs → W p l e rm_X3_behindLast s m args below meth c H locs 0 0 Q (F0 m pc ls [.int r])) (h : wp_X3_behindLast x1 mk mp fML post) : mW p l e rm_X3_behindLast s m args below meth c 0 0 Q A (dC, dI) 6 [oM aM aMM aML aMY aMT aMR aMB aMN mk mp, aJ aML cJ 61 fML] [(0, .ref aM), (1, .int x1)] 0 [] := by
  have in_X3 : ∀ w ∈ wsX30, w ∈ wsX3_behindLast := fun w hw => List.mem_cons_of_mem _ (List.mem_append_right _ hw)
  have k_40 := hts (.fieldLink RX3 40 "RingTasksModel" "labels" "I") (List.mem_of_getElem? (i := 1) rfl)
  have B42 : ∀ (x1 : Int32) (x2 : Int32) (x3 : Int32) (x5 : Int32), ∀ (P4 : Int32 → Int32 → Prop) (hP4 : ∀ (x2 : Int32) (x3 : Int32), P4 x2 x3 → mW p l e rm_X3_behindLast s m args below meth c 0 0 Q A (dC, dI) 6 [oM aM aMM aML aMY aMT aMR aMB aMN mk mp, aJ aML cJ 61 fML] [(0, .ref aM), (1, .int x1), (2, .int x2), (3, .int x3)] 4 []), ∀ (P16 : Int32 → Int32 → Prop) (hP16 : ∀ (x4 : Int32) (x5 : Int32), P16 x4 x5 → mW p l e rm_X3_behindLast s m args below meth c 0 0 Q A (dC, dI) 6 [oM aM aMM aML aMY aMT aMR aMB aMN mk mp, aJ aML cJ 61 fML] [(0, .ref aM), (1, .int x1), (2, .int x2), (3, .int x3), (4, .int x4), (5, .int x5)] 16 []), wp_X3_behindLast_b42 x1 x2 x3 x5 mk mp fML post P4 P16 → mW p l e rm_X3_behindLast s m args below meth c 0 0 Q A (dC, dI) 6 [oM aM aMM aML aMY aMT aMR aMB aMN mk mp, aJ aML cJ 61 fML] [(0, .ref aM), (1, .int x1), (2, .int x2), (3, .int x3), (5, .int x5)] 42 [] := by
    intro x1 x2 x3 x5 P4 hP4 P16 hP16 h
    unfold wp_X3_behindLast_b42 at h
    intro H locs ls hP hD hS hl
    refine lv_aload_n hx hb dX3_behindLast_42 rfl (lv_at hl 0 rfl) ?_
    refine lv_iload hx hb dX3_behindLast_43 (lv_at hl 4 rfl) ?_
    refine lv_iload hx hb dX3_behindLast_45 (lv_at hl 4 rfl) ?_
    refine lv_iload_n hx hb dX3_behindLast_47 rfl (lv_at hl 3 rfl) ?_
    refine mVi (wr := []) (As := [.int x5, .int x5, .int x3]) (rest := []) ⟨hx, hb, hml, hown, hts⟩ (c_X3_isWalk (l := l) (dC := dC) (dI := dI) (cI := cI) (cJ := cJ) (cZ := cZ) (aM := aM) (aMM := aMM) (aML := aML) (aMY := aMY) (aMT := aMT) (aMR := aMR) (aMB := aMB) (aMN := aMN) h) (cwV 3 hts gX3_behindLast_X3_isWalk rfl rfl rfl hv_X3_isWalk ⟨Nat.le_of_ble_eq_true rfl, Nat.le_of_ble_eq_true rfl⟩) hK hP hD hS hA [0, 1] [] rfl rfl rfl rfl (by decide) 3 rfl rfl rfl rfl hl.1 rfl (Nat.le_of_ble_eq_true rfl) ⟨Nat.zero_le _, Nat.zero_le _⟩ dX3_behindLast_48 (fun r48 u48 H locs h hP hD hS => ?_)
    have hP : va_P (dC, dI) vwCl [oM aM aMM aML aMY aMT aMR aMB aMN mk mp, aJ aML cJ 61 fML] H := hP.sub [0, 1] rfl
    have hD : va_D A [oM aM aMM aML aMY aMT aMR aMB aMN mk mp, aJ aML cJ 61 fML] := hD.sub [0, 1] rfl rfl
    refine lv_if_eq (tgt := 58) hx hb dX3_behindLast_51 (by decide) (fun q51 => ?_) (fun q51 => ?_)
    · have h := h.1 q51
      refine lv_iconst (v := 0) hx hb dX3_behindLast_58 (by decide) ?_
      refine lv_istore (lv' := [(4, .int (0 : Int32)), (0, .ref aM), (1, .int x1), (2, .int x2), (3, .int x3), (5, .int x5)]) hx hb dX3_behindLast_59 hl (by decide) rfl (fun ls hl => ?_)
      obtain ⟨v61, ev61⟩ : ∃ y : Int32, y = x5 + (1 : Int32) := ⟨_, rfl⟩
      have h := h v61 ev61
      refine lv_iinc (v := v61) (lv' := [(5, .int v61), (4, .int (0 : Int32)), (0, .ref aM), (1, .int x1), (2, .int x2), (3, .int x3)]) hx hb dX3_behindLast_61 hl (k := 5) rfl (by rw [ev61]; rfl) (by decide) rfl (fun ls hl => ?_)
      refine lv_goto (tgt := 16) hx hb dX3_behindLast_64 (by decide) ?_
      exact hP16 _ _ h H locs ls hP hD hS (lv_sub hl [2, 3, 4, 5, 1, 0] rfl)
    · have h := h.2 q51
      refine lv_iconst (v := 1) hx hb dX3_behindLast_54 (by decide) ?_
      refine lv_goto (tgt := 59) hx hb dX3_behindLast_55 (by decide) ?_
      refine lv_istore (lv' := [(4, .int (1 : Int32)), (0, .ref aM), (1, .int x1), (2, .int x2), (3, .int x3), (5, .int x5)]) hx hb dX3_behindLast_59 hl (by decide) rfl (fun ls hl => ?_)
      obtain ⟨v61, ev61⟩ : ∃ y : Int32, y = x5 + (1 : Int32) := ⟨_, rfl⟩
      have h := h v61 ev61
      refine lv_iinc (v := v61) (lv' := [(5, .int v61), (4, .int (1 : Int32)), (0, .ref aM), (1, .int x1), (2, .int x2), (3, .int x3)]) hx hb dX3_behindLast_61 hl (k := 5) rfl (by rw [ev61]; rfl) (by decide) rfl (fun ls hl => ?_)
      refine lv_goto (tgt := 16) hx hb dX3_behindLast_64 (by decide) ?_
      exact hP16 _ _ h H locs ls hP hD hS (lv_sub hl [2, 3, 4, 5, 1, 0] rfl)
  have B16 : ∀ (x1 : Int32) (x2 : Int32) (x3 : Int32) (x4 : Int32) (x5 : Int32), ∀ (P4 : Int32 → Int32 → Prop) (hP4 : ∀ (x2 : Int32) (x3 : Int32), P4 x2 x3 → mW p l e rm_X3_behindLast s m args below meth c 0 0 Q A (dC, dI) 6 [oM aM aMM aML aMY aMT aMR aMB aMN mk mp, aJ aML cJ 61 fML] [(0, .ref aM), (1, .int x1), (2, .int x2), (3, .int x3)] 4 []), wp_X3_behindLast_b16 x1 x2 x3 x4 x5 mk mp fML post P4 → mW p l e rm_X3_behindLast s m args below meth c 0 0 Q A (dC, dI) 6 [oM aM aMM aML aMY aMT aMR aMB aMN mk mp, aJ aML cJ 61 fML] [(0, .ref aM), (1, .int x1), (2, .int x2), (3, .int x3), (4, .int x4), (5, .int x5)] 16 [] := by
    intro x1 x2 x3 x4 x5 P4 hP4 h
    unfold wp_X3_behindLast_b16 at h
    refine h (fun (x4 : Int32) (x5 : Int32) => mW p l e rm_X3_behindLast s m args below meth c 0 0 Q A (dC, dI) 6 [oM aM aMM aML aMY aMT aMR aMB aMN mk mp, aJ aML cJ 61 fML] [(0, .ref aM), (1, .int x1), (2, .int x2), (3, .int x3), (4, .int x4), (5, .int x5)] 16 []) ?_
    intro x4 x5 h
    intro H locs ls hP hD hS hl
    refine lv_iload hx hb dX3_behindLast_16 (lv_at hl 5 rfl) ?_
    refine lv_aload_n hx hb dX3_behindLast_18 rfl (lv_at hl 0 rfl) ?_
    refine va_get (D := (dC, dI)) (ci := 3) (v := .int mk) (C := RX3) (T := TX3) (N := 9) hx hb hts in_X3 hown hK hP 0 rfl rfl 0 (by decide) k_40 (fun _ h9 => h9) rfl dX3_behindLast_19 ?_
    refine lv_icmp_ge (tgt := 67) hx hb dX3_behindLast_22 (by decide) (fun q22 => ?_) (fun q22 => ?_)
    · have h := h.1 q22
      refine lv_iload hx hb dX3_behindLast_67 (lv_at hl 4 rfl) ?_
      refine lv_if_eq (tgt := 76) hx hb dX3_behindLast_69 (by decide) (fun q69 => ?_) (fun q69 => ?_)
      · have h := h.1 q69
        refine lv_iload_n hx hb dX3_behindLast_76 rfl (lv_at hl 3 rfl) ?_
        refine lv_istore_n (lv' := [(2, .int x3), (0, .ref aM), (1, .int x1), (3, .int x3), (4, .int x4), (5, .int x5)]) hx hb dX3_behindLast_77 rfl hl (by decide) rfl (fun ls hl => ?_)
        obtain ⟨v78, ev78⟩ : ∃ y : Int32, y = x3 + (1 : Int32) := ⟨_, rfl⟩
        have h := h v78 ev78
        refine lv_iinc (v := v78) (lv' := [(3, .int v78), (2, .int x3), (0, .ref aM), (1, .int x1), (4, .int x4), (5, .int x5)]) hx hb dX3_behindLast_78 hl (k := 3) rfl (by rw [ev78]; rfl) (by decide) rfl (fun ls hl => ?_)
        refine lv_goto (tgt := 4) hx hb dX3_behindLast_81 (by decide) ?_
        exact hP4 _ _ h H locs ls hP hD hS (lv_sub hl [2, 3, 1, 0] rfl)
      · have h := h.2 q69
        refine lv_iload_n hx hb dX3_behindLast_72 rfl (lv_at hl 2 rfl) ?_
        refine lv_goto (tgt := 77) hx hb dX3_behindLast_73 (by decide) ?_
        refine lv_istore_n (lv' := [(2, .int x2), (0, .ref aM), (1, .int x1), (3, .int x3), (4, .int x4), (5, .int x5)]) hx hb dX3_behindLast_77 rfl hl (by decide) rfl (fun ls hl => ?_)
        obtain ⟨v78, ev78⟩ : ∃ y : Int32, y = x3 + (1 : Int32) := ⟨_, rfl⟩
        have h := h v78 ev78
        refine lv_iinc (v := v78) (lv' := [(3, .int v78), (2, .int x2), (0, .ref aM), (1, .int x1), (4, .int x4), (5, .int x5)]) hx hb dX3_behindLast_78 hl (k := 3) rfl (by rw [ev78]; rfl) (by decide) rfl (fun ls hl => ?_)
        refine lv_goto (tgt := 4) hx hb dX3_behindLast_81 (by decide) ?_
        exact hP4 _ _ h H locs ls hP hD hS (lv_sub hl [2, 3, 1, 0] rfl)
    · have h := h.2 q22
      refine lv_iload hx hb dX3_behindLast_25 (lv_at hl 4 rfl) ?_
      refine lv_if_ne (tgt := 54) hx hb dX3_behindLast_27 (by decide) (fun q27 => ?_) (fun q27 => ?_)
      · have h := h.1 q27
        refine lv_iconst (v := 1) hx hb dX3_behindLast_54 (by decide) ?_
        refine lv_goto (tgt := 59) hx hb dX3_behindLast_55 (by decide) ?_
        refine lv_istore (lv' := [(4, .int (1 : Int32)), (0, .ref aM), (1, .int x1), (2, .int x2), (3, .int x3), (5, .int x5)]) hx hb dX3_behindLast_59 hl (by decide) rfl (fun ls hl => ?_)
        obtain ⟨v61, ev61⟩ : ∃ y : Int32, y = x5 + (1 : Int32) := ⟨_, rfl⟩
        have h := h v61 ev61
        refine lv_iinc (v := v61) (lv' := [(5, .int v61), (4, .int (1 : Int32)), (0, .ref aM), (1, .int x1), (2, .int x2), (3, .int x3)]) hx hb dX3_behindLast_61 hl (k := 5) rfl (by rw [ev61]; rfl) (by decide) rfl (fun ls hl => ?_)
        refine lv_goto (tgt := 16) hx hb dX3_behindLast_64 (by decide) ?_
        exact h H locs ls hP hD hS (lv_sub hl [2, 3, 4, 5, 1, 0] rfl)
      · have h := h.2 q27
        refine lv_iload_n hx hb dX3_behindLast_30 rfl (lv_at hl 1 rfl) ?_
        refine lv_bipush (v := -9) hx hb dX3_behindLast_31 (by decide) ?_
        refine lv_icmp_eq (tgt := 42) hx hb dX3_behindLast_33 (by decide) (fun q33 => ?_) (fun q33 => ?_)
        · have h := h.1 q33
          exact B42 _ _ _ _ _ hP4 _ (fun _ _ hq => hq) h H locs ls hP hD hS (lv_sub hl [0, 1, 2, 3, 5] rfl)
        · have h := h.2 q33
          refine lv_iload_n hx hb dX3_behindLast_36 rfl (lv_at hl 1 rfl) ?_
          refine lv_iload hx hb dX3_behindLast_37 (lv_at hl 5 rfl) ?_
          refine lv_icmp_ne (tgt := 58) hx hb dX3_behindLast_39 (by decide) (fun q39 => ?_) (fun q39 => ?_)
          · have h := h.1 q39
            refine lv_iconst (v := 0) hx hb dX3_behindLast_58 (by decide) ?_
            refine lv_istore (lv' := [(4, .int (0 : Int32)), (0, .ref aM), (1, .int x1), (2, .int x2), (3, .int x3), (5, .int x5)]) hx hb dX3_behindLast_59 hl (by decide) rfl (fun ls hl => ?_)
            obtain ⟨v61, ev61⟩ : ∃ y : Int32, y = x5 + (1 : Int32) := ⟨_, rfl⟩
            have h := h v61 ev61
            refine lv_iinc (v := v61) (lv' := [(5, .int v61), (4, .int (0 : Int32)), (0, .ref aM), (1, .int x1), (2, .int x2), (3, .int x3)]) hx hb dX3_behindLast_61 hl (k := 5) rfl (by rw [ev61]; rfl) (by decide) rfl (fun ls hl => ?_)
            refine lv_goto (tgt := 16) hx hb dX3_behindLast_64 (by decide) ?_
            exact h H locs ls hP hD hS (lv_sub hl [2, 3, 4, 5, 1, 0] rfl)
          · have h := h.2 q39
            exact B42 _ _ _ _ _ hP4 _ (fun _ _ hq => hq) h H locs ls hP hD hS (lv_sub hl [0, 1, 2, 3, 5] rfl)
  have B4 : ∀ (x1 : Int32) (x2 : Int32) (x3 : Int32), wp_X3_behindLast_b4 x1 x2 x3 mk mp fML post → mW p l e rm_X3_behindLast s m args below meth c 0 0 Q A (dC, dI) 6 [oM aM aMM aML aMY aMT aMR aMB aMN mk mp, aJ aML cJ 61 fML] [(0, .ref aM), (1, .int x1), (2, .int x2), (3, .int x3)] 4 [] := by
    intro x1 x2 x3 h
    unfold wp_X3_behindLast_b4 at h
    refine h (fun (x2 : Int32) (x3 : Int32) => mW p l e rm_X3_behindLast s m args below meth c 0 0 Q A (dC, dI) 6 [oM aM aMM aML aMY aMT aMR aMB aMN mk mp, aJ aML cJ 61 fML] [(0, .ref aM), (1, .int x1), (2, .int x2), (3, .int x3)] 4 []) ?_
    intro x2 x3 h
    intro H locs ls hP hD hS hl
    refine lv_iload_n hx hb dX3_behindLast_4 rfl (lv_at hl 3 rfl) ?_
    refine lv_bipush (v := 60) hx hb dX3_behindLast_5 (by decide) ?_
    refine lv_icmp_gt (tgt := 84) hx hb dX3_behindLast_7 (by decide) (fun q7 => ?_) (fun q7 => ?_)
    · have h := h.1 q7
      refine lv_iload_n hx hb dX3_behindLast_84 rfl (lv_at hl 2 rfl) ?_
      refine lv_iconst (v := 1) hx hb dX3_behindLast_85 (by decide) ?_
      refine lv_iadd hx hb dX3_behindLast_86 ?_
      exact ret _  H locs ls _ dX3_behindLast_87 h hP hD hS
    · have h := h.2 q7
      refine lv_iconst (v := 0) hx hb dX3_behindLast_10 (by decide) ?_
      refine lv_istore (lv' := [(4, .int (0 : Int32)), (0, .ref aM), (1, .int x1), (2, .int x2), (3, .int x3)]) hx hb dX3_behindLast_11 hl (by decide) rfl (fun ls hl => ?_)
      refine lv_iconst (v := 0) hx hb dX3_behindLast_13 (by decide) ?_
      refine lv_istore (lv' := [(5, .int (0 : Int32)), (4, .int (0 : Int32)), (0, .ref aM), (1, .int x1), (2, .int x2), (3, .int x3)]) hx hb dX3_behindLast_14 hl (by decide) rfl (fun ls hl => ?_)
      exact B16 _ _ _ _ _ _ (fun _ _ hq => hq) h H locs ls hP hD hS (lv_sub hl [2, 3, 4, 5, 1, 0] rfl)
  unfold wp_X3_behindLast at h
  intro H locs ls hP hD hS hl
  refine lv_iconst (v := -1) hx hb dX3_behindLast_0 (by decide) ?_
  refine lv_istore_n (lv' := [(2, .int (-1 : Int32)), (0, .ref aM), (1, .int x1)]) hx hb dX3_behindLast_1 rfl hl (by decide) rfl (fun ls hl => ?_)
  refine lv_iconst (v := 0) hx hb dX3_behindLast_2 (by decide) ?_
  refine lv_istore_n (lv' := [(3, .int (0 : Int32)), (2, .int (-1 : Int32)), (0, .ref aM), (1, .int x1)]) hx hb dX3_behindLast_3 rfl hl (by decide) rfl (fun ls hl => ?_)
  exact B4 _ _ _ h H locs ls hP hD hS (lv_sub hl [2, 3, 1, 0] rfl)
set_option maxHeartbeats 4000000 in
set_option maxRecDepth 100000 in
theorem c_X3_behindLast {l : Launch} {dC : Nat → ClassId} {dI : Nat → Nat → Nat} {cI cJ cZ : ClassId} {aM aMM aML aMY aMT aMR aMB aMN : Nat} {mk : Int32} {mp : Int32} {fML : (Nat → Int64)} {x1 : Int32} {post : Int32 → Prop} (h : wp_X3_behindLast x1 mk mp fML post) : ∀ sz, Met l yX3_behindLast wsX3_behindLast rm_X3_behindLast (mP (dC, dI) (mTy cI cJ cZ) [.ref aM, .int x1] [oM aM aMM aML aMY aMT aMR aMB aMN mk mp, aJ aML cJ 61 fML] sz) (va_Qi (fun (r : Int32) (u : Unit) => post r ) (mB (dC, dI) (va_A [oM aM aMM aML aMY aMT aMR aMB aMN mk mp, aJ aML cJ 61 fML] sz) (fun u => [oM aM aMM aML aMY aMT aMR aMB aMN mk mp, aJ aML cJ 61 fML])) (va_A [oM aM aMM aML aMY aMT aMR aMB aMN mk mp, aJ aML cJ 61 fML] sz)) 0 0 (va_A [oM aM aMM aML aMY aMT aMR aMB aMN mk mp, aJ aML cJ 61 fML] sz) := by
  intro sz
  refine Met.ofW (cc := cX3_behindLast) (maxL := 6) (ret := (some .int)) (by decide) rfl ?_
  intro p e s m args below meth c s₁ B hml hv
  obtain ⟨rfl, hsz, hP, hK, hD0⟩ := hv
  have hlocks := B.notSynchronized
  subst hsz
  have hD := hD0.self (sz := s.heap.size)
  have hl := lv_entry ([.ref aM, .int x1]) (n := 6) (Nat.le_of_ble_eq_true rfl)
  rw [lg_entry_eq]
  exact k_X3_behindLast B.exec B.bytes hml (findClass_of_methodNamed B.named) (atoms_spec (ws := wsX3_behindLast) B.pre) hK (fun q hq => Or.inr hq) (fun r H locs ls pc hd hp hP hD hS => W.iret B.exec B.bytes B.returns (fun t ht hW => ⟨⟨r, (), rfl, hp, by rw [ht]; exact hP, hD⟩, hS.F ht⟩) hS.2.2 hd) h s.heap [] _ hP hD va_S.rf hl
