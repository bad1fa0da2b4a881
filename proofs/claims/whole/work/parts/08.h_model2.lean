def wp_X3_sure_b8 (x1 : Int32) (x2 : Int32) (mk : Int32) (mp : Int32) (fMM : (Nat → Int32)) (fML : (Nat → Int64)) (post : Int32 → (Nat → Int64) → Prop)  : Prop := ∀ P8 : Int32 → Int32 → Prop, (∀ (x1 : Int32) (x2 : Int32), ((mk ≤ x2 → wp_X3_behindLast (-9 : Int32) mk mp fML (fun (r44 : Int32) => ((¬ x1 = (0 : Int32) → (((1 : Int32) ≤ r44 → post r44 fML) ∧ (¬ (1 : Int32) ≤ r44 → post (1 : Int32) fML))) ∧ (x1 = (0 : Int32) → post (-9 : Int32) fML)))) ∧ (¬ mk ≤ x2 → ((¬ x1 = (0 : Int32) → (∀ v35 : Int32, v35 = x2 + (1 : Int32) → P8 (1 : Int32) v35)) ∧ (x1 = (0 : Int32) → wp_X3_paceOf x2 mk mp fML (fun (r22 : Int32) => ((¬ r22 = (1 : Int32) → (∀ v35 : Int32, v35 = x2 + (1 : Int32) → P8 (0 : Int32) v35)) ∧ (r22 = (1 : Int32) → (∀ v35 : Int32, v35 = x2 + (1 : Int32) → P8 (1 : Int32) v35)))))))) → P8 x1 x2) → P8 x1 x2
def wp_X3_sure  (mk : Int32) (mp : Int32) (fMM : (Nat → Int32)) (fML : (Nat → Int64)) (post : Int32 → (Nat → Int64) → Prop) : Prop := wp_X3_layLeads mk mp fMM fML (fun (fML_1 : (Nat → Int64)) => wp_X3_sure_b8 (0 : Int32) (0 : Int32) mk mp fMM fML_1 post)
abbrev rm_X3_sure : Room := { frames := 2, cells := 0, slots := 0, locals := 48 }
theorem hv_X3_sure : yX3_sure.cls = RX3 ∧ yX3_sure.cls ≠ "java/lang/invoke/MethodHandle" ∧ yX3_sure.cls ≠ "java/lang/invoke/VarHandle" ∧ (parseMethodDescriptor yX3_sure.desc).map (fun d => d.parameters.length) = some 0 := by decide +kernel
set_option maxHeartbeats 4000000 in
set_option maxRecDepth 100000 in
theorem k_X3_sure {p : Program} {l : Launch} {e : Env} {s : State} {m : MethodId} {args : Array Value} {below : List Frame} {meth : Method} {c : Code} {Q : State → Prop} {A : Nat → Prop} {dC : Nat → ClassId} {dI : Nat → Nat → Nat} {cI cJ cZ : ClassId} (hx : p.tables.exec = Jvm.exec) (hb : c.code = cX3_sure) (hml : c.maxLocals = 3) (hown : s.vm.findClass RX3 = some m.cls) (hts : ∀ w ∈ wsX3_sure, w.before args s = true) (hK : va_K (dC, dI) vwCl (mTy cI cJ cZ) s) (hA : ∀ q, s.heap.size ≤ q → A q) {aM aMM aML aMY aMT aMR aMB aMN : Nat} {mk : Int32} {mp : Int32} {fMM : (Nat → Int32)} {fML : (Nat → Int64)}  {post : Int32 → (Nat → Int64) → Prop} (ret : ∀ (r : Int32) (fML' : (Nat → Int64)) (H : Heap) (locs : List Loc) (ls : Array Slot) (pc : Nat), decode cX3_sure pc = .ok (.ireturn, 1) → post r fML' → va_P (dC, dI) vwCl [oM aM aMM aML aMY aMT aMR aMB aMN mk mp, aI aMM cZ 36 fMM, aJ aML cJ 61 fML'] H → va_D A [oM aM aMM aML aMY aMT aMR aMB aMN mk mp, aI aMM cZ 36 fMM, aJ aML cJ 61 fML'] → va_S A s.heap H locs → W p l e rm_X3_sure s m args below meth c H locs 0 0 Q (F0 m pc ls [.int r])) (h : wp_X3_sure  mk mp fMM fML post) : mW p l e rm_X3_sure s m args below meth c 0 0 Q A (dC, dI) 3 [oM aM aMM aML aMY aMT aMR aMB aMN mk mp, aI aMM cZ 36 fMM, aJ aML cJ 61 fML] [(0, .ref aM)] 0 [] := by
  have in_X3 : ∀ w ∈ wsX30, w ∈ wsX3_sure := fun w hw => List.mem_cons_of_mem _ (List.mem_append_right _ hw)
  have k_40 := hts (.fieldLink RX3 40 "RingTasksModel" "labels" "I") (List.mem_of_getElem? (i := 1) rfl)
  have B8 : ∀ (x1 : Int32) (x2 : Int32) (fML : (Nat → Int64)), wp_X3_sure_b8 x1 x2 mk mp fMM fML post → mW p l e rm_X3_sure s m args below meth c 0 0 Q A (dC, dI) 3 [oM aM aMM aML aMY aMT aMR aMB aMN mk mp, aI aMM cZ 36 fMM, aJ aML cJ 61 fML] [(0, .ref aM), (1, .int x1), (2, .int x2)] 8 [] := by
    intro x1 x2 fML h
    unfold wp_X3_sure_b8 at h
    refine h (fun (x1 : Int32) (x2 : Int32) => mW p l e rm_X3_sure s m args below meth c 0 0 Q A (dC, dI) 3 [oM aM aMM aML aMY aMT aMR aMB aMN mk mp, aI aMM cZ 36 fMM, aJ aML cJ 61 fML] [(0, .ref aM), (1, .int x1), (2, .int x2)] 8 []) ?_
    intro x1 x2 h
    intro H locs ls hP hD hS hl
    refine lv_iload_n hx hb dX3_sure_8 rfl (lv_at hl 2 rfl) ?_
    refine lv_aload_n hx hb dX3_sure_9 rfl (lv_at hl 0 rfl) ?_
    refine va_get (D := (dC, dI)) (ci := 3) (v := .int mk) (C := RX3) (T := TX3) (N := 9) hx hb hts in_X3 hown hK hP 0 rfl rfl 0 (by decide) k_40 (fun _ h9 => h9) rfl dX3_sure_10 ?_
    refine lv_icmp_ge (tgt := 41) hx hb dX3_sure_13 (by decide) (fun q13 => ?_) (fun q13 => ?_)
    · have h := h.1 q13
      refine lv_aload_n hx hb dX3_sure_41 rfl (lv_at hl 0 rfl) ?_
      refine lv_bipush (v := -9) hx hb dX3_sure_42 (by decide) ?_
      refine mVi (wr := [aI aMM cZ 36 fMM]) (As := [.int (-9 : Int32)]) (rest := []) ⟨hx, hb, hml, hown, hts⟩ (c_X3_behindLast (l := l) (dC := dC) (dI := dI) (cI := cI) (cJ := cJ) (cZ := cZ) (aM := aM) (aMM := aMM) (aML := aML) (aMY := aMY) (aMT := aMT) (aMR := aMR) (aMB := aMB) (aMN := aMN) h) (cwV 1 hts gX3_sure_X3_behindLast rfl rfl rfl hv_X3_behindLast ⟨Nat.le_of_ble_eq_true rfl, Nat.le_of_ble_eq_true rfl⟩) hK hP hD hS hA [0, 2] [1] rfl rfl rfl rfl (by decide) 3 rfl rfl rfl rfl hl.1 rfl (Nat.le_of_ble_eq_true rfl) ⟨Nat.zero_le _, Nat.zero_le _⟩ dX3_sure_44 (fun r44 u44 H locs h hP hD hS => ?_)
      have hP : va_P (dC, dI) vwCl [oM aM aMM aML aMY aMT aMR aMB aMN mk mp, aI aMM cZ 36 fMM, aJ aML cJ 61 fML] H := hP.sub [1, 0, 2] rfl
      have hD : va_D A [oM aM aMM aML aMY aMT aMR aMB aMN mk mp, aI aMM cZ 36 fMM, aJ aML cJ 61 fML] := hD.sub [1, 0, 2] rfl rfl
      refine lv_istore_n (lv' := [(2, .int r44), (0, .ref aM), (1, .int x1)]) hx hb dX3_sure_47 rfl hl (by decide) rfl (fun ls hl => ?_)
      refine lv_iload_n hx hb dX3_sure_48 rfl (lv_at hl 2 rfl) ?_
      refine lv_if_ne (tgt := 57) hx hb dX3_sure_49 (by decide) (fun q49 => ?_) (fun q49 => ?_)
      · have h := h.1 q49
        refine lv_iload_n hx hb dX3_sure_57 rfl (lv_at hl 0 rfl) ?_
        refine lv_iconst (v := 1) hx hb dX3_sure_58 (by decide) ?_
        refine lv_icmp_ge (tgt := 66) hx hb dX3_sure_59 (by decide) (fun q59 => ?_) (fun q59 => ?_)
        · have h := h.1 q59
          refine lv_iload_n hx hb dX3_sure_66 rfl (lv_at hl 0 rfl) ?_
          exact ret _ _ H locs ls _ dX3_sure_67 h hP hD hS
        · have h := h.2 q59
          refine lv_iconst (v := 1) hx hb dX3_sure_62 (by decide) ?_
          refine lv_goto (tgt := 67) hx hb dX3_sure_63 (by decide) ?_
          exact ret _ _ H locs ls _ dX3_sure_67 h hP hD hS
      · have h := h.2 q49
        refine lv_bipush (v := -9) hx hb dX3_sure_52 (by decide) ?_
        refine lv_goto (tgt := 67) hx hb dX3_sure_54 (by decide) ?_
        exact ret _ _ H locs ls _ dX3_sure_67 h hP hD hS
    · have h := h.2 q13
      refine lv_iload_n hx hb dX3_sure_16 rfl (lv_at hl 1 rfl) ?_
      refine lv_if_ne (tgt := 29) hx hb dX3_sure_17 (by decide) (fun q17 => ?_) (fun q17 => ?_)
      · have h := h.1 q17
        refine lv_iconst (v := 1) hx hb dX3_sure_29 (by decide) ?_
        refine lv_goto (tgt := 34) hx hb dX3_sure_30 (by decide) ?_
        refine lv_istore_n (lv' := [(1, .int (1 : Int32)), (0, .ref aM), (2, .int x2)]) hx hb dX3_sure_34 rfl hl (by decide) rfl (fun ls hl => ?_)
        obtain ⟨v35, ev35⟩ : ∃ y : Int32, y = x2 + (1 : Int32) := ⟨_, rfl⟩
        have h := h v35 ev35
        refine lv_iinc (v := v35) (lv' := [(2, .int v35), (1, .int (1 : Int32)), (0, .ref aM)]) hx hb dX3_sure_35 hl (k := 2) rfl (by rw [ev35]; rfl) (by decide) rfl (fun ls hl => ?_)
        refine lv_goto (tgt := 8) hx hb dX3_sure_38 (by decide) ?_
        exact h H locs ls hP hD hS (lv_sub hl [2, 1, 0] rfl)
      · have h := h.2 q17
        refine lv_aload_n hx hb dX3_sure_20 rfl (lv_at hl 0 rfl) ?_
        refine lv_iload_n hx hb dX3_sure_21 rfl (lv_at hl 2 rfl) ?_
        refine mVi (wr := [aI aMM cZ 36 fMM]) (As := [.int x2]) (rest := []) ⟨hx, hb, hml, hown, hts⟩ (c_X3_paceOf (l := l) (dC := dC) (dI := dI) (cI := cI) (cJ := cJ) (cZ := cZ) (aM := aM) (aMM := aMM) (aML := aML) (aMY := aMY) (aMT := aMT) (aMR := aMR) (aMB := aMB) (aMN := aMN) h) (cwV 1 hts gX3_sure_X3_paceOf rfl rfl rfl hv_X3_paceOf ⟨Nat.le_of_ble_eq_true rfl, Nat.le_of_ble_eq_true rfl⟩) hK hP hD hS hA [0, 2] [1] rfl rfl rfl rfl (by decide) 3 rfl rfl rfl rfl hl.1 rfl (Nat.le_of_ble_eq_true rfl) ⟨Nat.zero_le _, Nat.zero_le _⟩ dX3_sure_22 (fun r22 u22 H locs h hP hD hS => ?_)
        have hP : va_P (dC, dI) vwCl [oM aM aMM aML aMY aMT aMR aMB aMN mk mp, aI aMM cZ 36 fMM, aJ aML cJ 61 fML] H := hP.sub [1, 0, 2] rfl
        have hD : va_D A [oM aM aMM aML aMY aMT aMR aMB aMN mk mp, aI aMM cZ 36 fMM, aJ aML cJ 61 fML] := hD.sub [1, 0, 2] rfl rfl
        refine lv_iconst (v := 1) hx hb dX3_sure_25 (by decide) ?_
        refine lv_icmp_ne (tgt := 33) hx hb dX3_sure_26 (by decide) (fun q26 => ?_) (fun q26 => ?_)
        · have h := h.1 q26
          refine lv_iconst (v := 0) hx hb dX3_sure_33 (by decide) ?_
          refine lv_istore_n (lv' := [(1, .int (0 : Int32)), (0, .ref aM), (2, .int x2)]) hx hb dX3_sure_34 rfl hl (by decide) rfl (fun ls hl => ?_)
          obtain ⟨v35, ev35⟩ : ∃ y : Int32, y = x2 + (1 : Int32) := ⟨_, rfl⟩
          have h := h v35 ev35
          refine lv_iinc (v := v35) (lv' := [(2, .int v35), (1, .int (0 : Int32)), (0, .ref aM)]) hx hb dX3_sure_35 hl (k := 2) rfl (by rw [ev35]; rfl) (by decide) rfl (fun ls hl => ?_)
          refine lv_goto (tgt := 8) hx hb dX3_sure_38 (by decide) ?_
          exact h H locs ls hP hD hS (lv_sub hl [2, 1, 0] rfl)
        · have h := h.2 q26
          refine lv_iconst (v := 1) hx hb dX3_sure_29 (by decide) ?_
          refine lv_goto (tgt := 34) hx hb dX3_sure_30 (by decide) ?_
          refine lv_istore_n (lv' := [(1, .int (1 : Int32)), (0, .ref aM), (2, .int x2)]) hx hb dX3_sure_34 rfl hl (by decide) rfl (fun ls hl => ?_)
          obtain ⟨v35, ev35⟩ : ∃ y : Int32, y = x2 + (1 : Int32) := ⟨_, rfl⟩
          have h := h v35 ev35
          refine lv_iinc (v := v35) (lv' := [(2, .int v35), (1, .int (1 : Int32)), (0, .ref aM)]) hx hb dX3_sure_35 hl (k := 2) rfl (by rw [ev35]; rfl) (by decide) rfl (fun ls hl => ?_)
          refine lv_goto (tgt := 8) hx hb dX3_sure_38 (by decide) ?_
          exact h H locs ls hP hD hS (lv_sub hl [2, 1, 0] rfl)
  unfold wp_X3_sure at h
  intro H locs ls hP hD hS hl
  refine lv_aload_n hx hb dX3_sure_0 rfl (lv_at hl 0 rfl) ?_
  refine mVv (wr := []) (As := []) (rest := []) ⟨hx, hb, hml, hown, hts⟩ (c_X3_layLeads (l := l) (dC := dC) (dI := dI) (cI := cI) (cJ := cJ) (cZ := cZ) (aM := aM) (aMM := aMM) (aML := aML) (aMY := aMY) (aMT := aMT) (aMR := aMR) (aMB := aMB) (aMN := aMN) h) (cwV 0 hts gX3_sure_X3_layLeads rfl rfl rfl hv_X3_layLeads ⟨Nat.le_of_ble_eq_true rfl, Nat.le_of_ble_eq_true rfl⟩) hK hP hD hS hA [0, 1, 2] [] rfl rfl rfl rfl (by decide) 3 rfl rfl rfl rfl hl.1 rfl (Nat.le_of_ble_eq_true rfl) ⟨Nat.zero_le _, Nat.zero_le _⟩ dX3_sure_1 (fun fML_1 H locs h hP hD hS => ?_)
  have hP : va_P (dC, dI) vwCl [oM aM aMM aML aMY aMT aMR aMB aMN mk mp, aI aMM cZ 36 fMM, aJ aML cJ 61 fML_1] H := hP.sub [0, 1, 2] rfl
  have hD : va_D A [oM aM aMM aML aMY aMT aMR aMB aMN mk mp, aI aMM cZ 36 fMM, aJ aML cJ 61 fML_1] := hD.sub [0, 1, 2] rfl rfl
  refine lv_iconst (v := 0) hx hb dX3_sure_4 (by decide) ?_
  refine lv_istore_n (lv' := [(1, .int (0 : Int32)), (0, .ref aM)]) hx hb dX3_sure_5 rfl hl (by decide) rfl (fun ls hl => ?_)
  refine lv_iconst (v := 0) hx hb dX3_sure_6 (by decide) ?_
  refine lv_istore_n (lv' := [(2, .int (0 : Int32)), (1, .int (0 : Int32)), (0, .ref aM)]) hx hb dX3_sure_7 rfl hl (by decide) rfl (fun ls hl => ?_)
  exact B8 _ _ _ h H locs ls hP hD hS (lv_sub hl [2, 1, 0] rfl)
set_option maxHeartbeats 4000000 in
set_option maxRecDepth 100000 in
theorem c_X3_sure {l : Launch} {dC : Nat → ClassId} {dI : Nat → Nat → Nat} {cI cJ cZ : ClassId} {aM aMM aML aMY aMT aMR aMB aMN : Nat} {mk : Int32} {mp : Int32} {fMM : (Nat → Int32)} {fML : (Nat → Int64)}  {post : Int32 → (Nat → Int64) → Prop} (h : wp_X3_sure  mk mp fMM fML post) : ∀ sz, Met l yX3_sure wsX3_sure rm_X3_sure (mP (dC, dI) (mTy cI cJ cZ) [.ref aM] [oM aM aMM aML aMY aMT aMR aMB aMN mk mp, aI aMM cZ 36 fMM, aJ aML cJ 61 fML] sz) (va_Qi (fun (r : Int32) (u : (Nat → Int64)) => post r u) (mB (dC, dI) (va_A [oM aM aMM aML aMY aMT aMR aMB aMN mk mp, aI aMM cZ 36 fMM, aJ aML cJ 61 fML] sz) (fun u => [oM aM aMM aML aMY aMT aMR aMB aMN mk mp, aI aMM cZ 36 fMM, aJ aML cJ 61 u])) (va_A [oM aM aMM aML aMY aMT aMR aMB aMN mk mp, aI aMM cZ 36 fMM, aJ aML cJ 61 fML] sz)) 0 0 (va_A [oM aM aMM aML aMY aMT aMR aMB aMN mk mp, aI aMM cZ 36 fMM, aJ aML cJ 61 fML] sz) := by
  intro sz
  refine Met.ofW (cc := cX3_sure) (maxL := 3) (ret := (some .int)) (by decide) rfl ?_
  intro p e s m args below meth c s₁ B hml hv
  obtain ⟨rfl, hsz, hP, hK, hD0⟩ := hv
  have hlocks := B.notSynchronized
  subst hsz
  have hD := hD0.self (sz := s.heap.size)
  have hl := lv_entry ([.ref aM]) (n := 3) (Nat.le_of_ble_eq_true rfl)
  rw [lg_entry_eq]
  exact k_X3_sure B.exec B.bytes hml (findClass_of_methodNamed B.named) (atoms_spec (ws := wsX3_sure) B.pre) hK (fun q hq => Or.inr hq) (fun r fML' H locs ls pc hd hp hP hD hS => W.iret B.exec B.bytes B.returns (fun t ht hW => ⟨⟨r, fML', rfl, hp, by rw [ht]; exact hP, hD⟩, hS.F ht⟩) hS.2.2 hd) h s.heap [] _ hP hD va_S.rf hl

def wp_X3_free (x1 : Int32) (mk : Int32) (mp : Int32) (fMM : (Nat → Int32)) (fML : (Nat → Int64)) (post : Int32 → (Nat → Int64) → Prop) : Prop := wp_X3_isLabel x1 mk mp (fun (r2 : Int32) => ((¬ r2 = (0 : Int32) → wp_X3_layLeads mk mp fMM fML (fun (fML_11 : (Nat → Int64)) => wp_X3_paceOf x1 mk mp fML_11 (fun (r16 : Int32) => ((¬ r16 = (1 : Int32) → post (-9 : Int32) fML_11) ∧ (r16 = (1 : Int32) → wp_X3_behindLast x1 mk mp fML_11 (fun (r25 : Int32) => post r25 fML_11)))))) ∧ (r2 = (0 : Int32) → post (-1 : Int32) fML)))
abbrev rm_X3_free : Room := { frames := 2, cells := 0, slots := 0, locals := 48 }
theorem hv_X3_free : yX3_free.cls = RX3 ∧ yX3_free.cls ≠ "java/lang/invoke/MethodHandle" ∧ yX3_free.cls ≠ "java/lang/invoke/VarHandle" ∧ (parseMethodDescriptor yX3_free.desc).map (fun d => d.parameters.length) = some 1 := by decide +kernel
set_option maxHeartbeats 4000000 in
set_option maxRecDepth 100000 in
theorem k_X3_free {p : Program} {l : Launch} {e : Env} {s : State} {m : MethodId} {args : Array Value} {below : List Frame} {meth : Method} {c : Code} {Q : State → Prop} {A : Nat → Prop} {dC : Nat → ClassId} {dI : Nat → Nat → Nat} {cI cJ cZ : ClassId} (hx : p.tables.exec = Jvm.exec) (hb : c.code = cX3_free) (hml : c.maxLocals = 2) (hown : s.vm.findClass RX3 = some m.cls) (hts : ∀ w ∈ wsX3_free, w.before args s = true) (hK : va_K (dC, dI) vwCl (mTy cI cJ cZ) s) (hA : ∀ q, s.heap.size ≤ q → A q) {aM aMM aML aMY aMT aMR aMB aMN : Nat} {mk : Int32} {mp : Int32} {fMM : (Nat → Int32)} {fML : (Nat → Int64)} {x1 : Int32} {post : Int32 → (Nat → Int64) → Prop} (ret : ∀ (r : Int32) (fML' : (Nat → Int64)) (H : Heap) (locs : List Loc) (ls : Array Slot) (pc : Nat), decode cX3_free pc = .ok (.ireturn, 1) → post r fML' → va_P (dC, dI) vwCl [oM aM aMM aML aMY aMT aMR aMB aMN mk mp, aI aMM cZ 36 fMM, aJ aML cJ 61 fML'] H → va_D A [oM aM aMM aML aMY aMT aMR aMB aMN mk mp, aI aMM cZ 36 fMM, aJ aML cJ 61 fML'] → va_S A s.heap H locs → W p l e rm_X3_free s m args below meth c H locs 0 0 Q (F0 m pc ls [.int r])) (h : wp_X3_free x1 mk mp fMM fML post) : mW p l e rm_X3_free s m args below meth c 0 0 Q A (dC, dI) 2 [oM aM aMM aML aMY aMT aMR aMB aMN mk mp, aI aMM cZ 36 fMM, aJ aML cJ 61 fML] [(0, .ref aM), (1, .int x1)] 0 [] := by
  unfold wp_X3_free at h
  intro H locs ls hP hD hS hl
  refine lv_aload_n hx hb dX3_free_0 rfl (lv_at hl 0 rfl) ?_
  refine lv_iload_n hx hb dX3_free_1 rfl (lv_at hl 1 rfl) ?_
  refine mVi (wr := [aI aMM cZ 36 fMM, aJ aML cJ 61 fML]) (As := [.int x1]) (rest := []) ⟨hx, hb, hml, hown, hts⟩ (c_X3_isLabel (l := l) (dC := dC) (dI := dI) (cI := cI) (cJ := cJ) (cZ := cZ) (aM := aM) (aMM := aMM) (aML := aML) (aMY := aMY) (aMT := aMT) (aMR := aMR) (aMB := aMB) (aMN := aMN) h) (cwV 1 hts gX3_free_X3_isLabel rfl rfl rfl hv_X3_isLabel ⟨Nat.le_of_ble_eq_true rfl, Nat.le_of_ble_eq_true rfl⟩) hK hP hD hS hA [0] [1, 2] rfl rfl rfl rfl (by decide) 3 rfl rfl rfl rfl hl.1 rfl (Nat.le_of_ble_eq_true rfl) ⟨Nat.zero_le _, Nat.zero_le _⟩ dX3_free_2 (fun r2 u2 H locs h hP hD hS => ?_)
  have hP : va_P (dC, dI) vwCl [oM aM aMM aML aMY aMT aMR aMB aMN mk mp, aI aMM cZ 36 fMM, aJ aML cJ 61 fML] H := hP.sub [2, 0, 1] rfl
  have hD : va_D A [oM aM aMM aML aMY aMT aMR aMB aMN mk mp, aI aMM cZ 36 fMM, aJ aML cJ 61 fML] := hD.sub [2, 0, 1] rfl rfl
  refine lv_if_ne (tgt := 10) hx hb dX3_free_5 (by decide) (fun q5 => ?_) (fun q5 => ?_)
  · have h := h.1 q5
    refine lv_aload_n hx hb dX3_free_10 rfl (lv_at hl 0 rfl) ?_
    refine mVv (wr := []) (As := []) (rest := []) ⟨hx, hb, hml, hown, hts⟩ (c_X3_layLeads (l := l) (dC := dC) (dI := dI) (cI := cI) (cJ := cJ) (cZ := cZ) (aM := aM) (aMM := aMM) (aML := aML) (aMY := aMY) (aMT := aMT) (aMR := aMR) (aMB := aMB) (aMN := aMN) h) (cwV 0 hts gX3_free_X3_layLeads rfl rfl rfl hv_X3_layLeads ⟨Nat.le_of_ble_eq_true rfl, Nat.le_of_ble_eq_true rfl⟩) hK hP hD hS hA [0, 1, 2] [] rfl rfl rfl rfl (by decide) 3 rfl rfl rfl rfl hl.1 rfl (Nat.le_of_ble_eq_true rfl) ⟨Nat.zero_le _, Nat.zero_le _⟩ dX3_free_11 (fun fML_11 H locs h hP hD hS => ?_)
    have hP : va_P (dC, dI) vwCl [oM aM aMM aML aMY aMT aMR aMB aMN mk mp, aI aMM cZ 36 fMM, aJ aML cJ 61 fML_11] H := hP.sub [0, 1, 2] rfl
    have hD : va_D A [oM aM aMM aML aMY aMT aMR aMB aMN mk mp, aI aMM cZ 36 fMM, aJ aML cJ 61 fML_11] := hD.sub [0, 1, 2] rfl rfl
    refine lv_aload_n hx hb dX3_free_14 rfl (lv_at hl 0 rfl) ?_
    refine lv_iload_n hx hb dX3_free_15 rfl (lv_at hl 1 rfl) ?_
    refine mVi (wr := [aI aMM cZ 36 fMM]) (As := [.int x1]) (rest := []) ⟨hx, hb, hml, hown, hts⟩ (c_X3_paceOf (l := l) (dC := dC) (dI := dI) (cI := cI) (cJ := cJ) (cZ := cZ) (aM := aM) (aMM := aMM) (aML := aML) (aMY := aMY) (aMT := aMT) (aMR := aMR) (aMB := aMB) (aMN := aMN) h) (cwV 1 hts gX3_free_X3_paceOf rfl rfl rfl hv_X3_paceOf ⟨Nat.le_of_ble_eq_true rfl, Nat.le_of_ble_eq_true rfl⟩) hK hP hD hS hA [0, 2] [1] rfl rfl rfl rfl (by decide) 3 rfl rfl rfl rfl hl.1 rfl (Nat.le_of_ble_eq_true rfl) ⟨Nat.zero_le _, Nat.zero_le _⟩ dX3_free_16 (fun r16 u16 H locs h hP hD hS => ?_)
    have hP : va_P (dC, dI) vwCl [oM aM aMM aML aMY aMT aMR aMB aMN mk mp, aI aMM cZ 36 fMM, aJ aML cJ 61 fML_11] H := hP.sub [1, 0, 2] rfl
    have hD : va_D A [oM aM aMM aML aMY aMT aMR aMB aMN mk mp, aI aMM cZ 36 fMM, aJ aML cJ 61 fML_11] := hD.sub [1, 0, 2] rfl rfl
    refine lv_iconst (v := 1) hx hb dX3_free_19 (by decide) ?_
    refine lv_icmp_ne (tgt := 31) hx hb dX3_free_20 (by decide) (fun q20 => ?_) (fun q20 => ?_)
    · have h := h.1 q20
      refine lv_bipush (v := -9) hx hb dX3_free_31 (by decide) ?_
      exact ret _ _ H locs ls _ dX3_free_33 h hP hD hS
    · have h := h.2 q20
      refine lv_aload_n hx hb dX3_free_23 rfl (lv_at hl 0 rfl) ?_
      refine lv_iload_n hx hb dX3_free_24 rfl (lv_at hl 1 rfl) ?_
      refine mVi (wr := [aI aMM cZ 36 fMM]) (As := [.int x1]) (rest := []) ⟨hx, hb, hml, hown, hts⟩ (c_X3_behindLast (l := l) (dC := dC) (dI := dI) (cI := cI) (cJ := cJ) (cZ := cZ) (aM := aM) (aMM := aMM) (aML := aML) (aMY := aMY) (aMT := aMT) (aMR := aMR) (aMB := aMB) (aMN := aMN) h) (cwV 1 hts gX3_free_X3_behindLast rfl rfl rfl hv_X3_behindLast ⟨Nat.le_of_ble_eq_true rfl, Nat.le_of_ble_eq_true rfl⟩) hK hP hD hS hA [0, 2] [1] rfl rfl rfl rfl (by decide) 3 rfl rfl rfl rfl hl.1 rfl (Nat.le_of_ble_eq_true rfl) ⟨Nat.zero_le _, Nat.zero_le _⟩ dX3_free_25 (fun r25 u25 H locs h hP hD hS => ?_)
      have hP : va_P (dC, dI) vwCl [oM aM aMM aML aMY aMT aMR aMB aMN mk mp, aI aMM cZ 36 fMM, aJ aML cJ 61 fML_11] H := hP.sub [1, 0, 2] rfl
      have hD : va_D A [oM aM aMM aML aMY aMT aMR aMB aMN mk mp, aI aMM cZ 36 fMM, aJ aML cJ 61 fML_11] := hD.sub [1, 0, 2] rfl rfl
      refine lv_goto (tgt := 33) hx hb dX3_free_28 (by decide) ?_
      exact ret _ _ H locs ls _ dX3_free_33 h hP hD hS
  · have h := h.2 q5
    refine lv_iconst (v := -1) hx hb dX3_free_8 (by decide) ?_
    exact ret _ _ H locs ls _ dX3_free_9 h hP hD hS
set_option maxHeartbeats 4000000 in
set_option maxRecDepth 100000 in
theorem c_X3_free {l : Launch} {dC : Nat → ClassId} {dI : Nat → Nat → Nat} {cI cJ cZ : ClassId} {aM aMM aML aMY aMT aMR aMB aMN : Nat} {mk : Int32} {mp : Int32} {fMM : (Nat → Int32)} {fML : (Nat → Int64)} {x1 : Int32} {post : Int32 → (Nat → Int64) → Prop} (h : wp_X3_free x1 mk mp fMM fML post) : ∀ sz, Met l yX3_free wsX3_free rm_X3_free (mP (dC, dI) (mTy cI cJ cZ) [.ref aM, .int x1] [oM aM aMM aML aMY aMT aMR aMB aMN mk mp, aI aMM cZ 36 fMM, aJ aML cJ 61 fML] sz) (va_Qi (fun (r : Int32) (u : (Nat → Int64)) => post r u) (mB (dC, dI) (va_A [oM aM aMM aML aMY aMT aMR aMB aMN mk mp, aI aMM cZ 36 fMM, aJ aML cJ 61 fML] sz) (fun u => [oM aM aMM aML aMY aMT aMR aMB aMN mk mp, aI aMM cZ 36 fMM, aJ aML cJ 61 u])) (va_A [oM aM aMM aML aMY aMT aMR aMB aMN mk mp, aI aMM cZ 36 fMM, aJ aML cJ 61 fML] sz)) 0 0 (va_A [oM aM aMM aML aMY aMT aMR aMB aMN mk mp, aI aMM cZ 36 fMM, aJ aML cJ 61 fML] sz) := by
  intro sz
  refine Met.ofW (cc := cX3_free) (maxL := 2) (ret := (some .int)) (by decide) rfl ?_
  intro p e s m args below meth c s₁ B hml hv
  obtain ⟨rfl, hsz, hP, hK, hD0⟩ := hv
  have hlocks := B.notSynchronized
  subst hsz
  have hD := hD0.self (sz := s.heap.size)
  have hl := lv_entry ([.ref aM, .int x1]) (n := 2) (Nat.le_of_ble_eq_true rfl)
  rw [lg_entry_eq]
  exact k_X3_free B.exec B.bytes hml (findClass_of_methodNamed B.named) (atoms_spec (ws := wsX3_free) B.pre) hK (fun q hq => Or.inr hq) (fun r fML' H locs ls pc hd hp hP hD hS => W.iret B.exec B.bytes B.returns (fun t ht hW => ⟨⟨r, fML', rfl, hp, by rw [ht]; exact hP, hD⟩, hS.F ht⟩) hS.2.2 hd) h s.heap [] _ hP hD va_S.rf hl

def wp_X3_mirrors_b8 (x1 : Int32) (x2 : Int32) (mk : Int32) (mp : Int32) (fMM : (Nat → Int32)) (fML : (Nat → Int64)) (post : Int32 → (Nat → Int64) → Prop)  : Prop := ∀ P8 : Int32 → Int32 → Prop, (∀ (x1 : Int32) (x2 : Int32), (((36 : Int32) ≤ x2 → ((x1 = (0 : Int32) → post (0 : Int32) fML) ∧ (¬ x1 = (0 : Int32) → post (1 : Int32) fML))) ∧ (¬ (36 : Int32) ≤ x2 → (¬ (6 : Int32) = (0 : Int32) ∧ (∀ v18 : Int32, v18 = (x2 / (6 : Int32)) → (¬ (6 : Int32) = (0 : Int32) ∧ (∀ v23 : Int32, v23 = (x2 - x2 / (6 : Int32) * (6 : Int32)) → ((x1 = (0 : Int32) → (∀ v83 : Int32, v83 = x2 + (1 : Int32) → P8 (0 : Int32) v83)) ∧ (¬ x1 = (0 : Int32) → ((mk ≤ v18 → (∀ v83 : Int32, v83 = x2 + (1 : Int32) → P8 (1 : Int32) v83)) ∧ (¬ mk ≤ v18 → ((mk ≤ v23 → (∀ v83 : Int32, v83 = x2 + (1 : Int32) → P8 (1 : Int32) v83)) ∧ (¬ mk ≤ v23 → wp_X3_isOneBlock v18 v23 mk mp fML (fun (r50 : Int32) => ((r50 = (0 : Int32) → (∀ v83 : Int32, v83 = x2 + (1 : Int32) → P8 (1 : Int32) v83)) ∧ (¬ r50 = (0 : Int32) → (vp_in x2 36 ∧ (vp_in (((6 : Int32) * v23) + v18) 36 ∧ ((¬ (fMM x2.toNatClampNeg) = (fMM (((6 : Int32) * v23) + v18).toNatClampNeg) → (∀ v83 : Int32, v83 = x2 + (1 : Int32) → P8 (0 : Int32) v83)) ∧ ((fMM x2.toNatClampNeg) = (fMM (((6 : Int32) * v23) + v18).toNatClampNeg) → (∀ v83 : Int32, v83 = x2 + (1 : Int32) → P8 (1 : Int32) v83)))))))))))))))))))) → P8 x1 x2) → P8 x1 x2
def wp_X3_mirrors  (mk : Int32) (mp : Int32) (fMM : (Nat → Int32)) (fML : (Nat → Int64)) (post : Int32 → (Nat → Int64) → Prop) : Prop := wp_X3_layLeads mk mp fMM fML (fun (fML_1 : (Nat → Int64)) => wp_X3_mirrors_b8 (1 : Int32) (0 : Int32) mk mp fMM fML_1 post)
abbrev rm_X3_mirrors : Room := { frames := 2, cells := 0, slots := 0, locals := 48 }
theorem hv_X3_mirrors : yX3_mirrors.cls = RX3 ∧ yX3_mirrors.cls ≠ "java/lang/invoke/MethodHandle" ∧ yX3_mirrors.cls ≠ "java/lang/invoke/VarHandle" ∧ (parseMethodDescriptor yX3_mirrors.desc).map (fun d => d.parameters.length) = some 0 := by decide +kernel
set_option maxHeartbeats 4000000 in
set_option maxRecDepth 100000 in
theorem k_X3_mirrors {p : Program} {l : Launch} {e : Env} {s : State} {m : MethodId} {args : Array Value} {below : List Frame} {meth : Method} {c : Code} {Q : State → Prop} {A : Nat → Prop} {dC : Nat → ClassId} {dI : Nat → Nat → Nat} {cI cJ cZ : ClassId} (hx : p.tables.exec = Jvm.exec) (hb : c.code = cX3_mirrors) (hml : c.maxLocals = 5) (hown : s.vm.findClass RX3 = some m.cls) (hts : ∀ w ∈ wsX3_mirrors, w.before args s = true) (hK : va_K (dC, dI) vwCl (mTy cI cJ cZ) s) (hA : ∀ q, s.heap.size ≤ q → A q) {aM aMM aML aMY aMT aMR aMB aMN : Nat} {mk : Int32} {mp : Int32} {fMM : (Nat → Int32)} {fML : (Nat → Int64)}  {post : Int32 → (Nat → Int64) → Prop} (ret : ∀ (r : Int32) (fML' : (Nat → Int64)) (H : Heap) (locs : List Loc) (ls : Array Slot) (pc : Nat), decode cX3_mirrors pc = .ok (.ireturn, 1) → post r fML' → va_P (dC, dI) vwCl [oM aM aMM aML aMY aMT aMR aMB aMN mk mp, aI aMM cZ 36 fMM, aJ aML cJ 61 fML'] H → va_D A [oM aM aMM aML aMY aMT aMR aMB aMN mk mp, aI aMM cZ 36 fMM, aJ aML cJ 61 fML'] → va_S A s.heap H locs → W p l e rm_X3_mirrors s m args below meth c H locs 0 0 Q (F0 m pc ls [.int r])) (h : wp_X3_mirrors  mk mp fMM fML post) : mW p l e rm_X3_mirrors s m args below meth c 0 0 Q A (dC, dI) 5 [oM aM aMM aML aMY aMT aMR aMB aMN mk mp, aI aMM cZ 36 fMM, aJ aML cJ 61 fML] [(0, .ref aM)] 0 [] := by
  have in_X3 : ∀ w ∈ wsX30, w ∈ wsX3_mirrors := fun w hw => List.mem_cons_of_mem _ (List.mem_append_right _ hw)
  have k_40 := hts (.fieldLink RX3 40 "RingTasksModel" "labels" "I") (List.mem_of_getElem? (i := 1) rfl)
  have k_7 := hts (.fieldLink RX3 7 "RingTasksModel" "may" "[Z") (List.mem_of_getElem? (i := 2) rfl)
  have B8 : ∀ (x1 : Int32) (x2 : Int32) (fML : (Nat → Int64)), wp_X3_mirrors_b8 x1 x2 mk mp fMM fML post → mW p l e rm_X3_mirrors s m args below meth c 0 0 Q A (dC, dI) 5 [oM aM aMM aML aMY aMT aMR aMB aMN mk mp, aI aMM cZ 36 fMM, aJ aML cJ 61 fML] [(0, .ref aM), (1, .int x1), (2, .int x2)] 8 [] := by
    intro x1 x2 fML h
    unfold wp_X3_mirrors_b8 at h
    refine h (fun (x1 : Int32) (x2 : Int32) => mW p l e rm_X3_mirrors s m args below meth c 0 0 Q A (dC, dI) 5 [oM aM aMM aML aMY aMT aMR aMB aMN mk mp, aI aMM cZ 36 fMM, aJ aML cJ 61 fML] [(0, .ref aM), (1, .int x1), (2, .int x2)] 8 []) ?_
    intro x1 x2 h
    intro H locs ls hP hD hS hl
    refine lv_iload_n hx hb dX3_mirrors_8 rfl (lv_at hl 2 rfl) ?_
    refine lv_bipush (v := 36) hx hb dX3_mirrors_9 (by decide) ?_
    refine lv_icmp_ge (tgt := 89) hx hb dX3_mirrors_11 (by decide) (fun q11 => ?_) (fun q11 => ?_)
    · have h := h.1 q11
      refine lv_iload_n hx hb dX3_mirrors_89 rfl (lv_at hl 1 rfl) ?_
      refine lv_if_eq (tgt := 97) hx hb dX3_mirrors_90 (by decide) (fun q90 => ?_) (fun q90 => ?_)
      · have h := h.1 q90
        refine lv_iconst (v := 0) hx hb dX3_mirrors_97 (by decide) ?_
        exact ret _ _ H locs ls _ dX3_mirrors_98 h hP hD hS
      · have h := h.2 q90
        refine lv_iconst (v := 1) hx hb dX3_mirrors_93 (by decide) ?_
        refine lv_goto (tgt := 98) hx hb dX3_mirrors_94 (by decide) ?_
        exact ret _ _ H locs ls _ dX3_mirrors_98 h hP hD hS
    · have h := h.2 q11
      refine lv_iload_n hx hb dX3_mirrors_14 rfl (lv_at hl 2 rfl) ?_
      refine lv_bipush (v := 6) hx hb dX3_mirrors_15 (by decide) ?_
      refine lv_idiv hx hb dX3_mirrors_17 h.1 ?_
      have h := h.2
      refine lv_topi (fun v18 ev18 => ?_)
      have h := h v18 ev18
      refine lv_istore_n (lv' := [(3, .int v18), (0, .ref aM), (1, .int x1), (2, .int x2)]) hx hb dX3_mirrors_18 rfl hl (by decide) rfl (fun ls hl => ?_)
      refine lv_iload_n hx hb dX3_mirrors_19 rfl (lv_at hl 3 rfl) ?_
      refine lv_bipush (v := 6) hx hb dX3_mirrors_20 (by decide) ?_
      refine lv_irem hx hb dX3_mirrors_22 h.1 ?_
      have h := h.2
      refine lv_topi (fun v23 ev23 => ?_)
      have h := h v23 ev23
      refine lv_istore (lv' := [(4, .int v23), (3, .int v18), (0, .ref aM), (1, .int x1), (2, .int x2)]) hx hb dX3_mirrors_23 hl (by decide) rfl (fun ls hl => ?_)
      refine lv_iload_n hx hb dX3_mirrors_25 rfl (lv_at hl 3 rfl) ?_
      refine lv_if_eq (tgt := 81) hx hb dX3_mirrors_26 (by decide) (fun q26 => ?_) (fun q26 => ?_)
      · have h := h.1 q26
        refine lv_iconst (v := 0) hx hb dX3_mirrors_81 (by decide) ?_
        refine lv_istore_n (lv' := [(1, .int (0 : Int32)), (4, .int v23), (3, .int v18), (0, .ref aM), (2, .int x2)]) hx hb dX3_mirrors_82 rfl hl (by decide) rfl (fun ls hl => ?_)
        obtain ⟨v83, ev83⟩ : ∃ y : Int32, y = x2 + (1 : Int32) := ⟨_, rfl⟩
        have h := h v83 ev83
        refine lv_iinc (v := v83) (lv' := [(2, .int v83), (1, .int (0 : Int32)), (4, .int v23), (3, .int v18), (0, .ref aM)]) hx hb dX3_mirrors_83 hl (k := 4) rfl (by rw [ev83]; rfl) (by decide) rfl (fun ls hl => ?_)
        refine lv_goto (tgt := 8) hx hb dX3_mirrors_86 (by decide) ?_
        exact h H locs ls hP hD hS (lv_sub hl [4, 1, 0] rfl)
      · have h := h.2 q26
        refine lv_iload_n hx hb dX3_mirrors_29 rfl (lv_at hl 1 rfl) ?_
        refine lv_aload_n hx hb dX3_mirrors_30 rfl (lv_at hl 2 rfl) ?_
        refine va_get (D := (dC, dI)) (ci := 3) (v := .int mk) (C := RX3) (T := TX3) (N := 9) hx hb hts in_X3 hown hK hP 0 rfl rfl 0 (by decide) k_40 (fun _ h9 => h9) rfl dX3_mirrors_31 ?_
        refine lv_icmp_ge (tgt := 77) hx hb dX3_mirrors_34 (by decide) (fun q34 => ?_) (fun q34 => ?_)
        · have h := h.1 q34
          refine lv_iconst (v := 1) hx hb dX3_mirrors_77 (by decide) ?_
          refine lv_goto (tgt := 82) hx hb dX3_mirrors_78 (by decide) ?_
          refine lv_istore_n (lv' := [(1, .int (1 : Int32)), (4, .int v23), (3, .int v18), (0, .ref aM), (2, .int x2)]) hx hb dX3_mirrors_82 rfl hl (by decide) rfl (fun ls hl => ?_)
          obtain ⟨v83, ev83⟩ : ∃ y : Int32, y = x2 + (1 : Int32) := ⟨_, rfl⟩
          have h := h v83 ev83
          refine lv_iinc (v := v83) (lv' := [(2, .int v83), (1, .int (1 : Int32)), (4, .int v23), (3, .int v18), (0, .ref aM)]) hx hb dX3_mirrors_83 hl (k := 4) rfl (by rw [ev83]; rfl) (by decide) rfl (fun ls hl => ?_)
          refine lv_goto (tgt := 8) hx hb dX3_mirrors_86 (by decide) ?_
          exact h H locs ls hP hD hS (lv_sub hl [4, 1, 0] rfl)
        · have h := h.2 q34
          refine lv_iload hx hb dX3_mirrors_37 (lv_at hl 0 rfl) ?_
          refine lv_aload_n hx hb dX3_mirrors_39 rfl (lv_at hl 2 rfl) ?_
          refine va_get (D := (dC, dI)) (ci := 3) (v := .int mk) (C := RX3) (T := TX3) (N := 9) hx hb hts in_X3 hown hK hP 0 rfl rfl 0 (by decide) k_40 (fun _ h9 => h9) rfl dX3_mirrors_40 ?_
          refine lv_icmp_ge (tgt := 77) hx hb dX3_mirrors_43 (by decide) (fun q43 => ?_) (fun q43 => ?_)
          · have h := h.1 q43
            refine lv_iconst (v := 1) hx hb dX3_mirrors_77 (by decide) ?_
            refine lv_goto (tgt := 82) hx hb dX3_mirrors_78 (by decide) ?_
            refine lv_istore_n (lv' := [(1, .int (1 : Int32)), (4, .int v23), (3, .int v18), (0, .ref aM), (2, .int x2)]) hx hb dX3_mirrors_82 rfl hl (by decide) rfl (fun ls hl => ?_)
            obtain ⟨v83, ev83⟩ : ∃ y : Int32, y = x2 + (1 : Int32) := ⟨_, rfl⟩
            have h := h v83 ev83
            refine lv_iinc (v := v83) (lv' := [(2, .int v83), (1, .int (1 : Int32)), (4, .int v23), (3, .int v18), (0, .ref aM)]) hx hb dX3_mirrors_83 hl (k := 4) rfl (by rw [ev83]; rfl) (by decide) rfl (fun ls hl => ?_)
            refine lv_goto (tgt := 8) hx hb dX3_mirrors_86 (by decide) ?_
            exact h H locs ls hP hD hS (lv_sub hl [4, 1, 0] rfl)
          · have h := h.2 q43
            refine lv_aload_n hx hb dX3_mirrors_46 rfl (lv_at hl 2 rfl) ?_
            refine lv_iload_n hx hb dX3_mirrors_47 rfl (lv_at hl 1 rfl) ?_
            refine lv_iload hx hb dX3_mirrors_48 (lv_at hl 0 rfl) ?_
            refine mVi (wr := [aI aMM cZ 36 fMM]) (As := [.int v18, .int v23]) (rest := []) ⟨hx, hb, hml, hown, hts⟩ (c_X3_isOneBlock (l := l) (dC := dC) (dI := dI) (cI := cI) (cJ := cJ) (cZ := cZ) (aM := aM) (aMM := aMM) (aML := aML) (aMY := aMY) (aMT := aMT) (aMR := aMR) (aMB := aMB) (aMN := aMN) h) (cwV 2 hts gX3_mirrors_X3_isOneBlock rfl rfl rfl hv_X3_isOneBlock ⟨Nat.le_of_ble_eq_true rfl, Nat.le_of_ble_eq_true rfl⟩) hK hP hD hS hA [0, 2] [1] rfl rfl rfl rfl (by decide) 3 rfl rfl rfl rfl hl.1 rfl (Nat.le_of_ble_eq_true rfl) ⟨Nat.zero_le _, Nat.zero_le _⟩ dX3_mirrors_50 (fun r50 u50 H locs h hP hD hS => ?_)
            have hP : va_P (dC, dI) vwCl [oM aM aMM aML aMY aMT aMR aMB aMN mk mp, aI aMM cZ 36 fMM, aJ aML cJ 61 fML] H := hP.sub [1, 0, 2] rfl
            have hD : va_D A [oM aM aMM aML aMY aMT aMR aMB aMN mk mp, aI aMM cZ 36 fMM, aJ aML cJ 61 fML] := hD.sub [1, 0, 2] rfl rfl
            refine lv_if_eq (tgt := 77) hx hb dX3_mirrors_53 (by decide) (fun q53 => ?_) (fun q53 => ?_)
            · have h := h.1 q53
              refine lv_iconst (v := 1) hx hb dX3_mirrors_77 (by decide) ?_
              refine lv_goto (tgt := 82) hx hb dX3_mirrors_78 (by decide) ?_
              refine lv_istore_n (lv' := [(1, .int (1 : Int32)), (4, .int v23), (3, .int v18), (0, .ref aM), (2, .int x2)]) hx hb dX3_mirrors_82 rfl hl (by decide) rfl (fun ls hl => ?_)
              obtain ⟨v83, ev83⟩ : ∃ y : Int32, y = x2 + (1 : Int32) := ⟨_, rfl⟩
              have h := h v83 ev83
              refine lv_iinc (v := v83) (lv' := [(2, .int v83), (1, .int (1 : Int32)), (4, .int v23), (3, .int v18), (0, .ref aM)]) hx hb dX3_mirrors_83 hl (k := 4) rfl (by rw [ev83]; rfl) (by decide) rfl (fun ls hl => ?_)
              refine lv_goto (tgt := 8) hx hb dX3_mirrors_86 (by decide) ?_
              exact h H locs ls hP hD hS (lv_sub hl [4, 1, 0] rfl)
            · have h := h.2 q53
              refine lv_aload_n hx hb dX3_mirrors_56 rfl (lv_at hl 2 rfl) ?_
              refine va_get (D := (dC, dI)) (ci := 3) (v := .ref aMM) (C := RX3) (T := TX3) (N := 9) hx hb hts in_X3 hown hK hP 0 rfl rfl 1 (by decide) k_7 (fun _ h9 => h9) rfl dX3_mirrors_57 ?_
              refine lv_iload_n hx hb dX3_mirrors_60 rfl (lv_at hl 4 rfl) ?_
              refine va_zald (D := (dC, dI)) hx hb hK hP 1 2 rfl rfl h.1 dX3_mirrors_61 ?_
              have h := h.2
              refine lv_aload_n hx hb dX3_mirrors_62 rfl (lv_at hl 2 rfl) ?_
              refine va_get (D := (dC, dI)) (ci := 3) (v := .ref aMM) (C := RX3) (T := TX3) (N := 9) hx hb hts in_X3 hown hK hP 0 rfl rfl 1 (by decide) k_7 (fun _ h9 => h9) rfl dX3_mirrors_63 ?_
              refine lv_bipush (v := 6) hx hb dX3_mirrors_66 (by decide) ?_
              refine lv_iload hx hb dX3_mirrors_68 (lv_at hl 0 rfl) ?_
              refine lv_imul hx hb dX3_mirrors_70 ?_
              refine lv_iload_n hx hb dX3_mirrors_71 rfl (lv_at hl 1 rfl) ?_
              refine lv_iadd hx hb dX3_mirrors_72 ?_
              refine va_zald (D := (dC, dI)) hx hb hK hP 1 2 rfl rfl h.1 dX3_mirrors_73 ?_
              have h := h.2
              refine lv_icmp_ne (tgt := 81) hx hb dX3_mirrors_74 (by decide) (fun q74 => ?_) (fun q74 => ?_)
              · have h := h.1 q74
                refine lv_iconst (v := 0) hx hb dX3_mirrors_81 (by decide) ?_
                refine lv_istore_n (lv' := [(1, .int (0 : Int32)), (4, .int v23), (3, .int v18), (0, .ref aM), (2, .int x2)]) hx hb dX3_mirrors_82 rfl hl (by decide) rfl (fun ls hl => ?_)
                obtain ⟨v83, ev83⟩ : ∃ y : Int32, y = x2 + (1 : Int32) := ⟨_, rfl⟩
                have h := h v83 ev83
                refine lv_iinc (v := v83) (lv' := [(2, .int v83), (1, .int (0 : Int32)), (4, .int v23), (3, .int v18), (0, .ref aM)]) hx hb dX3_mirrors_83 hl (k := 4) rfl (by rw [ev83]; rfl) (by decide) rfl (fun ls hl => ?_)
                refine lv_goto (tgt := 8) hx hb dX3_mirrors_86 (by decide) ?_
                exact h H locs ls hP hD hS (lv_sub hl [4, 1, 0] rfl)
              · have h := h.2 q74
                refine lv_iconst (v := 1) hx hb dX3_mirrors_77 (by decide) ?_
                refine lv_goto (tgt := 82) hx hb dX3_mirrors_78 (by decide) ?_
                refine lv_istore_n (lv' := [(1, .int (1 : Int32)), (4, .int v23), (3, .int v18), (0, .ref aM), (2, .int x2)]) hx hb dX3_mirrors_82 rfl hl (by decide) rfl (fun ls hl => ?_)
                obtain ⟨v83, ev83⟩ : ∃ y : Int32, y = x2 + (1 : Int32) := ⟨_, rfl⟩
                have h := h v83 ev83
                refine lv_iinc (v := v83) (lv' := [(2, .int v83), (1, .int (1 : Int32)), (4, .int v23), (3, .int v18), (0, .ref aM)]) hx hb dX3_mirrors_83 hl (k := 4) rfl (by rw [ev83]; rfl) (by decide) rfl (fun ls hl => ?_)
                refine lv_goto (tgt := 8) hx hb dX3_mirrors_86 (by decide) ?_
                exact h H locs ls hP hD hS (lv_sub hl [4, 1, 0] rfl)
  unfold wp_X3_mirrors at h
  intro H locs ls hP hD hS hl
  refine lv_aload_n hx hb dX3_mirrors_0 rfl (lv_at hl 0 rfl) ?_
  refine mVv (wr := []) (As := []) (rest := []) ⟨hx, hb, hml, hown, hts⟩ (c_X3_layLeads (l := l) (dC := dC) (dI := dI) (cI := cI) (cJ := cJ) (cZ := cZ) (aM := aM) (aMM := aMM) (aML := aML) (aMY := aMY) (aMT := aMT) (aMR := aMR) (aMB := aMB) (aMN := aMN) h) (cwV 0 hts gX3_mirrors_X3_layLeads rfl rfl rfl hv_X3_layLeads ⟨Nat.le_of_ble_eq_true rfl, Nat.le_of_ble_eq_true rfl⟩) hK hP hD hS hA [0, 1, 2] [] rfl rfl rfl rfl (by decide) 3 rfl rfl rfl rfl hl.1 rfl (Nat.le_of_ble_eq_true rfl) ⟨Nat.zero_le _, Nat.zero_le _⟩ dX3_mirrors_1 (fun fML_1 H locs h hP hD hS => ?_)
  have hP : va_P (dC, dI) vwCl [oM aM aMM aML aMY aMT aMR aMB aMN mk mp, aI aMM cZ 36 fMM, aJ aML cJ 61 fML_1] H := hP.sub [0, 1, 2] rfl
  have hD : va_D A [oM aM aMM aML aMY aMT aMR aMB aMN mk mp, aI aMM cZ 36 fMM, aJ aML cJ 61 fML_1] := hD.sub [0, 1, 2] rfl rfl
  refine lv_iconst (v := 1) hx hb dX3_mirrors_4 (by decide) ?_
  refine lv_istore_n (lv' := [(1, .int (1 : Int32)), (0, .ref aM)]) hx hb dX3_mirrors_5 rfl hl (by decide) rfl (fun ls hl => ?_)
  refine lv_iconst (v := 0) hx hb dX3_mirrors_6 (by decide) ?_
  refine lv_istore_n (lv' := [(2, .int (0 : Int32)), (1, .int (1 : Int32)), (0, .ref aM)]) hx hb dX3_mirrors_7 rfl hl (by decide) rfl (fun ls hl => ?_)
  exact B8 _ _ _ h H locs ls hP hD hS (lv_sub hl [2, 1, 0] rfl)
set_option maxHeartbeats 4000000 in
set_option maxRecDepth 100000 in
theorem c_X3_mirrors {l : Launch} {dC : Nat → ClassId} {dI : Nat → Nat → Nat} {cI cJ cZ : ClassId} {aM aMM aML aMY aMT aMR aMB aMN : Nat} {mk : Int32} {mp : Int32} {fMM : (Nat → Int32)} {fML : (Nat → Int64)}  {post : Int32 → (Nat → Int64) → Prop} (h : wp_X3_mirrors  mk mp fMM fML post) : ∀ sz, Met l yX3_mirrors wsX3_mirrors rm_X3_mirrors (mP (dC, dI) (mTy cI cJ cZ) [.ref aM] [oM aM aMM aML aMY aMT aMR aMB aMN mk mp, aI aMM cZ 36 fMM, aJ aML cJ 61 fML] sz) (va_Qi (fun (r : Int32) (u : (Nat → Int64)) => post r u) (mB (dC, dI) (va_A [oM aM aMM aML aMY aMT aMR aMB aMN mk mp, aI aMM cZ 36 fMM, aJ aML cJ 61 fML] sz) (fun u => [oM aM aMM aML aMY aMT aMR aMB aMN mk mp, aI aMM cZ 36 fMM, aJ aML cJ 61 u])) (va_A [oM aM aMM aML aMY aMT aMR aMB aMN mk mp, aI aMM cZ 36 fMM, aJ aML cJ 61 fML] sz)) 0 0 (va_A [oM aM aMM aML aMY aMT aMR aMB aMN mk mp, aI aMM cZ 36 fMM, aJ aML cJ 61 fML] sz) := by
  intro sz
  refine Met.ofW (cc := cX3_mirrors) (maxL := 5) (ret := (some .int)) (by decide) rfl ?_
  intro p e s m args below meth c s₁ B hml hv
  obtain ⟨rfl, hsz, hP, hK, hD0⟩ := hv
  have hlocks := B.notSynchronized
  subst hsz
  have hD := hD0.self (sz := s.heap.size)
  have hl := lv_entry ([.ref aM]) (n := 5) (Nat.le_of_ble_eq_true rfl)
  rw [lg_entry_eq]
  exact k_X3_mirrors B.exec B.bytes hml (findClass_of_methodNamed B.named) (atoms_spec (ws := wsX3_mirrors) B.pre) hK (fun q hq => Or.inr hq) (fun r fML' H locs ls pc hd hp hP hD hS => W.iret B.exec B.bytes B.returns (fun t ht hW => ⟨⟨r, fML', rfl, hp, by rw [ht]; exact hP, hD⟩, hS.F ht⟩) hS.2.2 hd) h s.heap [] _ hP hD va_S.rf hl

def wp_X3_lay_b7 (x2 : Int32) (mk : Int32) (mp : Int32) (fMB : (Nat → Int32)) (fMN : (Nat → Int32)) (post : Int32 → (Nat → Int32) → (Nat → Int32) → Prop)  : Prop := ∀ P7 : Int32 → (Nat → Int32) → (Nat → Int32) → Prop, (∀ (x2 : Int32) (fMB : (Nat → Int32)) (fMN : (Nat → Int32)), (((60 : Int32) ≤ x2 → post mp fMB fMN) ∧ (¬ (60 : Int32) ≤ x2 → (vp_in x2 60 ∧ (∀ fMB_19 : (Nat → Int32), fMB_19 = upd fMB x2.toNatClampNeg (0 : Int32) → (vp_in x2 60 ∧ (∀ fMN_26 : (Nat → Int32), fMN_26 = upd fMN x2.toNatClampNeg x2 → (∀ v27 : Int32, v27 = x2 + (1 : Int32) → P7 v27 fMB_19 fMN_26))))))) → P7 x2 fMB fMN) → P7 x2 fMB fMN
def wp_X3_lay (x1 : Int32) (mk : Int32) (mp : Int32) (fMB : (Nat → Int32)) (fMN : (Nat → Int32)) (post : Int32 → (Nat → Int32) → (Nat → Int32) → Prop) : Prop := wp_X3_lay_b7 (0 : Int32) mk x1 fMB fMN post
abbrev rm_X3_lay : Room := { frames := 0, cells := 0, slots := 0, locals := 0 }
theorem hv_X3_lay : yX3_lay.cls = RX3 ∧ yX3_lay.cls ≠ "java/lang/invoke/MethodHandle" ∧ yX3_lay.cls ≠ "java/lang/invoke/VarHandle" ∧ (parseMethodDescriptor yX3_lay.desc).map (fun d => d.parameters.length) = some 1 := by decide +kernel
set_option maxHeartbeats 4000000 in
set_option maxRecDepth 100000 in
theorem k_X3_lay {p : Program} {l : Launch} {e : Env} {s : State} {m : MethodId} {args : Array Value} {below : List Frame} {meth : Method} {c : Code} {Q : State → Prop} {A : Nat → Prop} {dC : Nat → ClassId} {dI : Nat → Nat → Nat} {cI cJ cZ : ClassId} (hx : p.tables.exec = Jvm.exec) (hb : c.code = cX3_lay) (hml : c.maxLocals = 3) (hown : s.vm.findClass RX3 = some m.cls) (hts : ∀ w ∈ wsX3_lay, w.before args s = true) (hK : va_K (dC, dI) vwCl (mTy cI cJ cZ) s) (hA : ∀ q, s.heap.size ≤ q → A q) {aM aMM aML aMY aMT aMR aMB aMN : Nat} {mk : Int32} {mp : Int32} {fMB : (Nat → Int32)} {fMN : (Nat → Int32)} {x1 : Int32} {post : Int32 → (Nat → Int32) → (Nat → Int32) → Prop} (ret : ∀ (mp' : Int32) (fMB' : (Nat → Int32)) (fMN' : (Nat → Int32)) (H : Heap) (locs : List Loc) (ls : Array Slot) (pc : Nat), decode cX3_lay pc = .ok (.return_, 1) → post mp' fMB' fMN' → va_P (dC, dI) vwCl [oM aM aMM aML aMY aMT aMR aMB aMN mk mp', aI aMB cI 60 fMB', aI aMN cI 60 fMN'] H → va_D A [oM aM aMM aML aMY aMT aMR aMB aMN mk mp', aI aMB cI 60 fMB', aI aMN cI 60 fMN'] → va_S A s.heap H locs → W p l e rm_X3_lay s m args below meth c H locs 0 0 Q (F0 m pc ls [])) (h : wp_X3_lay x1 mk mp fMB fMN post) : mW p l e rm_X3_lay s m args below meth c 0 0 Q A (dC, dI) 3 [oM aM aMM aML aMY aMT aMR aMB aMN mk mp, aI aMB cI 60 fMB, aI aMN cI 60 fMN] [(0, .ref aM), (1, .int x1)] 0 [] := by
  have in_X3 : ∀ w ∈ wsX30, w ∈ wsX3_lay := fun w hw => List.mem_cons_of_mem _ (List.mem_append_right _ hw)
  have k_102 := hts (.fieldLink RX3 102 "RingTasksModel" "posts" "I") (List.mem_of_getElem? (i := 1) rfl)
  have k_27 := hts (.fieldLink RX3 27 "RingTasksModel" "label" "[I") (List.mem_of_getElem? (i := 2) rfl)
  have k_30 := hts (.fieldLink RX3 30 "RingTasksModel" "number" "[I") (List.mem_of_getElem? (i := 3) rfl)
  have B7 : ∀ (x2 : Int32) (mp : Int32) (fMB : (Nat → Int32)) (fMN : (Nat → Int32)), wp_X3_lay_b7 x2 mk mp fMB fMN post → mW p l e rm_X3_lay s m args below meth c 0 0 Q A (dC, dI) 3 [oM aM aMM aML aMY aMT aMR aMB aMN mk mp, aI aMB cI 60 fMB, aI aMN cI 60 fMN] [(0, .ref aM), (2, .int x2)] 7 [] := by
    intro x2 mp fMB fMN h
    unfold wp_X3_lay_b7 at h
    refine h (fun (x2 : Int32) (fMB : (Nat → Int32)) (fMN : (Nat → Int32)) => mW p l e rm_X3_lay s m args below meth c 0 0 Q A (dC, dI) 3 [oM aM aMM aML aMY aMT aMR aMB aMN mk mp, aI aMB cI 60 fMB, aI aMN cI 60 fMN] [(0, .ref aM), (2, .int x2)] 7 []) ?_
    intro x2 fMB fMN h
    intro H locs ls hP hD hS hl
    refine lv_iload_n hx hb dX3_lay_7 rfl (lv_at hl 1 rfl) ?_
    refine lv_bipush (v := 60) hx hb dX3_lay_8 (by decide) ?_
    refine lv_icmp_ge (tgt := 33) hx hb dX3_lay_10 (by decide) (fun q10 => ?_) (fun q10 => ?_)
    · have h := h.1 q10
      exact ret _ _ _ H locs ls _ dX3_lay_33 h hP hD hS
    · have h := h.2 q10
      refine lv_aload_n hx hb dX3_lay_13 rfl (lv_at hl 0 rfl) ?_
      refine va_get (D := (dC, dI)) (ci := 3) (v := .ref aMB) (C := RX3) (T := TX3) (N := 9) hx hb hts in_X3 hown hK hP 0 rfl rfl 7 (by decide) k_27 (fun _ h9 => h9) rfl dX3_lay_14 ?_
      refine lv_iload_n hx hb dX3_lay_17 rfl (lv_at hl 1 rfl) ?_
      refine lv_iconst (v := 0) hx hb dX3_lay_18 (by decide) ?_
      refine va_iast (D := (dC, dI)) hx hb hK hP hD hS 1 0 rfl rfl h.1 dX3_lay_19 (fun H locs hP hD hS => ?_)
      obtain ⟨fMB_19, efMB_19⟩ : ∃ y, y = upd fMB x2.toNatClampNeg (0 : Int32) := ⟨_, rfl⟩
      have h := h.2 fMB_19 efMB_19
      have hP : va_P (dC, dI) vwCl [oM aM aMM aML aMY aMT aMR aMB aMN mk mp, aI aMB cI 60 fMB_19, aI aMN cI 60 fMN] H := by rw [efMB_19]; exact hP
      have hD : va_D A [oM aM aMM aML aMY aMT aMR aMB aMN mk mp, aI aMB cI 60 fMB_19, aI aMN cI 60 fMN] := by rw [efMB_19]; exact hD
      refine lv_aload_n hx hb dX3_lay_20 rfl (lv_at hl 0 rfl) ?_
      refine va_get (D := (dC, dI)) (ci := 3) (v := .ref aMN) (C := RX3) (T := TX3) (N := 9) hx hb hts in_X3 hown hK hP 0 rfl rfl 8 (by decide) k_30 (fun _ h9 => h9) rfl dX3_lay_21 ?_
      refine lv_iload_n hx hb dX3_lay_24 rfl (lv_at hl 1 rfl) ?_
      refine lv_iload_n hx hb dX3_lay_25 rfl (lv_at hl 1 rfl) ?_
      refine va_iast (D := (dC, dI)) hx hb hK hP hD hS 2 0 rfl rfl h.1 dX3_lay_26 (fun H locs hP hD hS => ?_)
      obtain ⟨fMN_26, efMN_26⟩ : ∃ y, y = upd fMN x2.toNatClampNeg x2 := ⟨_, rfl⟩
      have h := h.2 fMN_26 efMN_26
      have hP : va_P (dC, dI) vwCl [oM aM aMM aML aMY aMT aMR aMB aMN mk mp, aI aMB cI 60 fMB_19, aI aMN cI 60 fMN_26] H := by rw [efMN_26]; exact hP
      have hD : va_D A [oM aM aMM aML aMY aMT aMR aMB aMN mk mp, aI aMB cI 60 fMB_19, aI aMN cI 60 fMN_26] := by rw [efMN_26]; exact hD
      obtain ⟨v27, ev27⟩ : ∃ y : Int32, y = x2 + (1 : Int32) := ⟨_, rfl⟩
      have h := h v27 ev27
      refine lv_iinc (v := v27) (lv' := [(2, .int v27), (0, .ref aM)]) hx hb dX3_lay_27 hl (k := 1) rfl (by rw [ev27]; rfl) (by decide) rfl (fun ls hl => ?_)
      refine lv_goto (tgt := 7) hx hb dX3_lay_30 (by decide) ?_
      exact h H locs ls hP hD hS (lv_sub hl [1, 0] rfl)
  unfold wp_X3_lay at h
  intro H locs ls hP hD hS hl
  refine lv_aload_n hx hb dX3_lay_0 rfl (lv_at hl 0 rfl) ?_
  refine lv_iload_n hx hb dX3_lay_1 rfl (lv_at hl 1 rfl) ?_
  refine va_put (D := (dC, dI)) (ci := 3) (v := .int x1) (ty := .int) (C := RX3) (T := TX3) (N := 9) hx hb hts in_X3 tyX3 tyX3_ok nmX3 hown hK hP hD hS 0 rfl rfl 6 (by decide) k_102 (fun _ h9 => h9) rfl (by decide +kernel) rfl rfl (Nat.le_of_ble_eq_true rfl) dX3_lay_2 (fun H locs hP hD hS => ?_)
  have hP : va_P (dC, dI) vwCl [oM aM aMM aML aMY aMT aMR aMB aMN mk x1, aI aMB cI 60 fMB, aI aMN cI 60 fMN] H := hP
  have hD : va_D A [oM aM aMM aML aMY aMT aMR aMB aMN mk x1, aI aMB cI 60 fMB, aI aMN cI 60 fMN] := hD
  refine lv_iconst (v := 0) hx hb dX3_lay_5 (by decide) ?_
  refine lv_istore_n (lv' := [(2, .int (0 : Int32)), (0, .ref aM), (1, .int x1)]) hx hb dX3_lay_6 rfl hl (by decide) rfl (fun ls hl => ?_)
  exact B7 _ _ _ _ h H locs ls hP hD hS (lv_sub hl [1, 0] rfl)
set_option maxHeartbeats 4000000 in
set_option maxRecDepth 100000 in
theorem c_X3_lay {l : Launch} {dC : Nat → ClassId} {dI : Nat → Nat → Nat} {cI cJ cZ : ClassId} {aM aMM aML aMY aMT aMR aMB aMN : Nat} {mk : Int32} {mp : Int32} {fMB : (Nat → Int32)} {fMN : (Nat → Int32)} {x1 : Int32} {post : Int32 → (Nat → Int32) → (Nat → Int32) → Prop} (h : wp_X3_lay x1 mk mp fMB fMN post) : ∀ sz, Met l yX3_lay wsX3_lay rm_X3_lay (mP (dC, dI) (mTy cI cJ cZ) [.ref aM, .int x1] [oM aM aMM aML aMY aMT aMR aMB aMN mk mp, aI aMB cI 60 fMB, aI aMN cI 60 fMN] sz) (va_Qv (fun (u : Int32 × (Nat → Int32) × (Nat → Int32)) => post (u.1) (u.2.1) (u.2.2)) (mB (dC, dI) (va_A [oM aM aMM aML aMY aMT aMR aMB aMN mk mp, aI aMB cI 60 fMB, aI aMN cI 60 fMN] sz) (fun u => [oM aM aMM aML aMY aMT aMR aMB aMN mk (u.1), aI aMB cI 60 (u.2.1), aI aMN cI 60 (u.2.2)])) (va_A [oM aM aMM aML aMY aMT aMR aMB aMN mk mp, aI aMB cI 60 fMB, aI aMN cI 60 fMN] sz)) 0 0 (va_A [oM aM aMM aML aMY aMT aMR aMB aMN mk mp, aI aMB cI 60 fMB, aI aMN cI 60 fMN] sz) := by
  intro sz
  refine Met.ofW (cc := cX3_lay) (maxL := 3) (ret := none) (by decide) rfl ?_
  intro p e s m args below meth c s₁ B hml hv
  obtain ⟨rfl, hsz, hP, hK, hD0⟩ := hv
  have hlocks := B.notSynchronized
  subst hsz
  have hD := hD0.self (sz := s.heap.size)
  have hl := lv_entry ([.ref aM, .int x1]) (n := 3) (Nat.le_of_ble_eq_true rfl)
  rw [lg_entry_eq]
  exact k_X3_lay B.exec B.bytes hml (findClass_of_methodNamed B.named) (atoms_spec (ws := wsX3_lay) B.pre) hK (fun q hq => Or.inr hq) (fun mp' fMB' fMN' H locs ls pc hd hp hP hD hS => W.vret B.exec B.bytes B.returns (fun t ht hW => ⟨⟨(mp', fMB', fMN'), rfl, hp, by rw [ht]; exact hP, hD⟩, hS.F ht⟩) hS.2.2 hd) h s.heap [] _ hP hD va_S.rf hl

def wp_X3_isPost (x1 : Int32) (mk : Int32) (mp : Int32) (post : Int32 → Prop) : Prop := wp_X3_in x1 (0 : Int32) (mp - (1 : Int32)) (fun (r8 : Int32) => ((r8 = 0 ∨ r8 = 1) ∧ post r8 ))
abbrev rm_X3_isPost : Room := { frames := 1, cells := 0, slots := 0, locals := 22 }
theorem hv_X3_isPost : yX3_isPost.cls = RX3 ∧ yX3_isPost.cls ≠ "java/lang/invoke/MethodHandle" ∧ yX3_isPost.cls ≠ "java/lang/invoke/VarHandle" ∧ (parseMethodDescriptor yX3_isPost.desc).map (fun d => d.parameters.length) = some 1 := by decide +kernel
set_option maxHeartbeats 4000000 in
set_option maxRecDepth 100000 in
theorem k_X3_isPost {p : Program} {l : Launch} {e : Env} {s : State} {m : MethodId} {args : Array Value} {below : List Frame} {meth : Method} {c : Code} {Q : State → Prop} {A : Nat → Prop} {dC : Nat → ClassId} {dI : Nat → Nat → Nat} {cI cJ cZ : ClassId} (hx : p.tables.exec = Jvm.exec) (hb : c.code = cX3_isPost) (hml : c.maxLocals = 2) (hown : s.vm.findClass RX3 = some m.cls) (hts : ∀ w ∈ wsX3_isPost, w.before args s = true) (hK : va_K (dC, dI) vwCl (mTy cI cJ cZ) s) (hA : ∀ q, s.heap.size ≤ q → A q) {aM aMM aML aMY aMT aMR aMB aMN : Nat} {mk : Int32} {mp : Int32} {x1 : Int32} {post : Int32 → Prop} (ret : ∀ (r : Int32) (H : Heap) (locs : List Loc) (ls : Array Slot) (pc : Nat), decode cX3_isPost pc = .ok (.ireturn, 1) → (r = 0 ∨ r = 1) → post r → va_P (dC, dI) vwCl [oM aM aMM aML aMY aMT aMR aMB aMN mk mp] H → va_D A [oM aM aMM aML aMY aMT aMR aMB aMN mk mp] → va_S A s.heap H locs → W p l e rm_X3_isPost s m args below meth c H locs 0 0 Q (F0 m pc ls [.int r])) (h : wp_X3_isPost x1 mk mp post) : mW p l e rm_X3_isPost s m args below meth c 0 0 Q A (dC, dI) 2 [oM aM aMM aML aMY aMT aMR aMB aMN mk mp] [(0, .ref aM), (1, .int x1)] 0 [] := by
  have in_X3 : ∀ w ∈ wsX30, w ∈ wsX3_isPost := fun w hw => List.mem_cons_of_mem _ (List.mem_append_right _ hw)
  have k_102 := hts (.fieldLink RX3 102 "RingTasksModel" "posts" "I") (List.mem_of_getElem? (i := 1) rfl)
  unfold wp_X3_isPost at h
  intro H locs ls hP hD hS hl
  refine lv_iload_n hx hb dX3_isPost_0 rfl (lv_at hl 1 rfl) ?_
  refine lv_iconst (v := 0) hx hb dX3_isPost_1 (by decide) ?_
  refine lv_aload_n hx hb dX3_isPost_2 rfl (lv_at hl 0 rfl) ?_
  refine va_get (D := (dC, dI)) (ci := 3) (v := .int mp) (C := RX3) (T := TX3) (N := 9) hx hb hts in_X3 hown hK hP 0 rfl rfl 6 (by decide) k_102 (fun _ h9 => h9) rfl dX3_isPost_3 ?_
  refine lv_iconst (v := 1) hx hb dX3_isPost_6 (by decide) ?_
  refine lv_isub hx hb dX3_isPost_7 ?_
  refine mSi (wr := [oM aM aMM aML aMY aMT aMR aMB aMN mk mp]) (As := [.int x1, .int (0 : Int32), .int (mp - (1 : Int32))]) (rest := []) ⟨hx, hb, hml, hown, hts⟩ (c_X3_in (l := l) (dC := dC) (dI := dI) (cI := cI) (cJ := cJ) (cZ := cZ)  h) (va_cwS 3 hts gX3_isPost_X3_in rfl rfl rfl hv_X3_in ⟨Nat.le_of_ble_eq_true rfl, Nat.le_of_ble_eq_true rfl⟩) hK hP hD hS hA [] [0] rfl rfl rfl rfl (by decide) rfl hl.1 rfl (Nat.le_of_ble_eq_true rfl) ⟨Nat.zero_le _, Nat.zero_le _⟩ dX3_isPost_8 (fun r8 u8 H locs h hP hD hS => ?_)
  have hP : va_P (dC, dI) vwCl [oM aM aMM aML aMY aMT aMR aMB aMN mk mp] H := hP.sub [0] rfl
  have hD : va_D A [oM aM aMM aML aMY aMT aMR aMB aMN mk mp] := hD.sub [0] rfl rfl
  exact ret _  H locs ls _ dX3_isPost_11 h.1 h.2 hP hD hS
set_option maxHeartbeats 4000000 in
set_option maxRecDepth 100000 in
theorem c_X3_isPost {l : Launch} {dC : Nat → ClassId} {dI : Nat → Nat → Nat} {cI cJ cZ : ClassId} {aM aMM aML aMY aMT aMR aMB aMN : Nat} {mk : Int32} {mp : Int32} {x1 : Int32} {post : Int32 → Prop} (h : wp_X3_isPost x1 mk mp post) : ∀ sz, Met l yX3_isPost wsX3_isPost rm_X3_isPost (mP (dC, dI) (mTy cI cJ cZ) [.ref aM, .int x1] [oM aM aMM aML aMY aMT aMR aMB aMN mk mp] sz) (va_Qi (fun (r : Int32) (u : Unit) => post r ) (mB (dC, dI) (va_A [oM aM aMM aML aMY aMT aMR aMB aMN mk mp] sz) (fun u => [oM aM aMM aML aMY aMT aMR aMB aMN mk mp])) (va_A [oM aM aMM aML aMY aMT aMR aMB aMN mk mp] sz)) 0 0 (va_A [oM aM aMM aML aMY aMT aMR aMB aMN mk mp] sz) := by
  intro sz
  refine Met.ofW (cc := cX3_isPost) (maxL := 2) (ret := (some .boolean)) (by decide) rfl ?_
  intro p e s m args below meth c s₁ B hml hv
  obtain ⟨rfl, hsz, hP, hK, hD0⟩ := hv
  have hlocks := B.notSynchronized
  subst hsz
  have hD := hD0.self (sz := s.heap.size)
  have hl := lv_entry ([.ref aM, .int x1]) (n := 2) (Nat.le_of_ble_eq_true rfl)
  rw [lg_entry_eq]
  exact k_X3_isPost B.exec B.bytes hml (findClass_of_methodNamed B.named) (atoms_spec (ws := wsX3_isPost) B.pre) hK (fun q hq => Or.inr hq) (fun r H locs ls pc hd hz hp hP hD hS => W.zret B.exec B.bytes B.returns (m_bz hz) (fun t ht hW => ⟨⟨r, (), rfl, hp, by rw [ht]; exact hP, hD⟩, hS.F ht⟩) hS.2.2 hd) h s.heap [] _ hP hD va_S.rf hl

def wp_X3_place (x1 : Int32) (mk : Int32) (mp : Int32) (post : Int32 → Prop) : Prop := (¬ mp = (0 : Int32) ∧ (¬ mp = (0 : Int32) ∧ post (((x1 - x1 / mp * mp) + mp) - ((x1 - x1 / mp * mp) + mp) / mp * mp)))
abbrev rm_X3_place : Room := { frames := 0, cells := 0, slots := 0, locals := 0 }
theorem hv_X3_place : yX3_place.cls = RX3 ∧ yX3_place.cls ≠ "java/lang/invoke/MethodHandle" ∧ yX3_place.cls ≠ "java/lang/invoke/VarHandle" ∧ (parseMethodDescriptor yX3_place.desc).map (fun d => d.parameters.length) = some 1 := by decide +kernel
set_option maxHeartbeats 4000000 in
set_option maxRecDepth 100000 in
theorem k_X3_place {p : Program} {l : Launch} {e : Env} {s : State} {m : MethodId} {args : Array Value} {below : List Frame} {meth : Method} {c : Code} {Q : State → Prop} {A : Nat → Prop} {dC : Nat → ClassId} {dI : Nat → Nat → Nat} {cI cJ cZ : ClassId} (hx : p.tables.exec = Jvm.exec) (hb : c.code = cX3_place) (hml : c.maxLocals = 2) (hown : s.vm.findClass RX3 = some m.cls) (hts : ∀ w ∈ wsX3_place, w.before args s = true) (hK : va_K (dC, dI) vwCl (mTy cI cJ cZ) s) (hA : ∀ q, s.heap.size ≤ q → A q) {aM aMM aML aMY aMT aMR aMB aMN : Nat} {mk : Int32} {mp : Int32} {x1 : Int32} {post : Int32 → Prop} (ret : ∀ (r : Int32) (H : Heap) (locs : List Loc) (ls : Array Slot) (pc : Nat), decode cX3_place pc = .ok (.ireturn, 1) → post r → va_P (dC, dI) vwCl [oM aM aMM aML aMY aMT aMR aMB aMN mk mp] H → va_D A [oM aM aMM aML aMY aMT aMR aMB aMN mk mp] → va_S A s.heap H locs → W p l e rm_X3_place s m args below meth c H locs 0 0 Q (F0 m pc ls [.int r])) (h : wp_X3_place x1 mk mp post) : mW p l e rm_X3_place s m args below meth c 0 0 Q A (dC, dI) 2 [oM aM aMM aML aMY aMT aMR aMB aMN mk mp] [(0, .ref aM), (1, .int x1)] 0 [] := by
  have in_X3 : ∀ w ∈ wsX30, w ∈ wsX3_place := fun w hw => List.mem_cons_of_mem _ (List.mem_append_right _ hw)
  have k_102 := hts (.fieldLink RX3 102 "RingTasksModel" "posts" "I") (List.mem_of_getElem? (i := 1) rfl)
  unfold wp_X3_place at h
  intro H locs ls hP hD hS hl
  refine lv_iload_n hx hb dX3_place_0 rfl (lv_at hl 1 rfl) ?_
  refine lv_aload_n hx hb dX3_place_1 rfl (lv_at hl 0 rfl) ?_
  refine va_get (D := (dC, dI)) (ci := 3) (v := .int mp) (C := RX3) (T := TX3) (N := 9) hx hb hts in_X3 hown hK hP 0 rfl rfl 6 (by decide) k_102 (fun _ h9 => h9) rfl dX3_place_2 ?_
  refine lv_irem hx hb dX3_place_5 h.1 ?_
  have h := h.2
  refine lv_aload_n hx hb dX3_place_6 rfl (lv_at hl 0 rfl) ?_
  refine va_get (D := (dC, dI)) (ci := 3) (v := .int mp) (C := RX3) (T := TX3) (N := 9) hx hb hts in_X3 hown hK hP 0 rfl rfl 6 (by decide) k_102 (fun _ h9 => h9) rfl dX3_place_7 ?_
  refine lv_iadd hx hb dX3_place_10 ?_
  refine lv_aload_n hx hb dX3_place_11 rfl (lv_at hl 0 rfl) ?_
  refine va_get (D := (dC, dI)) (ci := 3) (v := .int mp) (C := RX3) (T := TX3) (N := 9) hx hb hts in_X3 hown hK hP 0 rfl rfl 6 (by decide) k_102 (fun _ h9 => h9) rfl dX3_place_12 ?_
  refine lv_irem hx hb dX3_place_15 h.1 ?_
  have h := h.2
  exact ret _  H locs ls _ dX3_place_16 h hP hD hS
set_option maxHeartbeats 4000000 in
set_option maxRecDepth 100000 in
theorem c_X3_place {l : Launch} {dC : Nat → ClassId} {dI : Nat → Nat → Nat} {cI cJ cZ : ClassId} {aM aMM aML aMY aMT aMR aMB aMN : Nat} {mk : Int32} {mp : Int32} {x1 : Int32} {post : Int32 → Prop} (h : wp_X3_place x1 mk mp post) : ∀ sz, Met l yX3_place wsX3_place rm_X3_place (mP (dC, dI) (mTy cI cJ cZ) [.ref aM, .int x1] [oM aM aMM aML aMY aMT aMR aMB aMN mk mp] sz) (va_Qi (fun (r : Int32) (u : Unit) => post r ) (mB (dC, dI) (va_A [oM aM aMM aML aMY aMT aMR aMB aMN mk mp] sz) (fun u => [oM aM aMM aML aMY aMT aMR aMB aMN mk mp])) (va_A [oM aM aMM aML aMY aMT aMR aMB aMN mk mp] sz)) 0 0 (va_A [oM aM aMM aML aMY aMT aMR aMB aMN mk mp] sz) := by
  intro sz
  refine Met.ofW (cc := cX3_place) (maxL := 2) (ret := (some .int)) (by decide) rfl ?_
  intro p e s m args below meth c s₁ B hml hv
  obtain ⟨rfl, hsz, hP, hK, hD0⟩ := hv
  have hlocks := B.notSynchronized
  subst hsz
  have hD := hD0.self (sz := s.heap.size)
  have hl := lv_entry ([.ref aM, .int x1]) (n := 2) (Nat.le_of_ble_eq_true rfl)
  rw [lg_entry_eq]
  exact k_X3_place B.exec B.bytes hml (findClass_of_methodNamed B.named) (atoms_spec (ws := wsX3_place) B.pre) hK (fun q hq => Or.inr hq) (fun r H locs ls pc hd hp hP hD hS => W.iret B.exec B.bytes B.returns (fun t ht hW => ⟨⟨r, (), rfl, hp, by rw [ht]; exact hP, hD⟩, hS.F ht⟩) hS.2.2 hd) h s.heap [] _ hP hD va_S.rf hl

def wp_X3_ring (x1 : Int32) (mk : Int32) (mp : Int32) (fMB : (Nat → Int32)) (fMN : (Nat → Int32)) (post : Int32 → Int32 → (Nat → Int32) → (Nat → Int32) → Prop) : Prop := wp_X3_in x1 (3 : Int32) (60 : Int32) (fun (r4 : Int32) => ((¬ r4 = (0 : Int32) → wp_X3_lay x1 mk mp fMB fMN (fun (mp_20 : Int32) (fMB_20 : (Nat → Int32)) (fMN_20 : (Nat → Int32)) => post mp mp_20 fMB_20 fMN_20)) ∧ (r4 = (0 : Int32) → post (-2 : Int32) mp fMB fMN)))
abbrev rm_X3_ring : Room := { frames := 1, cells := 0, slots := 0, locals := 22 }
theorem hv_X3_ring : yX3_ring.cls = RX3 ∧ yX3_ring.cls ≠ "java/lang/invoke/MethodHandle" ∧ yX3_ring.cls ≠ "java/lang/invoke/VarHandle" ∧ (parseMethodDescriptor yX3_ring.desc).map (fun d => d.parameters.length) = some 1 := by decide +kernel
set_option maxHeartbeats 4000000 in
set_option maxRecDepth 100000 in
theorem k_X3_ring {p : Program} {l : Launch} {e : Env} {s : State} {m : MethodId} {args : Array Value} {below : List Frame} {meth : Method} {c : Code} {Q : State → Prop} {A : Nat → Prop} {dC : Nat → ClassId} {dI : Nat → Nat → Nat} {cI cJ cZ : ClassId} (hx : p.tables.exec = Jvm.exec) (hb : c.code = cX3_ring) (hml : c.maxLocals = 3) (hown : s.vm.findClass RX3 = some m.cls) (hts : ∀ w ∈ wsX3_ring, w.before args s = true) (hK : va_K (dC, dI) vwCl (mTy cI cJ cZ) s) (hA : ∀ q, s.heap.size ≤ q → A q) {aM aMM aML aMY aMT aMR aMB aMN : Nat} {mk : Int32} {mp : Int32} {fMB : (Nat → Int32)} {fMN : (Nat → Int32)} {x1 : Int32} {post : Int32 → Int32 → (Nat → Int32) → (Nat → Int32) → Prop} (ret : ∀ (r : Int32) (mp' : Int32) (fMB' : (Nat → Int32)) (fMN' : (Nat → Int32)) (H : Heap) (locs : List Loc) (ls : Array Slot) (pc : Nat), decode cX3_ring pc = .ok (.ireturn, 1) → post r mp' fMB' fMN' → va_P (dC, dI) vwCl [oM aM aMM aML aMY aMT aMR aMB aMN mk mp', aI aMB cI 60 fMB', aI aMN cI 60 fMN'] H → va_D A [oM aM aMM aML aMY aMT aMR aMB aMN mk mp', aI aMB cI 60 fMB', aI aMN cI 60 fMN'] → va_S A s.heap H locs → W p l e rm_X3_ring s m args below meth c H locs 0 0 Q (F0 m pc ls [.int r])) (h : wp_X3_ring x1 mk mp fMB fMN post) : mW p l e rm_X3_ring s m args below meth c 0 0 Q A (dC, dI) 3 [oM aM aMM aML aMY aMT aMR aMB aMN mk mp, aI aMB cI 60 fMB, aI aMN cI 60 fMN] [(0, .ref aM), (1, .int x1)] 0 [] := by
  have in_X3 : ∀ w ∈ wsX30, w ∈ wsX3_ring := fun w hw => List.mem_cons_of_mem _ (List.mem_append_right _ hw)
  have k_102 := hts (.fieldLink RX3 102 "RingTasksModel" "posts" "I") (List.mem_of_getElem? (i := 1) rfl)
  unfold wp_X3_ring at h
  intro H locs ls hP hD hS hl
  refine lv_iload_n hx hb dX3_ring_0 rfl (lv_at hl 1 rfl) ?_
  refine lv_iconst (v := 3) hx hb dX3_ring_1 (by decide) ?_
  refine lv_bipush (v := 60) hx hb dX3_ring_2 (by decide) ?_
  refine mSi (wr := [oM aM aMM aML aMY aMT aMR aMB aMN mk mp, aI aMB cI 60 fMB, aI aMN cI 60 fMN]) (As := [.int x1, .int (3 : Int32), .int (60 : Int32)]) (rest := []) ⟨hx, hb, hml, hown, hts⟩ (c_X3_in (l := l) (dC := dC) (dI := dI) (cI := cI) (cJ := cJ) (cZ := cZ)  h) (va_cwS 3 hts gX3_ring_X3_in rfl rfl rfl hv_X3_in ⟨Nat.le_of_ble_eq_true rfl, Nat.le_of_ble_eq_true rfl⟩) hK hP hD hS hA [] [0, 1, 2] rfl rfl rfl rfl (by decide) rfl hl.1 rfl (Nat.le_of_ble_eq_true rfl) ⟨Nat.zero_le _, Nat.zero_le _⟩ dX3_ring_4 (fun r4 u4 H locs h hP hD hS => ?_)
  have hP : va_P (dC, dI) vwCl [oM aM aMM aML aMY aMT aMR aMB aMN mk mp, aI aMB cI 60 fMB, aI aMN cI 60 fMN] H := hP.sub [0, 1, 2] rfl
  have hD : va_D A [oM aM aMM aML aMY aMT aMR aMB aMN mk mp, aI aMB cI 60 fMB, aI aMN cI 60 fMN] := hD.sub [0, 1, 2] rfl rfl
  refine lv_if_ne (tgt := 13) hx hb dX3_ring_7 (by decide) (fun q7 => ?_) (fun q7 => ?_)
  · have h := h.1 q7
    refine lv_aload_n hx hb dX3_ring_13 rfl (lv_at hl 0 rfl) ?_
    refine va_get (D := (dC, dI)) (ci := 3) (v := .int mp) (C := RX3) (T := TX3) (N := 9) hx hb hts in_X3 hown hK hP 0 rfl rfl 6 (by decide) k_102 (fun _ h9 => h9) rfl dX3_ring_14 ?_
    refine lv_istore_n (lv' := [(2, .int mp), (0, .ref aM), (1, .int x1)]) hx hb dX3_ring_17 rfl hl (by decide) rfl (fun ls hl => ?_)
    refine lv_aload_n hx hb dX3_ring_18 rfl (lv_at hl 1 rfl) ?_
    refine lv_iload_n hx hb dX3_ring_19 rfl (lv_at hl 2 rfl) ?_
    refine mVv (wr := []) (As := [.int x1]) (rest := []) ⟨hx, hb, hml, hown, hts⟩ (c_X3_lay (l := l) (dC := dC) (dI := dI) (cI := cI) (cJ := cJ) (cZ := cZ) (aM := aM) (aMM := aMM) (aML := aML) (aMY := aMY) (aMT := aMT) (aMR := aMR) (aMB := aMB) (aMN := aMN) h) (cwV 1 hts gX3_ring_X3_lay rfl rfl rfl hv_X3_lay ⟨Nat.le_of_ble_eq_true rfl, Nat.le_of_ble_eq_true rfl⟩) hK hP hD hS hA [0, 1, 2] [] rfl rfl rfl rfl (by decide) 3 rfl rfl rfl rfl hl.1 rfl (Nat.le_of_ble_eq_true rfl) ⟨Nat.zero_le _, Nat.zero_le _⟩ dX3_ring_20 (fun u20 H locs h hP hD hS => ?_)
    obtain ⟨mp_20, fMB_20, fMN_20⟩ := u20
    have hP : va_P (dC, dI) vwCl [oM aM aMM aML aMY aMT aMR aMB aMN mk mp_20, aI aMB cI 60 fMB_20, aI aMN cI 60 fMN_20] H := hP.sub [0, 1, 2] rfl
    have hD : va_D A [oM aM aMM aML aMY aMT aMR aMB aMN mk mp_20, aI aMB cI 60 fMB_20, aI aMN cI 60 fMN_20] := hD.sub [0, 1, 2] rfl rfl
    refine lv_iload_n hx hb dX3_ring_23 rfl (lv_at hl 0 rfl) ?_
    exact ret _ _ _ _ H locs ls _ dX3_ring_24 h hP hD hS
  · have h := h.2 q7
    refine lv_bipush (v := -2) hx hb dX3_ring_10 (by decide) ?_
    exact ret _ _ _ _ H locs ls _ dX3_ring_12 h hP hD hS
set_option maxHeartbeats 4000000 in
set_option maxRecDepth 100000 in
theorem c_X3_ring {l : Launch} {dC : Nat → ClassId} {dI : Nat → Nat → Nat} {cI cJ cZ : ClassId} {aM aMM aML aMY aMT aMR aMB aMN : Nat} {mk : Int32} {mp : Int32} {fMB : (Nat → Int32)} {fMN : (Nat → Int32)} {x1 : Int32} {post : Int32 → Int32 → (Nat → Int32) → (Nat → Int32) → Prop} (h : wp_X3_ring x1 mk mp fMB fMN post) : ∀ sz, Met l yX3_ring wsX3_ring rm_X3_ring (mP (dC, dI) (mTy cI cJ cZ) [.ref aM, .int x1] [oM aM aMM aML aMY aMT aMR aMB aMN mk mp, aI aMB cI 60 fMB, aI aMN cI 60 fMN] sz) (va_Qi (fun (r : Int32) (u : Int32 × (Nat → Int32) × (Nat → Int32)) => post r (u.1) (u.2.1) (u.2.2)) (mB (dC, dI) (va_A [oM aM aMM aML aMY aMT aMR aMB aMN mk mp, aI aMB cI 60 fMB, aI aMN cI 60 fMN] sz) (fun u => [oM aM aMM aML aMY aMT aMR aMB aMN mk (u.1), aI aMB cI 60 (u.2.1), aI aMN cI 60 (u.2.2)])) (va_A [oM aM aMM aML aMY aMT aMR aMB aMN mk mp, aI aMB cI 60 fMB, aI aMN cI 60 fMN] sz)) 0 0 (va_A [oM aM aMM aML aMY aMT aMR aMB aMN mk mp, aI aMB cI 60 fMB, aI aMN cI 60 fMN] sz) := by
  intro sz
  refine Met.ofW (cc := cX3_ring) (maxL := 3) (ret := (some .int)) (by decide) rfl ?_
  intro p e s m args below meth c s₁ B hml hv
  obtain ⟨rfl, hsz, hP, hK, hD0⟩ := hv
  have hlocks := B.notSynchronized
  subst hsz
  have hD := hD0.self (sz := s.heap.size)
  have hl := lv_entry ([.ref aM, .int x1]) (n := 3) (Nat.le_of_ble_eq_true rfl)
  rw [lg_entry_eq]
  exact k_X3_ring B.exec B.bytes hml (findClass_of_methodNamed B.named) (atoms_spec (ws := wsX3_ring) B.pre) hK (fun q hq => Or.inr hq) (fun r mp' fMB' fMN' H locs ls pc hd hp hP hD hS => W.iret B.exec B.bytes B.returns (fun t ht hW => ⟨⟨r, (mp', fMB', fMN'), rfl, hp, by rw [ht]; exact hP, hD⟩, hS.F ht⟩) hS.2.2 hd) h s.heap [] _ hP hD va_S.rf hl

def wp_X3_put (x1 : Int32) (x2 : Int32) (mk : Int32) (mp : Int32) (fMB : (Nat → Int32)) (post : Int32 → (Nat → Int32) → Prop) : Prop := wp_X3_isPost x1 mk mp (fun (r2 : Int32) => ((r2 = (0 : Int32) → post (-1 : Int32) fMB) ∧ (¬ r2 = (0 : Int32) → wp_X3_isLabel x2 mk mp (fun (r10 : Int32) => ((¬ r10 = (0 : Int32) → (vp_in x1 60 ∧ (∀ v24 : Int32, v24 = (fMB x1.toNatClampNeg) → (vp_in x1 60 ∧ (∀ fMB_31 : (Nat → Int32), fMB_31 = upd fMB x1.toNatClampNeg x2 → post v24 fMB_31))))) ∧ (r10 = (0 : Int32) → post (-1 : Int32) fMB))))))
abbrev rm_X3_put : Room := { frames := 2, cells := 0, slots := 0, locals := 43 }
theorem hv_X3_put : yX3_put.cls = RX3 ∧ yX3_put.cls ≠ "java/lang/invoke/MethodHandle" ∧ yX3_put.cls ≠ "java/lang/invoke/VarHandle" ∧ (parseMethodDescriptor yX3_put.desc).map (fun d => d.parameters.length) = some 2 := by decide +kernel
set_option maxHeartbeats 4000000 in
set_option maxRecDepth 100000 in
theorem k_X3_put {p : Program} {l : Launch} {e : Env} {s : State} {m : MethodId} {args : Array Value} {below : List Frame} {meth : Method} {c : Code} {Q : State → Prop} {A : Nat → Prop} {dC : Nat → ClassId} {dI : Nat → Nat → Nat} {cI cJ cZ : ClassId} (hx : p.tables.exec = Jvm.exec) (hb : c.code = cX3_put) (hml : c.maxLocals = 4) (hown : s.vm.findClass RX3 = some m.cls) (hts : ∀ w ∈ wsX3_put, w.before args s = true) (hK : va_K (dC, dI) vwCl (mTy cI cJ cZ) s) (hA : ∀ q, s.heap.size ≤ q → A q) {aM aMM aML aMY aMT aMR aMB aMN : Nat} {mk : Int32} {mp : Int32} {fMB : (Nat → Int32)} {x1 : Int32} {x2 : Int32} {post : Int32 → (Nat → Int32) → Prop} (ret : ∀ (r : Int32) (fMB' : (Nat → Int32)) (H : Heap) (locs : List Loc) (ls : Array Slot) (pc : Nat), decode cX3_put pc = .ok (.ireturn, 1) → post r fMB' → va_P (dC, dI) vwCl [oM aM aMM aML aMY aMT aMR aMB aMN mk mp, aI aMB cI 60 fMB'] H → va_D A [oM aM aMM aML aMY aMT aMR aMB aMN mk mp, aI aMB cI 60 fMB'] → va_S A s.heap H locs → W p l e rm_X3_put s m args below meth c H locs 0 0 Q (F0 m pc ls [.int r])) (h : wp_X3_put x1 x2 mk mp fMB post) : mW p l e rm_X3_put s m args below meth c 0 0 Q A (dC, dI) 4 [oM aM aMM aML aMY aMT aMR aMB aMN mk mp, aI aMB cI 60 fMB] [(0, .ref aM), (1, .int x1), (2, .int x2)] 0 [] := by
  have in_X3 : ∀ w ∈ wsX30, w ∈ wsX3_put := fun w hw => List.mem_cons_of_mem _ (List.mem_append_right _ hw)
  have k_27 := hts (.fieldLink RX3 27 "RingTasksModel" "label" "[I") (List.mem_of_getElem? (i := 1) rfl)
  unfold wp_X3_put at h
  intro H locs ls hP hD hS hl
  refine lv_aload_n hx hb dX3_put_0 rfl (lv_at hl 0 rfl) ?_
  refine lv_iload_n hx hb dX3_put_1 rfl (lv_at hl 1 rfl) ?_
  refine mVi (wr := [aI aMB cI 60 fMB]) (As := [.int x1]) (rest := []) ⟨hx, hb, hml, hown, hts⟩ (c_X3_isPost (l := l) (dC := dC) (dI := dI) (cI := cI) (cJ := cJ) (cZ := cZ) (aM := aM) (aMM := aMM) (aML := aML) (aMY := aMY) (aMT := aMT) (aMR := aMR) (aMB := aMB) (aMN := aMN) h) (cwV 1 hts gX3_put_X3_isPost rfl rfl rfl hv_X3_isPost ⟨Nat.le_of_ble_eq_true rfl, Nat.le_of_ble_eq_true rfl⟩) hK hP hD hS hA [0] [1] rfl rfl rfl rfl (by decide) 3 rfl rfl rfl rfl hl.1 rfl (Nat.le_of_ble_eq_true rfl) ⟨Nat.zero_le _, Nat.zero_le _⟩ dX3_put_2 (fun r2 u2 H locs h hP hD hS => ?_)
  have hP : va_P (dC, dI) vwCl [oM aM aMM aML aMY aMT aMR aMB aMN mk mp, aI aMB cI 60 fMB] H := hP.sub [1, 0] rfl
  have hD : va_D A [oM aM aMM aML aMY aMT aMR aMB aMN mk mp, aI aMB cI 60 fMB] := hD.sub [1, 0] rfl rfl
  refine lv_if_eq (tgt := 16) hx hb dX3_put_5 (by decide) (fun q5 => ?_) (fun q5 => ?_)
  · have h := h.1 q5
    refine lv_iconst (v := -1) hx hb dX3_put_16 (by decide) ?_
    exact ret _ _ H locs ls _ dX3_put_17 h hP hD hS
  · have h := h.2 q5
    refine lv_aload_n hx hb dX3_put_8 rfl (lv_at hl 0 rfl) ?_
    refine lv_iload_n hx hb dX3_put_9 rfl (lv_at hl 2 rfl) ?_
    refine mVi (wr := [aI aMB cI 60 fMB]) (As := [.int x2]) (rest := []) ⟨hx, hb, hml, hown, hts⟩ (c_X3_isLabel (l := l) (dC := dC) (dI := dI) (cI := cI) (cJ := cJ) (cZ := cZ) (aM := aM) (aMM := aMM) (aML := aML) (aMY := aMY) (aMT := aMT) (aMR := aMR) (aMB := aMB) (aMN := aMN) h) (cwV 1 hts gX3_put_X3_isLabel rfl rfl rfl hv_X3_isLabel ⟨Nat.le_of_ble_eq_true rfl, Nat.le_of_ble_eq_true rfl⟩) hK hP hD hS hA [0] [1] rfl rfl rfl rfl (by decide) 3 rfl rfl rfl rfl hl.1 rfl (Nat.le_of_ble_eq_true rfl) ⟨Nat.zero_le _, Nat.zero_le _⟩ dX3_put_10 (fun r10 u10 H locs h hP hD hS => ?_)
    have hP : va_P (dC, dI) vwCl [oM aM aMM aML aMY aMT aMR aMB aMN mk mp, aI aMB cI 60 fMB] H := hP.sub [1, 0] rfl
    have hD : va_D A [oM aM aMM aML aMY aMT aMR aMB aMN mk mp, aI aMB cI 60 fMB] := hD.sub [1, 0] rfl rfl
    refine lv_if_ne (tgt := 18) hx hb dX3_put_13 (by decide) (fun q13 => ?_) (fun q13 => ?_)
    · have h := h.1 q13
      refine lv_aload_n hx hb dX3_put_18 rfl (lv_at hl 0 rfl) ?_
      refine va_get (D := (dC, dI)) (ci := 3) (v := .ref aMB) (C := RX3) (T := TX3) (N := 9) hx hb hts in_X3 hown hK hP 0 rfl rfl 7 (by decide) k_27 (fun _ h9 => h9) rfl dX3_put_19 ?_
      refine lv_iload_n hx hb dX3_put_22 rfl (lv_at hl 1 rfl) ?_
      refine va_iald (D := (dC, dI)) hx hb hK hP 1 0 rfl rfl h.1 dX3_put_23 ?_
      have h := h.2
      refine lv_topi (fun v24 ev24 => ?_)
      have h := h v24 ev24
      refine lv_istore_n (lv' := [(3, .int v24), (0, .ref aM), (1, .int x1), (2, .int x2)]) hx hb dX3_put_24 rfl hl (by decide) rfl (fun ls hl => ?_)
      refine lv_aload_n hx hb dX3_put_25 rfl (lv_at hl 1 rfl) ?_
      refine va_get (D := (dC, dI)) (ci := 3) (v := .ref aMB) (C := RX3) (T := TX3) (N := 9) hx hb hts in_X3 hown hK hP 0 rfl rfl 7 (by decide) k_27 (fun _ h9 => h9) rfl dX3_put_26 ?_
      refine lv_iload_n hx hb dX3_put_29 rfl (lv_at hl 2 rfl) ?_
      refine lv_iload_n hx hb dX3_put_30 rfl (lv_at hl 3 rfl) ?_
      refine va_iast (D := (dC, dI)) hx hb hK hP hD hS 1 0 rfl rfl h.1 dX3_put_31 (fun H locs hP hD hS => ?_)
      obtain ⟨fMB_31, efMB_31⟩ : ∃ y, y = upd fMB x1.toNatClampNeg x2 := ⟨_, rfl⟩
      have h := h.2 fMB_31 efMB_31
      have hP : va_P (dC, dI) vwCl [oM aM aMM aML aMY aMT aMR aMB aMN mk mp, aI aMB cI 60 fMB_31] H := by rw [efMB_31]; exact hP
      have hD : va_D A [oM aM aMM aML aMY aMT aMR aMB aMN mk mp, aI aMB cI 60 fMB_31] := by rw [efMB_31]; exact hD
      refine lv_iload_n hx hb dX3_put_32 rfl (lv_at hl 0 rfl) ?_
      exact ret _ _ H locs ls _ dX3_put_33 h hP hD hS
    · have h := h.2 q13
      refine lv_iconst (v := -1) hx hb dX3_put_16 (by decide) ?_
      exact ret _ _ H locs ls _ dX3_put_17 h hP hD hS
set_option maxHeartbeats 4000000 in
set_option maxRecDepth 100000 in
theorem c_X3_put {l : Launch} {dC : Nat → ClassId} {dI : Nat → Nat → Nat} {cI cJ cZ : ClassId} {aM aMM aML aMY aMT aMR aMB aMN : Nat} {mk : Int32} {mp : Int32} {fMB : (Nat → Int32)} {x1 : Int32} {x2 : Int32} {post : Int32 → (Nat → Int32) → Prop} (h : wp_X3_put x1 x2 mk mp fMB post) : ∀ sz, Met l yX3_put wsX3_put rm_X3_put (mP (dC, dI) (mTy cI cJ cZ) [.ref aM, .int x1, .int x2] [oM aM aMM aML aMY aMT aMR aMB aMN mk mp, aI aMB cI 60 fMB] sz) (va_Qi (fun (r : Int32) (u : (Nat → Int32)) => post r u) (mB (dC, dI) (va_A [oM aM aMM aML aMY aMT aMR aMB aMN mk mp, aI aMB cI 60 fMB] sz) (fun u => [oM aM aMM aML aMY aMT aMR aMB aMN mk mp, aI aMB cI 60 u])) (va_A [oM aM aMM aML aMY aMT aMR aMB aMN mk mp, aI aMB cI 60 fMB] sz)) 0 0 (va_A [oM aM aMM aML aMY aMT aMR aMB aMN mk mp, aI aMB cI 60 fMB] sz) := by
  intro sz
  refine Met.ofW (cc := cX3_put) (maxL := 4) (ret := (some .int)) (by decide) rfl ?_
  intro p e s m args below meth c s₁ B hml hv
  obtain ⟨rfl, hsz, hP, hK, hD0⟩ := hv
  have hlocks := B.notSynchronized
  subst hsz
  have hD := hD0.self (sz := s.heap.size)
  have hl := lv_entry ([.ref aM, .int x1, .int x2]) (n := 4) (Nat.le_of_ble_eq_true rfl)
  rw [lg_entry_eq]
  exact k_X3_put B.exec B.bytes hml (findClass_of_methodNamed B.named) (atoms_spec (ws := wsX3_put) B.pre) hK (fun q hq => Or.inr hq) (fun r fMB' H locs ls pc hd hp hP hD hS => W.iret B.exec B.bytes B.returns (fun t ht hW => ⟨⟨r, fMB', rfl, hp, by rw [ht]; exact hP, hD⟩, hS.F ht⟩) hS.2.2 hd) h s.heap [] _ hP hD va_S.rf hl

def wp_X3_at (x1 : Int32) (mk : Int32) (mp : Int32) (fMB : (Nat → Int32)) (post : Int32 → Prop) : Prop := wp_X3_isPost x1 mk mp (fun (r2 : Int32) => ((r2 = (0 : Int32) → post (-1 : Int32)) ∧ (¬ r2 = (0 : Int32) → (vp_in x1 60 ∧ post (fMB x1.toNatClampNeg)))))
abbrev rm_X3_at : Room := { frames := 2, cells := 0, slots := 0, locals := 43 }
theorem hv_X3_at : yX3_at.cls = RX3 ∧ yX3_at.cls ≠ "java/lang/invoke/MethodHandle" ∧ yX3_at.cls ≠ "java/lang/invoke/VarHandle" ∧ (parseMethodDescriptor yX3_at.desc).map (fun d => d.parameters.length) = some 1 := by decide +kernel
set_option maxHeartbeats 4000000 in
set_option maxRecDepth 100000 in
theorem k_X3_at {p : Program} {l : Launch} {e : Env} {s : State} {m : MethodId} {args : Array Value} {below : List Frame} {meth : Method} {c : Code} {Q : State → Prop} {A : Nat → Prop} {dC : Nat → ClassId} {dI : Nat → Nat → Nat} {cI cJ cZ : ClassId} (hx : p.tables.exec = Jvm.exec) (hb : c.code = cX3_at) (hml : c.maxLocals = 2) (hown : s.vm.findClass RX3 = some m.cls) (hts : ∀ w ∈ wsX3_at, w.before args s = true) (hK : va_K (dC, dI) vwCl (mTy cI cJ cZ) s) (hA : ∀ q, s.heap.size ≤ q → A q) {aM aMM aML aMY aMT aMR aMB aMN : Nat} {mk : Int32} {mp : Int32} {fMB : (Nat → Int32)} {x1 : Int32} {post : Int32 → Prop} (ret : ∀ (r : Int32) (H : Heap) (locs : List Loc) (ls : Array Slot) (pc : Nat), decode cX3_at pc = .ok (.ireturn, 1) → post r → va_P (dC, dI) vwCl [oM aM aMM aML aMY aMT aMR aMB aMN mk mp, aI aMB cI 60 fMB] H → va_D A [oM aM aMM aML aMY aMT aMR aMB aMN mk mp, aI aMB cI 60 fMB] → va_S A s.heap H locs → W p l e rm_X3_at s m args below meth c H locs 0 0 Q (F0 m pc ls [.int r])) (h : wp_X3_at x1 mk mp fMB post) : mW p l e rm_X3_at s m args below meth c 0 0 Q A (dC, dI) 2 [oM aM aMM aML aMY aMT aMR aMB aMN mk mp, aI aMB cI 60 fMB] [(0, .ref aM), (1, .int x1)] 0 [] := by
  have in_X3 : ∀ w ∈ wsX30, w ∈ wsX3_at := fun w hw => List.mem_cons_of_mem _ (List.mem_append_right _ hw)
  have k_27 := hts (.fieldLink RX3 27 "RingTasksModel" "label" "[I") (List.mem_of_getElem? (i := 1) rfl)
  unfold wp_X3_at at h
  intro H locs ls hP hD hS hl
  refine lv_aload_n hx hb dX3_at_0 rfl (lv_at hl 0 rfl) ?_
  refine lv_iload_n hx hb dX3_at_1 rfl (lv_at hl 1 rfl) ?_
  refine mVi (wr := [aI aMB cI 60 fMB]) (As := [.int x1]) (rest := []) ⟨hx, hb, hml, hown, hts⟩ (c_X3_isPost (l := l) (dC := dC) (dI := dI) (cI := cI) (cJ := cJ) (cZ := cZ) (aM := aM) (aMM := aMM) (aML := aML) (aMY := aMY) (aMT := aMT) (aMR := aMR) (aMB := aMB) (aMN := aMN) h) (cwV 1 hts gX3_at_X3_isPost rfl rfl rfl hv_X3_isPost ⟨Nat.le_of_ble_eq_true rfl, Nat.le_of_ble_eq_true rfl⟩) hK hP hD hS hA [0] [1] rfl rfl rfl rfl (by decide) 3 rfl rfl rfl rfl hl.1 rfl (Nat.le_of_ble_eq_true rfl) ⟨Nat.zero_le _, Nat.zero_le _⟩ dX3_at_2 (fun r2 u2 H locs h hP hD hS => ?_)
  have hP : va_P (dC, dI) vwCl [oM aM aMM aML aMY aMT aMR aMB aMN mk mp, aI aMB cI 60 fMB] H := hP.sub [1, 0] rfl
  have hD : va_D A [oM aM aMM aML aMY aMT aMR aMB aMN mk mp, aI aMB cI 60 fMB] := hD.sub [1, 0] rfl rfl
  refine lv_if_eq (tgt := 17) hx hb dX3_at_5 (by decide) (fun q5 => ?_) (fun q5 => ?_)
  · have h := h.1 q5
    refine lv_iconst (v := -1) hx hb dX3_at_17 (by decide) ?_
    exact ret _  H locs ls _ dX3_at_18 h hP hD hS
  · have h := h.2 q5
    refine lv_aload_n hx hb dX3_at_8 rfl (lv_at hl 0 rfl) ?_
    refine va_get (D := (dC, dI)) (ci := 3) (v := .ref aMB) (C := RX3) (T := TX3) (N := 9) hx hb hts in_X3 hown hK hP 0 rfl rfl 7 (by decide) k_27 (fun _ h9 => h9) rfl dX3_at_9 ?_
    refine lv_iload_n hx hb dX3_at_12 rfl (lv_at hl 1 rfl) ?_
    refine va_iald (D := (dC, dI)) hx hb hK hP 1 0 rfl rfl h.1 dX3_at_13 ?_
    have h := h.2
    refine lv_goto (tgt := 18) hx hb dX3_at_14 (by decide) ?_
    exact ret _  H locs ls _ dX3_at_18 h hP hD hS
set_option maxHeartbeats 4000000 in
set_option maxRecDepth 100000 in
theorem c_X3_at {l : Launch} {dC : Nat → ClassId} {dI : Nat → Nat → Nat} {cI cJ cZ : ClassId} {aM aMM aML aMY aMT aMR aMB aMN : Nat} {mk : Int32} {mp : Int32} {fMB : (Nat → Int32)} {x1 : Int32} {post : Int32 → Prop} (h : wp_X3_at x1 mk mp fMB post) : ∀ sz, Met l yX3_at wsX3_at rm_X3_at (mP (dC, dI) (mTy cI cJ cZ) [.ref aM, .int x1] [oM aM aMM aML aMY aMT aMR aMB aMN mk mp, aI aMB cI 60 fMB] sz) (va_Qi (fun (r : Int32) (u : Unit) => post r ) (mB (dC, dI) (va_A [oM aM aMM aML aMY aMT aMR aMB aMN mk mp, aI aMB cI 60 fMB] sz) (fun u => [oM aM aMM aML aMY aMT aMR aMB aMN mk mp, aI aMB cI 60 fMB])) (va_A [oM aM aMM aML aMY aMT aMR aMB aMN mk mp, aI aMB cI 60 fMB] sz)) 0 0 (va_A [oM aM aMM aML aMY aMT aMR aMB aMN mk mp, aI aMB cI 60 fMB] sz) := by
  intro sz
  refine Met.ofW (cc := cX3_at) (maxL := 2) (ret := (some .int)) (by decide) rfl ?_
  intro p e s m args below meth c s₁ B hml hv
  obtain ⟨rfl, hsz, hP, hK, hD0⟩ := hv
  have hlocks := B.notSynchronized
  subst hsz
  have hD := hD0.self (sz := s.heap.size)
  have hl := lv_entry ([.ref aM, .int x1]) (n := 2) (Nat.le_of_ble_eq_true rfl)
  rw [lg_entry_eq]
  exact k_X3_at B.exec B.bytes hml (findClass_of_methodNamed B.named) (atoms_spec (ws := wsX3_at) B.pre) hK (fun q hq => Or.inr hq) (fun r H locs ls pc hd hp hP hD hS => W.iret B.exec B.bytes B.returns (fun t ht hW => ⟨⟨r, (), rfl, hp, by rw [ht]; exact hP, hD⟩, hS.F ht⟩) hS.2.2 hd) h s.heap [] _ hP hD va_S.rf hl

def wp_X3_isFault (x1 : Int32) (mk : Int32) (mp : Int32) (fMM : (Nat → Int32)) (fMB : (Nat → Int32)) (post : Int32 → Prop) : Prop := (vp_in x1 60 ∧ wp_X3_place (x1 + (1 : Int32)) mk mp (fun (r21 : Int32) => (vp_in r21 60 ∧ (vp_in (((6 : Int32) * (fMB x1.toNatClampNeg)) + (fMB r21.toNatClampNeg)) 36 ∧ ((¬ (fMM (((6 : Int32) * (fMB x1.toNatClampNeg)) + (fMB r21.toNatClampNeg)).toNatClampNeg) = (0 : Int32) → post (0 : Int32)) ∧ ((fMM (((6 : Int32) * (fMB x1.toNatClampNeg)) + (fMB r21.toNatClampNeg)).toNatClampNeg) = (0 : Int32) → post (1 : Int32)))))))
abbrev rm_X3_isFault : Room := { frames := 1, cells := 0, slots := 0, locals := 21 }
theorem hv_X3_isFault : yX3_isFault.cls = RX3 ∧ yX3_isFault.cls ≠ "java/lang/invoke/MethodHandle" ∧ yX3_isFault.cls ≠ "java/lang/invoke/VarHandle" ∧ (parseMethodDescriptor yX3_isFault.desc).map (fun d => d.parameters.length) = some 1 := by decide +kernel
set_option maxHeartbeats 4000000 in
set_option maxRecDepth 100000 in
theorem k_X3_isFault {p : Program} {l : Launch} {e : Env} {s : State} {m : MethodId} {args : Array Value} {below : List Frame} {meth : Method} {c : Code} {Q : State → Prop} {A : Nat → Prop} {dC : Nat → ClassId} {dI : Nat → Nat → Nat} {cI cJ cZ : ClassId} (hx : p.tables.exec = Jvm.exec) (hb : c.code = cX3_isFault) (hml : c.maxLocals = 2) (hown : s.vm.findClass RX3 = some m.cls) (hts : ∀ w ∈ wsX3_isFault, w.before args s = true) (hK : va_K (dC, dI) vwCl (mTy cI cJ cZ) s) (hA : ∀ q, s.heap.size ≤ q → A q) {aM aMM aML aMY aMT aMR aMB aMN : Nat} {mk : Int32} {mp : Int32} {fMM : (Nat → Int32)} {fMB : (Nat → Int32)} {x1 : Int32} {post : Int32 → Prop} (ret : ∀ (r : Int32) (H : Heap) (locs : List Loc) (ls : Array Slot) (pc : Nat), decode cX3_isFault pc = .ok (.ireturn, 1) → (r = 0 ∨ r = 1) → post r → va_P (dC, dI) vwCl [oM aM aMM aML aMY aMT aMR aMB aMN mk mp, aI aMM cZ 36 fMM, aI aMB cI 60 fMB] H → va_D A [oM aM aMM aML aMY aMT aMR aMB aMN mk mp, aI aMM cZ 36 fMM, aI aMB cI 60 fMB] → va_S A s.heap H locs → W p l e rm_X3_isFault s m args below meth c H locs 0 0 Q (F0 m pc ls [.int r])) (h : wp_X3_isFault x1 mk mp fMM fMB post) : mW p l e rm_X3_isFault s m args below meth c 0 0 Q A (dC, dI) 2 [oM aM aMM aML aMY aMT aMR aMB aMN mk mp, aI aMM cZ 36 fMM, aI aMB cI 60 fMB] [(0, .ref aM), (1, .int x1)] 0 [] := by
  have in_X3 : ∀ w ∈ wsX30, w ∈ wsX3_isFault := fun w hw => List.mem_cons_of_mem _ (List.mem_append_right _ hw)
  have k_27 := hts (.fieldLink RX3 27 "RingTasksModel" "label" "[I") (List.mem_of_getElem? (i := 2) rfl)
  have k_7 := hts (.fieldLink RX3 7 "RingTasksModel" "may" "[Z") (List.mem_of_getElem? (i := 1) rfl)
  unfold wp_X3_isFault at h
  intro H locs ls hP hD hS hl
  refine lv_aload_n hx hb dX3_isFault_0 rfl (lv_at hl 0 rfl) ?_
  refine va_get (D := (dC, dI)) (ci := 3) (v := .ref aMM) (C := RX3) (T := TX3) (N := 9) hx hb hts in_X3 hown hK hP 0 rfl rfl 1 (by decide) k_7 (fun _ h9 => h9) rfl dX3_isFault_1 ?_
  refine lv_bipush (v := 6) hx hb dX3_isFault_4 (by decide) ?_
  refine lv_aload_n hx hb dX3_isFault_6 rfl (lv_at hl 0 rfl) ?_
  refine va_get (D := (dC, dI)) (ci := 3) (v := .ref aMB) (C := RX3) (T := TX3) (N := 9) hx hb hts in_X3 hown hK hP 0 rfl rfl 7 (by decide) k_27 (fun _ h9 => h9) rfl dX3_isFault_7 ?_
  refine lv_iload_n hx hb dX3_isFault_10 rfl (lv_at hl 1 rfl) ?_
  refine va_iald (D := (dC, dI)) hx hb hK hP 2 0 rfl rfl h.1 dX3_isFault_11 ?_
  have h := h.2
  refine lv_imul hx hb dX3_isFault_12 ?_
  refine lv_aload_n hx hb dX3_isFault_13 rfl (lv_at hl 0 rfl) ?_
  refine va_get (D := (dC, dI)) (ci := 3) (v := .ref aMB) (C := RX3) (T := TX3) (N := 9) hx hb hts in_X3 hown hK hP 0 rfl rfl 7 (by decide) k_27 (fun _ h9 => h9) rfl dX3_isFault_14 ?_
  refine lv_aload_n hx hb dX3_isFault_17 rfl (lv_at hl 0 rfl) ?_
  refine lv_iload_n hx hb dX3_isFault_18 rfl (lv_at hl 1 rfl) ?_
  refine lv_iconst (v := 1) hx hb dX3_isFault_19 (by decide) ?_
  refine lv_iadd hx hb dX3_isFault_20 ?_
  refine mVi (wr := [aI aMM cZ 36 fMM, aI aMB cI 60 fMB]) (As := [.int (x1 + (1 : Int32))]) (rest := [.ref aMB, .int ((6 : Int32) * (fMB x1.toNatClampNeg)), .ref aMM]) ⟨hx, hb, hml, hown, hts⟩ (c_X3_place (l := l) (dC := dC) (dI := dI) (cI := cI) (cJ := cJ) (cZ := cZ) (aM := aM) (aMM := aMM) (aML := aML) (aMY := aMY) (aMT := aMT) (aMR := aMR) (aMB := aMB) (aMN := aMN) h) (cwV 1 hts gX3_isFault_X3_place rfl rfl rfl hv_X3_place ⟨Nat.le_of_ble_eq_true rfl, Nat.le_of_ble_eq_true rfl⟩) hK hP hD hS hA [0] [1, 2] rfl rfl rfl rfl (by decide) 3 rfl rfl rfl rfl hl.1 rfl (Nat.le_of_ble_eq_true rfl) ⟨Nat.zero_le _, Nat.zero_le _⟩ dX3_isFault_21 (fun r21 u21 H locs h hP hD hS => ?_)
  have hP : va_P (dC, dI) vwCl [oM aM aMM aML aMY aMT aMR aMB aMN mk mp, aI aMM cZ 36 fMM, aI aMB cI 60 fMB] H := hP.sub [2, 0, 1] rfl
  have hD : va_D A [oM aM aMM aML aMY aMT aMR aMB aMN mk mp, aI aMM cZ 36 fMM, aI aMB cI 60 fMB] := hD.sub [2, 0, 1] rfl rfl
  refine va_iald (D := (dC, dI)) hx hb hK hP 2 0 rfl rfl h.1 dX3_isFault_24 ?_
  have h := h.2
  refine lv_iadd hx hb dX3_isFault_25 ?_
  refine va_zald (D := (dC, dI)) hx hb hK hP 1 2 rfl rfl h.1 dX3_isFault_26 ?_
  have h := h.2
  refine lv_if_ne (tgt := 34) hx hb dX3_isFault_27 (by decide) (fun q27 => ?_) (fun q27 => ?_)
  · have h := h.1 q27
    refine lv_iconst (v := 0) hx hb dX3_isFault_34 (by decide) ?_
    exact ret _  H locs ls _ dX3_isFault_35 (Or.inl rfl) h hP hD hS
  · have h := h.2 q27
    refine lv_iconst (v := 1) hx hb dX3_isFault_30 (by decide) ?_
    refine lv_goto (tgt := 35) hx hb dX3_isFault_31 (by decide) ?_
    exact ret _  H locs ls _ dX3_isFault_35 (Or.inr rfl) h hP hD hS
set_option maxHeartbeats 4000000 in
set_option maxRecDepth 100000 in
theorem c_X3_isFault {l : Launch} {dC : Nat → ClassId} {dI : Nat → Nat → Nat} {cI cJ cZ : ClassId} {aM aMM aML aMY aMT aMR aMB aMN : Nat} {mk : Int32} {mp : Int32} {fMM : (Nat → Int32)} {fMB : (Nat → Int32)} {x1 : Int32} {post : Int32 → Prop} (h : wp_X3_isFault x1 mk mp fMM fMB post) : ∀ sz, Met l yX3_isFault wsX3_isFault rm_X3_isFault (mP (dC, dI) (mTy cI cJ cZ) [.ref aM, .int x1] [oM aM aMM aML aMY aMT aMR aMB aMN mk mp, aI aMM cZ 36 fMM, aI aMB cI 60 fMB] sz) (va_Qi (fun (r : Int32) (u : Unit) => post r ) (mB (dC, dI) (va_A [oM aM aMM aML aMY aMT aMR aMB aMN mk mp, aI aMM cZ 36 fMM, aI aMB cI 60 fMB] sz) (fun u => [oM aM aMM aML aMY aMT aMR aMB aMN mk mp, aI aMM cZ 36 fMM, aI aMB cI 60 fMB])) (va_A [oM aM aMM aML aMY aMT aMR aMB aMN mk mp, aI aMM cZ 36 fMM, aI aMB cI 60 fMB] sz)) 0 0 (va_A [oM aM aMM aML aMY aMT aMR aMB aMN mk mp, aI aMM cZ 36 fMM, aI aMB cI 60 fMB] sz) := by
  intro sz
  refine Met.ofW (cc := cX3_isFault) (maxL := 2) (ret := (some .boolean)) (by decide) rfl ?_
  intro p e s m args below meth c s₁ B hml hv
  obtain ⟨rfl, hsz, hP, hK, hD0⟩ := hv
  have hlocks := B.notSynchronized
  subst hsz
  have hD := hD0.self (sz := s.heap.size)
  have hl := lv_entry ([.ref aM, .int x1]) (n := 2) (Nat.le_of_ble_eq_true rfl)
  rw [lg_entry_eq]
  exact k_X3_isFault B.exec B.bytes hml (findClass_of_methodNamed B.named) (atoms_spec (ws := wsX3_isFault) B.pre) hK (fun q hq => Or.inr hq) (fun r H locs ls pc hd hz hp hP hD hS => W.zret B.exec B.bytes B.returns (m_bz hz) (fun t ht hW => ⟨⟨r, (), rfl, hp, by rw [ht]; exact hP, hD⟩, hS.F ht⟩) hS.2.2 hd) h s.heap [] _ hP hD va_S.rf hl

def wp_X3_faults_b4 (x1 : Int32) (x2 : Int32) (mk : Int32) (mp : Int32) (fMM : (Nat → Int32)) (fMB : (Nat → Int32)) (post : Int32 → Prop)  : Prop := ∀ P4 : Int32 → Int32 → Prop, (∀ (x1 : Int32) (x2 : Int32), ((mp ≤ x2 → post x1) ∧ (¬ mp ≤ x2 → wp_X3_isFault x2 mk mp fMM fMB (fun (r15 : Int32) => ((r15 = (0 : Int32) → (∀ v27 : Int32, v27 = (x1 + (0 : Int32)) → (∀ v28 : Int32, v28 = x2 + (1 : Int32) → P4 v27 v28))) ∧ (¬ r15 = (0 : Int32) → (∀ v27 : Int32, v27 = (x1 + (1 : Int32)) → (∀ v28 : Int32, v28 = x2 + (1 : Int32) → P4 v27 v28))))))) → P4 x1 x2) → P4 x1 x2
def wp_X3_faults  (mk : Int32) (mp : Int32) (fMM : (Nat → Int32)) (fMB : (Nat → Int32)) (post : Int32 → Prop) : Prop := wp_X3_faults_b4 (0 : Int32) (0 : Int32) mk mp fMM fMB post
abbrev rm_X3_faults : Room := { frames := 2, cells := 0, slots := 0, locals := 42 }
theorem hv_X3_faults : yX3_faults.cls = RX3 ∧ yX3_faults.cls ≠ "java/lang/invoke/MethodHandle" ∧ yX3_faults.cls ≠ "java/lang/invoke/VarHandle" ∧ (parseMethodDescriptor yX3_faults.desc).map (fun d => d.parameters.length) = some 0 := by decide +kernel
set_option maxHeartbeats 4000000 in
set_option maxRecDepth 100000 in
theorem k_X3_faults {p : Program} {l : Launch} {e : Env} {s : State} {m : MethodId} {args : Array Value} {below : List Frame} {meth : Method} {c : Code} {Q : State → Prop} {A : Nat → Prop} {dC : Nat → ClassId} {dI : Nat → Nat → Nat} {cI cJ cZ : ClassId} (hx : p.tables.exec = Jvm.exec) (hb : c.code = cX3_faults) (hml : c.maxLocals = 3) (hown : s.vm.findClass RX3 = some m.cls) (hts : ∀ w ∈ wsX3_faults, w.before args s = true) (hK : va_K (dC, dI) vwCl (mTy cI cJ cZ) s) (hA : ∀ q, s.heap.size ≤ q → A q) {aM aMM aML aMY aMT aMR aMB aMN : Nat} {mk : Int32} {mp : Int32} {fMM : (Nat → Int32)} {fMB : (Nat → Int32)}  {post : Int32 → Prop} (ret : ∀ (r : Int32) (H : Heap) (locs : List Loc) (ls : Array Slot) (pc : Nat), decode cX3_faults pc = .ok (.ireturn, 1) → post r → va_P (dC, dI) vwCl [oM aM aMM aML aMY aMT aMR aMB aMN mk mp, aI aMM cZ 36 fMM, aI aMB cI 60 fMB] H → va_D A [oM aM aMM aML aMY aMT aMR aMB aMN mk mp, aI aMM cZ 36 fMM, aI aMB cI 60 fMB] → va_S A s.heap H locs → W p l e rm_X3_faults s m args below meth c H locs 0 0 Q (F0 m pc ls [.int r])) (h : wp_X3_faults  mk mp fMM fMB post) : mW p l e rm_X3_faults s m args below meth c 0 0 Q A (dC, dI) 3 [oM aM aMM aML aMY aMT aMR aMB aMN mk mp, aI aMM cZ 36 fMM, aI aMB cI 60 fMB] [(0, .ref aM)] 0 [] := by
  have in_X3 : ∀ w ∈ wsX30, w ∈ wsX3_faults := fun w hw => List.mem_cons_of_mem _ (List.mem_append_right _ hw)
  have k_102 := hts (.fieldLink RX3 102 "RingTasksModel" "posts" "I") (List.mem_of_getElem? (i := 1) rfl)
  have B4 : ∀ (x1 : Int32) (x2 : Int32), wp_X3_faults_b4 x1 x2 mk mp fMM fMB post → mW p l e rm_X3_faults s m args below meth c 0 0 Q A (dC, dI) 3 [oM aM aMM aML aMY aMT aMR aMB aMN mk mp, aI aMM cZ 36 fMM, aI aMB cI 60 fMB] [(0, .ref aM), (1, .int x1), (2, .int x2)] 4 [] := by
    intro x1 x2 h
    unfold wp_X3_faults_b4 at h
    refine h (fun (x1 : Int32) (x2 : Int32) => mW p l e rm_X3_faults s m args below meth c 0 0 Q A (dC, dI) 3 [oM aM aMM aML aMY aMT aMR aMB aMN mk mp, aI aMM cZ 36 fMM, aI aMB cI 60 fMB] [(0, .ref aM), (1, .int x1), (2, .int x2)] 4 []) ?_
    intro x1 x2 h
    intro H locs ls hP hD hS hl
    refine lv_iload_n hx hb dX3_faults_4 rfl (lv_at hl 2 rfl) ?_
    refine lv_aload_n hx hb dX3_faults_5 rfl (lv_at hl 0 rfl) ?_
    refine va_get (D := (dC, dI)) (ci := 3) (v := .int mp) (C := RX3) (T := TX3) (N := 9) hx hb hts in_X3 hown hK hP 0 rfl rfl 6 (by decide) k_102 (fun _ h9 => h9) rfl dX3_faults_6 ?_
    refine lv_icmp_ge (tgt := 34) hx hb dX3_faults_9 (by decide) (fun q9 => ?_) (fun q9 => ?_)
    · have h := h.1 q9
      refine lv_iload_n hx hb dX3_faults_34 rfl (lv_at hl 1 rfl) ?_
      exact ret _  H locs ls _ dX3_faults_35 h hP hD hS
    · have h := h.2 q9
      refine lv_iload_n hx hb dX3_faults_12 rfl (lv_at hl 1 rfl) ?_
      refine lv_aload_n hx hb dX3_faults_13 rfl (lv_at hl 0 rfl) ?_
      refine lv_iload_n hx hb dX3_faults_14 rfl (lv_at hl 2 rfl) ?_
      refine mVi (wr := []) (As := [.int x2]) (rest := [.int x1]) ⟨hx, hb, hml, hown, hts⟩ (c_X3_isFault (l := l) (dC := dC) (dI := dI) (cI := cI) (cJ := cJ) (cZ := cZ) (aM := aM) (aMM := aMM) (aML := aML) (aMY := aMY) (aMT := aMT) (aMR := aMR) (aMB := aMB) (aMN := aMN) h) (cwV 1 hts gX3_faults_X3_isFault rfl rfl rfl hv_X3_isFault ⟨Nat.le_of_ble_eq_true rfl, Nat.le_of_ble_eq_true rfl⟩) hK hP hD hS hA [0, 1, 2] [] rfl rfl rfl rfl (by decide) 3 rfl rfl rfl rfl hl.1 rfl (Nat.le_of_ble_eq_true rfl) ⟨Nat.zero_le _, Nat.zero_le _⟩ dX3_faults_15 (fun r15 u15 H locs h hP hD hS => ?_)
      have hP : va_P (dC, dI) vwCl [oM aM aMM aML aMY aMT aMR aMB aMN mk mp, aI aMM cZ 36 fMM, aI aMB cI 60 fMB] H := hP.sub [0, 1, 2] rfl
      have hD : va_D A [oM aM aMM aML aMY aMT aMR aMB aMN mk mp, aI aMM cZ 36 fMM, aI aMB cI 60 fMB] := hD.sub [0, 1, 2] rfl rfl
      refine lv_if_eq (tgt := 25) hx hb dX3_faults_18 (by decide) (fun q18 => ?_) (fun q18 => ?_)
      · have h := h.1 q18
        refine lv_iconst (v := 0) hx hb dX3_faults_25 (by decide) ?_
        refine lv_iadd hx hb dX3_faults_26 ?_
        refine lv_topi (fun v27 ev27 => ?_)
        have h := h v27 ev27
        refine lv_istore_n (lv' := [(1, .int v27), (0, .ref aM), (2, .int x2)]) hx hb dX3_faults_27 rfl hl (by decide) rfl (fun ls hl => ?_)
        obtain ⟨v28, ev28⟩ : ∃ y : Int32, y = x2 + (1 : Int32) := ⟨_, rfl⟩
        have h := h v28 ev28
        refine lv_iinc (v := v28) (lv' := [(2, .int v28), (1, .int v27), (0, .ref aM)]) hx hb dX3_faults_28 hl (k := 2) rfl (by rw [ev28]; rfl) (by decide) rfl (fun ls hl => ?_)
        refine lv_goto (tgt := 4) hx hb dX3_faults_31 (by decide) ?_
        exact h H locs ls hP hD hS (lv_sub hl [2, 1, 0] rfl)
      · have h := h.2 q18
        refine lv_iconst (v := 1) hx hb dX3_faults_21 (by decide) ?_
        refine lv_goto (tgt := 26) hx hb dX3_faults_22 (by decide) ?_
        refine lv_iadd hx hb dX3_faults_26 ?_
        refine lv_topi (fun v27 ev27 => ?_)
        have h := h v27 ev27
        refine lv_istore_n (lv' := [(1, .int v27), (0, .ref aM), (2, .int x2)]) hx hb dX3_faults_27 rfl hl (by decide) rfl (fun ls hl => ?_)
        obtain ⟨v28, ev28⟩ : ∃ y : Int32, y = x2 + (1 : Int32) := ⟨_, rfl⟩
        have h := h v28 ev28
        refine lv_iinc (v := v28) (lv' := [(2, .int v28), (1, .int v27), (0, .ref aM)]) hx hb dX3_faults_28 hl (k := 2) rfl (by rw [ev28]; rfl) (by decide) rfl (fun ls hl => ?_)
        refine lv_goto (tgt := 4) hx hb dX3_faults_31 (by decide) ?_
        exact h H locs ls hP hD hS (lv_sub hl [2, 1, 0] rfl)
  unfold wp_X3_faults at h
  intro H locs ls hP hD hS hl
  refine lv_iconst (v := 0) hx hb dX3_faults_0 (by decide) ?_
  refine lv_istore_n (lv' := [(1, .int (0 : Int32)), (0, .ref aM)]) hx hb dX3_faults_1 rfl hl (by decide) rfl (fun ls hl => ?_)
  refine lv_iconst (v := 0) hx hb dX3_faults_2 (by decide) ?_
  refine lv_istore_n (lv' := [(2, .int (0 : Int32)), (1, .int (0 : Int32)), (0, .ref aM)]) hx hb dX3_faults_3 rfl hl (by decide) rfl (fun ls hl => ?_)
  exact B4 _ _ h H locs ls hP hD hS (lv_sub hl [2, 1, 0] rfl)
set_option maxHeartbeats 4000000 in
set_option maxRecDepth 100000 in
theorem c_X3_faults {l : Launch} {dC : Nat → ClassId} {dI : Nat → Nat → Nat} {cI cJ cZ : ClassId} {aM aMM aML aMY aMT aMR aMB aMN : Nat} {mk : Int32} {mp : Int32} {fMM : (Nat → Int32)} {fMB : (Nat → Int32)}  {post : Int32 → Prop} (h : wp_X3_faults  mk mp fMM fMB post) : ∀ sz, Met l yX3_faults wsX3_faults rm_X3_faults (mP (dC, dI) (mTy cI cJ cZ) [.ref aM] [oM aM aMM aML aMY aMT aMR aMB aMN mk mp, aI aMM cZ 36 fMM, aI aMB cI 60 fMB] sz) (va_Qi (fun (r : Int32) (u : Unit) => post r ) (mB (dC, dI) (va_A [oM aM aMM aML aMY aMT aMR aMB aMN mk mp, aI aMM cZ 36 fMM, aI aMB cI 60 fMB] sz) (fun u => [oM aM aMM aML aMY aMT aMR aMB aMN mk mp, aI aMM cZ 36 fMM, aI aMB cI 60 fMB])) (va_A [oM aM aMM aML aMY aMT aMR aMB aMN mk mp, aI aMM cZ 36 fMM, aI aMB cI 60 fMB] sz)) 0 0 (va_A [oM aM aMM aML aMY aMT aMR aMB aMN mk mp, aI aMM cZ 36 fMM, aI aMB cI 60 fMB] sz) := by
  intro sz
  refine Met.ofW (cc := cX3_faults) (maxL := 3) (ret := (some .int)) (by decide) rfl ?_
  intro p e s m args below meth c s₁ B hml hv
  obtain ⟨rfl, hsz, hP, hK, hD0⟩ := hv
  have hlocks := B.notSynchronized
  subst hsz
  have hD := hD0.self (sz := s.heap.size)
  have hl := lv_entry ([.ref aM]) (n := 3) (Nat.le_of_ble_eq_true rfl)
  rw [lg_entry_eq]
  exact k_X3_faults B.exec B.bytes hml (findClass_of_methodNamed B.named) (atoms_spec (ws := wsX3_faults) B.pre) hK (fun q hq => Or.inr hq) (fun r H locs ls pc hd hp hP hD hS => W.iret B.exec B.bytes B.returns (fun t ht hW => ⟨⟨r, (), rfl, hp, by rw [ht]; exact hP, hD⟩, hS.F ht⟩) hS.2.2 hd) h s.heap [] _ hP hD va_S.rf hl

def wp_X3_fault_b12 (x1 : Int32) (x2 : Int32) (mk : Int32) (mp : Int32) (fMM : (Nat → Int32)) (fMB : (Nat → Int32)) (post : Int32 → Prop)  : Prop := ∀ P12 : Int32 → Prop, (∀ (x2 : Int32), ((mp ≤ x2 → post (-9 : Int32)) ∧ (¬ mp ≤ x2 → wp_X3_place (x1 + x2) mk mp (fun (r25 : Int32) => wp_X3_isFault r25 mk mp fMM fMB (fun (r28 : Int32) => ((r28 = (0 : Int32) → (∀ v42 : Int32, v42 = x2 + (1 : Int32) → P12 v42)) ∧ (¬ r28 = (0 : Int32) → wp_X3_place (x1 + x2) mk mp (fun (r38 : Int32) => post r38))))))) → P12 x2) → P12 x2
def wp_X3_fault (x1 : Int32) (mk : Int32) (mp : Int32) (fMM : (Nat → Int32)) (fMB : (Nat → Int32)) (post : Int32 → Prop) : Prop := wp_X3_isPost x1 mk mp (fun (r2 : Int32) => ((¬ r2 = (0 : Int32) → wp_X3_fault_b12 x1 (0 : Int32) mk mp fMM fMB post) ∧ (r2 = (0 : Int32) → post (-1 : Int32))))
abbrev rm_X3_fault : Room := { frames := 2, cells := 0, slots := 0, locals := 43 }
theorem hv_X3_fault : yX3_fault.cls = RX3 ∧ yX3_fault.cls ≠ "java/lang/invoke/MethodHandle" ∧ yX3_fault.cls ≠ "java/lang/invoke/VarHandle" ∧ (parseMethodDescriptor yX3_fault.desc).map (fun d => d.parameters.length) = some 1 := by decide +kernel
set_option maxHeartbeats 4000000 in
set_option maxRecDepth 100000 in
theorem k_X3_fault {p : Program} {l : Launch} {e : Env} {s : State} {m : MethodId} {args : Array Value} {below : List Frame} {meth : Method} {c : Code} {Q : State → Prop} {A : Nat → Prop} {dC : Nat → ClassId} {dI : Nat → Nat → Nat} {cI cJ cZ : ClassId} (hx : p.tables.exec = Jvm.exec) (hb : c.code = cX3_fault) (hml : c.maxLocals = 3) (hown : s.vm.findClass RX3 = some m.cls) (hts : ∀ w ∈ wsX3_fault, w.before args s = true) (hK : va_K (dC, dI) vwCl (mTy cI cJ cZ) s) (hA : ∀ q, s.heap.size ≤ q → A q) {aM aMM aML aMY aMT aMR aMB aMN : Nat} {mk : Int32} {mp : Int32} {fMM : (Nat → Int32)} {fMB : (Nat → Int32)} {x1 : Int32} {post : Int32 → Prop} (ret : ∀ (r : Int32) (H : Heap) (locs : List Loc) (ls : Array Slot) (pc : Nat), decode cX3_fault pc = .ok (.ireturn, 1) → post r → va_P (dC, dI) vwCl [oM aM aMM aML aMY aMT aMR aMB aMN mk mp, aI aMM cZ 36 fMM, aI aMB cI 60 fMB] H → va_D A [oM aM aMM aML aMY aMT aMR aMB aMN mk mp, aI aMM cZ 36 fMM, aI aMB cI 60 fMB] → va_S A s.heap H locs → W p l e rm_X3_fault s m args below meth c H locs 0 0 Q (F0 m pc ls [.int r])) (h : wp_X3_fault x1 mk mp fMM fMB post) : mW p l e rm_X3_fault s m args below meth c 0 0 Q A (dC, dI) 3 [oM aM aMM aML aMY aMT aMR aMB aMN mk mp, aI aMM cZ 36 fMM, aI aMB cI 60 fMB] [(0, .ref aM), (1, .int x1)] 0 [] := by
  have in_X3 : ∀ w ∈ wsX30, w ∈ wsX3_fault := fun w hw => List.mem_cons_of_mem _ (List.mem_append_right _ hw)
  have k_102 := hts (.fieldLink RX3 102 "RingTasksModel" "posts" "I") (List.mem_of_getElem? (i := 1) rfl)
  have B12 : ∀ (x1 : Int32) (x2 : Int32), wp_X3_fault_b12 x1 x2 mk mp fMM fMB post → mW p l e rm_X3_fault s m args below meth c 0 0 Q A (dC, dI) 3 [oM aM aMM aML aMY aMT aMR aMB aMN mk mp, aI aMM cZ 36 fMM, aI aMB cI 60 fMB] [(0, .ref aM), (1, .int x1), (2, .int x2)] 12 [] := by
    intro x1 x2 h
    unfold wp_X3_fault_b12 at h
    refine h (fun (x2 : Int32) => mW p l e rm_X3_fault s m args below meth c 0 0 Q A (dC, dI) 3 [oM aM aMM aML aMY aMT aMR aMB aMN mk mp, aI aMM cZ 36 fMM, aI aMB cI 60 fMB] [(0, .ref aM), (1, .int x1), (2, .int x2)] 12 []) ?_
    intro x2 h
    intro H locs ls hP hD hS hl
    refine lv_iload_n hx hb dX3_fault_12 rfl (lv_at hl 2 rfl) ?_
    refine lv_aload_n hx hb dX3_fault_13 rfl (lv_at hl 0 rfl) ?_
    refine va_get (D := (dC, dI)) (ci := 3) (v := .int mp) (C := RX3) (T := TX3) (N := 9) hx hb hts in_X3 hown hK hP 0 rfl rfl 6 (by decide) k_102 (fun _ h9 => h9) rfl dX3_fault_14 ?_
    refine lv_icmp_ge (tgt := 48) hx hb dX3_fault_17 (by decide) (fun q17 => ?_) (fun q17 => ?_)
    · have h := h.1 q17
      refine lv_bipush (v := -9) hx hb dX3_fault_48 (by decide) ?_
      exact ret _  H locs ls _ dX3_fault_50 h hP hD hS
    · have h := h.2 q17
      refine lv_aload_n hx hb dX3_fault_20 rfl (lv_at hl 0 rfl) ?_
      refine lv_aload_n hx hb dX3_fault_21 rfl (lv_at hl 0 rfl) ?_
      refine lv_iload_n hx hb dX3_fault_22 rfl (lv_at hl 1 rfl) ?_
      refine lv_iload_n hx hb dX3_fault_23 rfl (lv_at hl 2 rfl) ?_
      refine lv_iadd hx hb dX3_fault_24 ?_
      refine mVi (wr := [aI aMM cZ 36 fMM, aI aMB cI 60 fMB]) (As := [.int (x1 + x2)]) (rest := [.ref aM]) ⟨hx, hb, hml, hown, hts⟩ (c_X3_place (l := l) (dC := dC) (dI := dI) (cI := cI) (cJ := cJ) (cZ := cZ) (aM := aM) (aMM := aMM) (aML := aML) (aMY := aMY) (aMT := aMT) (aMR := aMR) (aMB := aMB) (aMN := aMN) h) (cwV 1 hts gX3_fault_X3_place rfl rfl rfl hv_X3_place ⟨Nat.le_of_ble_eq_true rfl, Nat.le_of_ble_eq_true rfl⟩) hK hP hD hS hA [0] [1, 2] rfl rfl rfl rfl (by decide) 3 rfl rfl rfl rfl hl.1 rfl (Nat.le_of_ble_eq_true rfl) ⟨Nat.zero_le _, Nat.zero_le _⟩ dX3_fault_25 (fun r25 u25 H locs h hP hD hS => ?_)
      have hP : va_P (dC, dI) vwCl [oM aM aMM aML aMY aMT aMR aMB aMN mk mp, aI aMM cZ 36 fMM, aI aMB cI 60 fMB] H := hP.sub [2, 0, 1] rfl
      have hD : va_D A [oM aM aMM aML aMY aMT aMR aMB aMN mk mp, aI aMM cZ 36 fMM, aI aMB cI 60 fMB] := hD.sub [2, 0, 1] rfl rfl
      refine mVi (wr := []) (As := [.int r25]) (rest := []) ⟨hx, hb, hml, hown, hts⟩ (c_X3_isFault (l := l) (dC := dC) (dI := dI) (cI := cI) (cJ := cJ) (cZ := cZ) (aM := aM) (aMM := aMM) (aML := aML) (aMY := aMY) (aMT := aMT) (aMR := aMR) (aMB := aMB) (aMN := aMN) h) (cwV 1 hts gX3_fault_X3_isFault rfl rfl rfl hv_X3_isFault ⟨Nat.le_of_ble_eq_true rfl, Nat.le_of_ble_eq_true rfl⟩) hK hP hD hS hA [0, 1, 2] [] rfl rfl rfl rfl (by decide) 3 rfl rfl rfl rfl hl.1 rfl (Nat.le_of_ble_eq_true rfl) ⟨Nat.zero_le _, Nat.zero_le _⟩ dX3_fault_28 (fun r28 u28 H locs h hP hD hS => ?_)
      have hP : va_P (dC, dI) vwCl [oM aM aMM aML aMY aMT aMR aMB aMN mk mp, aI aMM cZ 36 fMM, aI aMB cI 60 fMB] H := hP.sub [0, 1, 2] rfl
      have hD : va_D A [oM aM aMM aML aMY aMT aMR aMB aMN mk mp, aI aMM cZ 36 fMM, aI aMB cI 60 fMB] := hD.sub [0, 1, 2] rfl rfl
      refine lv_if_eq (tgt := 42) hx hb dX3_fault_31 (by decide) (fun q31 => ?_) (fun q31 => ?_)
      · have h := h.1 q31
        obtain ⟨v42, ev42⟩ : ∃ y : Int32, y = x2 + (1 : Int32) := ⟨_, rfl⟩
        have h := h v42 ev42
        refine lv_iinc (v := v42) (lv' := [(2, .int v42), (0, .ref aM), (1, .int x1)]) hx hb dX3_fault_42 hl (k := 2) rfl (by rw [ev42]; rfl) (by decide) rfl (fun ls hl => ?_)
        refine lv_goto (tgt := 12) hx hb dX3_fault_45 (by decide) ?_
        exact h H locs ls hP hD hS (lv_sub hl [1, 2, 0] rfl)
      · have h := h.2 q31
        refine lv_aload_n hx hb dX3_fault_34 rfl (lv_at hl 0 rfl) ?_
        refine lv_iload_n hx hb dX3_fault_35 rfl (lv_at hl 1 rfl) ?_
        refine lv_iload_n hx hb dX3_fault_36 rfl (lv_at hl 2 rfl) ?_
        refine lv_iadd hx hb dX3_fault_37 ?_
        refine mVi (wr := [aI aMM cZ 36 fMM, aI aMB cI 60 fMB]) (As := [.int (x1 + x2)]) (rest := []) ⟨hx, hb, hml, hown, hts⟩ (c_X3_place (l := l) (dC := dC) (dI := dI) (cI := cI) (cJ := cJ) (cZ := cZ) (aM := aM) (aMM := aMM) (aML := aML) (aMY := aMY) (aMT := aMT) (aMR := aMR) (aMB := aMB) (aMN := aMN) h) (cwV 1 hts gX3_fault_X3_place rfl rfl rfl hv_X3_place ⟨Nat.le_of_ble_eq_true rfl, Nat.le_of_ble_eq_true rfl⟩) hK hP hD hS hA [0] [1, 2] rfl rfl rfl rfl (by decide) 3 rfl rfl rfl rfl hl.1 rfl (Nat.le_of_ble_eq_true rfl) ⟨Nat.zero_le _, Nat.zero_le _⟩ dX3_fault_38 (fun r38 u38 H locs h hP hD hS => ?_)
        have hP : va_P (dC, dI) vwCl [oM aM aMM aML aMY aMT aMR aMB aMN mk mp, aI aMM cZ 36 fMM, aI aMB cI 60 fMB] H := hP.sub [2, 0, 1] rfl
        have hD : va_D A [oM aM aMM aML aMY aMT aMR aMB aMN mk mp, aI aMM cZ 36 fMM, aI aMB cI 60 fMB] := hD.sub [2, 0, 1] rfl rfl
        exact ret _  H locs ls _ dX3_fault_41 h hP hD hS
  unfold wp_X3_fault at h
  intro H locs ls hP hD hS hl
  refine lv_aload_n hx hb dX3_fault_0 rfl (lv_at hl 0 rfl) ?_
  refine lv_iload_n hx hb dX3_fault_1 rfl (lv_at hl 1 rfl) ?_
  refine mVi (wr := [aI aMM cZ 36 fMM, aI aMB cI 60 fMB]) (As := [.int x1]) (rest := []) ⟨hx, hb, hml, hown, hts⟩ (c_X3_isPost (l := l) (dC := dC) (dI := dI) (cI := cI) (cJ := cJ) (cZ := cZ) (aM := aM) (aMM := aMM) (aML := aML) (aMY := aMY) (aMT := aMT) (aMR := aMR) (aMB := aMB) (aMN := aMN) h) (cwV 1 hts gX3_fault_X3_isPost rfl rfl rfl hv_X3_isPost ⟨Nat.le_of_ble_eq_true rfl, Nat.le_of_ble_eq_true rfl⟩) hK hP hD hS hA [0] [1, 2] rfl rfl rfl rfl (by decide) 3 rfl rfl rfl rfl hl.1 rfl (Nat.le_of_ble_eq_true rfl) ⟨Nat.zero_le _, Nat.zero_le _⟩ dX3_fault_2 (fun r2 u2 H locs h hP hD hS => ?_)
  have hP : va_P (dC, dI) vwCl [oM aM aMM aML aMY aMT aMR aMB aMN mk mp, aI aMM cZ 36 fMM, aI aMB cI 60 fMB] H := hP.sub [2, 0, 1] rfl
  have hD : va_D A [oM aM aMM aML aMY aMT aMR aMB aMN mk mp, aI aMM cZ 36 fMM, aI aMB cI 60 fMB] := hD.sub [2, 0, 1] rfl rfl
  refine lv_if_ne (tgt := 10) hx hb dX3_fault_5 (by decide) (fun q5 => ?_) (fun q5 => ?_)
  · have h := h.1 q5
    refine lv_iconst (v := 0) hx hb dX3_fault_10 (by decide) ?_
    refine lv_istore_n (lv' := [(2, .int (0 : Int32)), (0, .ref aM), (1, .int x1)]) hx hb dX3_fault_11 rfl hl (by decide) rfl (fun ls hl => ?_)
    exact B12 _ _ h H locs ls hP hD hS (lv_sub hl [1, 2, 0] rfl)
  · have h := h.2 q5
    refine lv_iconst (v := -1) hx hb dX3_fault_8 (by decide) ?_
    exact ret _  H locs ls _ dX3_fault_9 h hP hD hS
set_option maxHeartbeats 4000000 in
set_option maxRecDepth 100000 in
theorem c_X3_fault {l : Launch} {dC : Nat → ClassId} {dI : Nat → Nat → Nat} {cI cJ cZ : ClassId} {aM aMM aML aMY aMT aMR aMB aMN : Nat} {mk : Int32} {mp : Int32} {fMM : (Nat → Int32)} {fMB : (Nat → Int32)} {x1 : Int32} {post : Int32 → Prop} (h : wp_X3_fault x1 mk mp fMM fMB post) : ∀ sz, Met l yX3_fault wsX3_fault rm_X3_fault (mP (dC, dI) (mTy cI cJ cZ) [.ref aM, .int x1] [oM aM aMM aML aMY aMT aMR aMB aMN mk mp, aI aMM cZ 36 fMM, aI aMB cI 60 fMB] sz) (va_Qi (fun (r : Int32) (u : Unit) => post r ) (mB (dC, dI) (va_A [oM aM aMM aML aMY aMT aMR aMB aMN mk mp, aI aMM cZ 36 fMM, aI aMB cI 60 fMB] sz) (fun u => [oM aM aMM aML aMY aMT aMR aMB aMN mk mp, aI aMM cZ 36 fMM, aI aMB cI 60 fMB])) (va_A [oM aM aMM aML aMY aMT aMR aMB aMN mk mp, aI aMM cZ 36 fMM, aI aMB cI 60 fMB] sz)) 0 0 (va_A [oM aM aMM aML aMY aMT aMR aMB aMN mk mp, aI aMM cZ 36 fMM, aI aMB cI 60 fMB] sz) := by
  intro sz
  refine Met.ofW (cc := cX3_fault) (maxL := 3) (ret := (some .int)) (by decide) rfl ?_
  intro p e s m args below meth c s₁ B hml hv
  obtain ⟨rfl, hsz, hP, hK, hD0⟩ := hv
  have hlocks := B.notSynchronized
  subst hsz
  have hD := hD0.self (sz := s.heap.size)
  have hl := lv_entry ([.ref aM, .int x1]) (n := 3) (Nat.le_of_ble_eq_true rfl)
  rw [lg_entry_eq]
  exact k_X3_fault B.exec B.bytes hml (findClass_of_methodNamed B.named) (atoms_spec (ws := wsX3_fault) B.pre) hK (fun q hq => Or.inr hq) (fun r H locs ls pc hd hp hP hD hS => W.iret B.exec B.bytes B.returns (fun t ht hW => ⟨⟨r, (), rfl, hp, by rw [ht]; exact hP, hD⟩, hS.F ht⟩) hS.2.2 hd) h s.heap [] _ hP hD va_S.rf hl

def wp_X3_layBetween_b81 (x3 : Int32) (x4 : Int32) (x5 : Int32) (x6 : Int32) (z0 : Int32) (mk : Int32) (mp : Int32) (fMM : (Nat → Int32)) (fML : (Nat → Int64)) (fMR : (Nat → Int32)) (fMB : (Nat → Int32)) (post : Int32 → (Nat → Int64) → (Nat → Int32) → Prop) (P55 : Int32 → (Nat → Int32) → Prop) : Prop := wp_X3_next z0 (x3 - x6) x5 mk mp fMM fML (fun (r87 : Int32) => ((¬ r87 = (-9 : Int32) → (vp_in x6 60 ∧ (∀ fMR_109 : (Nat → Int32), fMR_109 = upd fMR x6.toNatClampNeg r87 → (∀ v110 : Int32, v110 = x6 + (1 : Int32) → P55 v110 fMR_109)))) ∧ (r87 = (-9 : Int32) → post (0 : Int32) fML fMR)))
def wp_X3_layBetween_b55 (x3 : Int32) (x4 : Int32) (x5 : Int32) (x6 : Int32) (mk : Int32) (mp : Int32) (fMM : (Nat → Int32)) (fML : (Nat → Int64)) (fMR : (Nat → Int32)) (fMB : (Nat → Int32)) (post : Int32 → (Nat → Int64) → (Nat → Int32) → Prop)  : Prop := ∀ P55 : Int32 → (Nat → Int32) → Prop, (∀ (x6 : Int32) (fMR : (Nat → Int32)), ((x3 ≤ x6 → post (1 : Int32) fML fMR) ∧ (¬ x3 ≤ x6 → ((¬ x6 = (0 : Int32) → (vp_in (x6 - (1 : Int32)) 60 ∧ wp_X3_layBetween_b81 x3 x4 x5 x6 (fMR (x6 - (1 : Int32)).toNatClampNeg) mk mp fMM fML fMR fMB post P55)) ∧ (x6 = (0 : Int32) → wp_X3_layBetween_b81 x3 x4 x5 x6 x4 mk mp fMM fML fMR fMB post P55)))) → P55 x6 fMR) → P55 x6 fMR
def wp_X3_layBetween (x1 : Int32) (x2 : Int32) (mk : Int32) (mp : Int32) (fMM : (Nat → Int32)) (fML : (Nat → Int64)) (fMR : (Nat → Int32)) (fMB : (Nat → Int32)) (post : Int32 → (Nat → Int64) → (Nat → Int32) → Prop) : Prop := (∀ v5 : Int32, v5 = (((2 : Int32) * x2) + (1 : Int32)) → ((¬ v5 = mp → wp_X3_place ((x1 - x2) - (1 : Int32)) mk mp (fun (r30 : Int32) => (vp_in r30 60 ∧ (∀ v34 : Int32, v34 = (fMB r30.toNatClampNeg) → wp_X3_place ((x1 + x2) + (1 : Int32)) mk mp (fun (r46 : Int32) => (vp_in r46 60 ∧ (∀ v50 : Int32, v50 = (fMB r46.toNatClampNeg) → wp_X3_layBetween_b55 v5 v34 v50 (0 : Int32) mk mp fMM fML fMR fMB post))))))) ∧ (v5 = mp → wp_X3_layRing v5 mk mp fMM fML fMR (fun (r16 : Int32) (fML_16 : (Nat → Int64)) (fMR_16 : (Nat → Int32)) => ((r16 = 0 ∨ r16 = 1) ∧ post r16 fML_16 fMR_16)))))
abbrev rm_X3_layBetween : Room := { frames := 3, cells := 0, slots := 0, locals := 70 }
theorem hv_X3_layBetween : yX3_layBetween.cls = RX3 ∧ yX3_layBetween.cls ≠ "java/lang/invoke/MethodHandle" ∧ yX3_layBetween.cls ≠ "java/lang/invoke/VarHandle" ∧ (parseMethodDescriptor yX3_layBetween.desc).map (fun d => d.parameters.length) = some 2 := by decide +kernel
set_option maxHeartbeats 4000000 in
set_option maxRecDepth 100000 in
theorem k_X3_layBetween {p : Program} {l : Launch} {e : Env} {s : State} {m : MethodId} {args : Array Value} {below : List Frame} {meth : Method} {c : Code} {Q : State → Prop} {A : Nat → Prop} {dC : Nat → ClassId} {dI : Nat → Nat → Nat} {cI cJ cZ : ClassId} (hx : p.tables.exec = Jvm.exec) (hb : c.code = cX3_layBetween) (hml : c.maxLocals = 8) (hown : s.vm.findClass RX3 = some m.cls) (hts : ∀ w ∈ wsX3_layBetween, w.before args s = true) (hK : va_K (dC, dI) vwCl (mTy cI cJ cZ) s) (hA : ∀ q, s.heap.size ≤ q → A q) {aM aMM aML aMY aMT aMR aMB aMN : Nat} {mk : Int32} {mp : Int32} {fMM : (Nat → Int32)} {fML : (Nat → Int64)} {fMR : (Nat → Int32)} {fMB : (Nat → Int32)} {x1 : Int32} {x2 : Int32} {post : Int32 → (Nat → Int64) → (Nat → Int32) → Prop} (ret : ∀ (r : Int32) (fML' : (Nat → Int64)) (fMR' : (Nat → Int32)) (H : Heap) (locs : List Loc) (ls : Array Slot) (pc : Nat), decode cX3_layBetween pc = .ok (.ireturn, 1) → (r = 0 ∨ r = 1) → post r fML' fMR' → va_P (dC, dI) vwCl [oM aM aMM aML aMY aMT aMR aMB aMN mk mp, aI aMM cZ 36 fMM, aJ aML cJ 61 fML', aI aMR cI 60 fMR', aI aMB cI 60 fMB] H → va_D A [oM aM aMM aML aMY aMT aMR aMB aMN mk mp, aI aMM cZ 36 fMM, aJ aML cJ 61 fML', aI aMR cI 60 fMR', aI aMB cI 60 fMB] → va_S A s.heap H locs → W p l e rm_X3_layBetween s m args below meth c H locs 0 0 Q (F0 m pc ls [.int r])) (h : wp_X3_layBetween x1 x2 mk mp fMM fML fMR fMB post) : mW p l e rm_X3_layBetween s m args below meth c 0 0 Q A (dC, dI) 8 [oM aM aMM aML aMY aMT aMR aMB aMN mk mp, aI aMM cZ 36 fMM, aJ aML cJ 61 fML, aI aMR cI 60 fMR, aI aMB cI 60 fMB] [(0, .ref aM), (1, .int x1), (2, .int x2)] 0 [] := by
  have in_X3 : ∀ w ∈ wsX30, w ∈ wsX3_layBetween := fun w hw => List.mem_cons_of_mem _ (List.mem_append_right _ hw)
  have k_102 := hts (.fieldLink RX3 102 "RingTasksModel" "posts" "I") (List.mem_of_getElem? (i := 1) rfl)
  have k_23 := hts (.fieldLink RX3 23 "RingTasksModel" "row" "[I") (List.mem_of_getElem? (i := 3) rfl)
  have k_27 := hts (.fieldLink RX3 27 "RingTasksModel" "label" "[I") (List.mem_of_getElem? (i := 2) rfl)
  have B81 : ∀ (x3 : Int32) (x4 : Int32) (x5 : Int32) (x6 : Int32) (z0 : Int32) (fML : (Nat → Int64)) (fMR : (Nat → Int32)), ∀ (P55 : Int32 → (Nat → Int32) → Prop) (hP55 : ∀ (x6 : Int32) (fMR : (Nat → Int32)), P55 x6 fMR → mW p l e rm_X3_layBetween s m args below meth c 0 0 Q A (dC, dI) 8 [oM aM aMM aML aMY aMT aMR aMB aMN mk mp, aI aMM cZ 36 fMM, aJ aML cJ 61 fML, aI aMR cI 60 fMR, aI aMB cI 60 fMB] [(0, .ref aM), (3, .int x3), (4, .int x4), (5, .int x5), (6, .int x6)] 55 []), wp_X3_layBetween_b81 x3 x4 x5 x6 z0 mk mp fMM fML fMR fMB post P55 → mW p l e rm_X3_layBetween s m args below meth c 0 0 Q A (dC, dI) 8 [oM aM aMM aML aMY aMT aMR aMB aMN mk mp, aI aMM cZ 36 fMM, aJ aML cJ 61 fML, aI aMR cI 60 fMR, aI aMB cI 60 fMB] [(0, .ref aM), (3, .int x3), (4, .int x4), (5, .int x5), (6, .int x6)] 81 [.int z0, .ref aM] := by
    intro x3 x4 x5 x6 z0 fML fMR P55 hP55 h
    unfold wp_X3_layBetween_b81 at h
    intro H locs ls hP hD hS hl
    refine lv_iload_n hx hb dX3_layBetween_81 rfl (lv_at hl 1 rfl) ?_
    refine lv_iload hx hb dX3_layBetween_82 (lv_at hl 4 rfl) ?_
    refine lv_isub hx hb dX3_layBetween_84 ?_
    refine lv_iload hx hb dX3_layBetween_85 (lv_at hl 3 rfl) ?_
    refine mVi (wr := [aI aMR cI 60 fMR, aI aMB cI 60 fMB]) (As := [.int z0, .int (x3 - x6), .int x5]) (rest := []) ⟨hx, hb, hml, hown, hts⟩ (c_X3_next (l := l) (dC := dC) (dI := dI) (cI := cI) (cJ := cJ) (cZ := cZ) (aM := aM) (aMM := aMM) (aML := aML) (aMY := aMY) (aMT := aMT) (aMR := aMR) (aMB := aMB) (aMN := aMN) h) (cwV 3 hts gX3_layBetween_X3_next rfl rfl rfl hv_X3_next ⟨Nat.le_of_ble_eq_true rfl, Nat.le_of_ble_eq_true rfl⟩) hK hP hD hS hA [0, 1, 2] [3, 4] rfl rfl rfl rfl (by decide) 3 rfl rfl rfl rfl hl.1 rfl (Nat.le_of_ble_eq_true rfl) ⟨Nat.zero_le _, Nat.zero_le _⟩ dX3_layBetween_87 (fun r87 u87 H locs h hP hD hS => ?_)
    have hP : va_P (dC, dI) vwCl [oM aM aMM aML aMY aMT aMR aMB aMN mk mp, aI aMM cZ 36 fMM, aJ aML cJ 61 fML, aI aMR cI 60 fMR, aI aMB cI 60 fMB] H := hP.sub [2, 3, 4, 0, 1] rfl
    have hD : va_D A [oM aM aMM aML aMY aMT aMR aMB aMN mk mp, aI aMM cZ 36 fMM, aJ aML cJ 61 fML, aI aMR cI 60 fMR, aI aMB cI 60 fMB] := hD.sub [2, 3, 4, 0, 1] rfl rfl
    refine lv_istore (lv' := [(7, .int r87), (0, .ref aM), (3, .int x3), (4, .int x4), (5, .int x5), (6, .int x6)]) hx hb dX3_layBetween_90 hl (by decide) rfl (fun ls hl => ?_)
    refine lv_iload hx hb dX3_layBetween_92 (lv_at hl 0 rfl) ?_
    refine lv_bipush (v := -9) hx hb dX3_layBetween_94 (by decide) ?_
    refine lv_icmp_ne (tgt := 101) hx hb dX3_layBetween_96 (by decide) (fun q96 => ?_) (fun q96 => ?_)
    · have h := h.1 q96
      refine lv_aload_n hx hb dX3_layBetween_101 rfl (lv_at hl 1 rfl) ?_
      refine va_get (D := (dC, dI)) (ci := 3) (v := .ref aMR) (C := RX3) (T := TX3) (N := 9) hx hb hts in_X3 hown hK hP 0 rfl rfl 5 (by decide) k_23 (fun _ h9 => h9) rfl dX3_layBetween_102 ?_
      refine lv_iload hx hb dX3_layBetween_105 (lv_at hl 5 rfl) ?_
      refine lv_iload hx hb dX3_layBetween_107 (lv_at hl 0 rfl) ?_
      refine va_iast (D := (dC, dI)) hx hb hK hP hD hS 3 0 rfl rfl h.1 dX3_layBetween_109 (fun H locs hP hD hS => ?_)
      obtain ⟨fMR_109, efMR_109⟩ : ∃ y, y = upd fMR x6.toNatClampNeg r87 := ⟨_, rfl⟩
      have h := h.2 fMR_109 efMR_109
      have hP : va_P (dC, dI) vwCl [oM aM aMM aML aMY aMT aMR aMB aMN mk mp, aI aMM cZ 36 fMM, aJ aML cJ 61 fML, aI aMR cI 60 fMR_109, aI aMB cI 60 fMB] H := by rw [efMR_109]; exact hP
      have hD : va_D A [oM aM aMM aML aMY aMT aMR aMB aMN mk mp, aI aMM cZ 36 fMM, aJ aML cJ 61 fML, aI aMR cI 60 fMR_109, aI aMB cI 60 fMB] := by rw [efMR_109]; exact hD
      obtain ⟨v110, ev110⟩ : ∃ y : Int32, y = x6 + (1 : Int32) := ⟨_, rfl⟩
      have h := h v110 ev110
      refine lv_iinc (v := v110) (lv' := [(6, .int v110), (7, .int r87), (0, .ref aM), (3, .int x3), (4, .int x4), (5, .int x5)]) hx hb dX3_layBetween_110 hl (k := 5) rfl (by rw [ev110]; rfl) (by decide) rfl (fun ls hl => ?_)
      refine lv_goto (tgt := 55) hx hb dX3_layBetween_113 (by decide) ?_
      exact hP55 _ _ h H locs ls hP hD hS (lv_sub hl [2, 3, 4, 5, 0] rfl)
    · have h := h.2 q96
      refine lv_iconst (v := 0) hx hb dX3_layBetween_99 (by decide) ?_
      exact ret _ _ _ H locs ls _ dX3_layBetween_100 (Or.inl rfl) h hP hD hS
  have B55 : ∀ (x3 : Int32) (x4 : Int32) (x5 : Int32) (x6 : Int32) (fML : (Nat → Int64)) (fMR : (Nat → Int32)), wp_X3_layBetween_b55 x3 x4 x5 x6 mk mp fMM fML fMR fMB post → mW p l e rm_X3_layBetween s m args below meth c 0 0 Q A (dC, dI) 8 [oM aM aMM aML aMY aMT aMR aMB aMN mk mp, aI aMM cZ 36 fMM, aJ aML cJ 61 fML, aI aMR cI 60 fMR, aI aMB cI 60 fMB] [(0, .ref aM), (3, .int x3), (4, .int x4), (5, .int x5), (6, .int x6)] 55 [] := by
    intro x3 x4 x5 x6 fML fMR h
    unfold wp_X3_layBetween_b55 at h
    refine h (fun (x6 : Int32) (fMR : (Nat → Int32)) => mW p l e rm_X3_layBetween s m args below meth c 0 0 Q A (dC, dI) 8 [oM aM aMM aML aMY aMT aMR aMB aMN mk mp, aI aMM cZ 36 fMM, aJ aML cJ 61 fML, aI aMR cI 60 fMR, aI aMB cI 60 fMB] [(0, .ref aM), (3, .int x3), (4, .int x4), (5, .int x5), (6, .int x6)] 55 []) ?_
    intro x6 fMR h
    intro H locs ls hP hD hS hl
    refine lv_iload hx hb dX3_layBetween_55 (lv_at hl 4 rfl) ?_
    refine lv_iload_n hx hb dX3_layBetween_57 rfl (lv_at hl 1 rfl) ?_
    refine lv_icmp_ge (tgt := 116) hx hb dX3_layBetween_58 (by decide) (fun q58 => ?_) (fun q58 => ?_)
    · have h := h.1 q58
      refine lv_iconst (v := 1) hx hb dX3_layBetween_116 (by decide) ?_
      exact ret _ _ _ H locs ls _ dX3_layBetween_117 (Or.inr rfl) h hP hD hS
    · have h := h.2 q58
      refine lv_aload_n hx hb dX3_layBetween_61 rfl (lv_at hl 0 rfl) ?_
      refine lv_iload hx hb dX3_layBetween_62 (lv_at hl 4 rfl) ?_
      refine lv_if_ne (tgt := 72) hx hb dX3_layBetween_64 (by decide) (fun q64 => ?_) (fun q64 => ?_)
      · have h := h.1 q64
        refine lv_aload_n hx hb dX3_layBetween_72 rfl (lv_at hl 0 rfl) ?_
        refine va_get (D := (dC, dI)) (ci := 3) (v := .ref aMR) (C := RX3) (T := TX3) (N := 9) hx hb hts in_X3 hown hK hP 0 rfl rfl 5 (by decide) k_23 (fun _ h9 => h9) rfl dX3_layBetween_73 ?_
        refine lv_iload hx hb dX3_layBetween_76 (lv_at hl 4 rfl) ?_
        refine lv_iconst (v := 1) hx hb dX3_layBetween_78 (by decide) ?_
        refine lv_isub hx hb dX3_layBetween_79 ?_
        refine va_iald (D := (dC, dI)) hx hb hK hP 3 0 rfl rfl h.1 dX3_layBetween_80 ?_
        have h := h.2
        exact B81 _ _ _ _ _ _ _ _ (fun _ _ hq => hq) h H locs ls hP hD hS (lv_sub hl [0, 1, 2, 3, 4] rfl)
      · have h := h.2 q64
        refine lv_iload hx hb dX3_layBetween_67 (lv_at hl 2 rfl) ?_
        refine lv_goto (tgt := 81) hx hb dX3_layBetween_69 (by decide) ?_
        exact B81 _ _ _ _ _ _ _ _ (fun _ _ hq => hq) h H locs ls hP hD hS (lv_sub hl [0, 1, 2, 3, 4] rfl)
  unfold wp_X3_layBetween at h
  intro H locs ls hP hD hS hl
  refine lv_iconst (v := 2) hx hb dX3_layBetween_0 (by decide) ?_
  refine lv_iload_n hx hb dX3_layBetween_1 rfl (lv_at hl 2 rfl) ?_
  refine lv_imul hx hb dX3_layBetween_2 ?_
  refine lv_iconst (v := 1) hx hb dX3_layBetween_3 (by decide) ?_
  refine lv_iadd hx hb dX3_layBetween_4 ?_
  refine lv_topi (fun v5 ev5 => ?_)
  have h := h v5 ev5
  refine lv_istore_n (lv' := [(3, .int v5), (0, .ref aM), (1, .int x1), (2, .int x2)]) hx hb dX3_layBetween_5 rfl hl (by decide) rfl (fun ls hl => ?_)
  refine lv_iload_n hx hb dX3_layBetween_6 rfl (lv_at hl 0 rfl) ?_
  refine lv_aload_n hx hb dX3_layBetween_7 rfl (lv_at hl 1 rfl) ?_
  refine va_get (D := (dC, dI)) (ci := 3) (v := .int mp) (C := RX3) (T := TX3) (N := 9) hx hb hts in_X3 hown hK hP 0 rfl rfl 6 (by decide) k_102 (fun _ h9 => h9) rfl dX3_layBetween_8 ?_
  refine lv_icmp_ne (tgt := 20) hx hb dX3_layBetween_11 (by decide) (fun q11 => ?_) (fun q11 => ?_)
  · have h := h.1 q11
    refine lv_aload_n hx hb dX3_layBetween_20 rfl (lv_at hl 1 rfl) ?_
    refine va_get (D := (dC, dI)) (ci := 3) (v := .ref aMB) (C := RX3) (T := TX3) (N := 9) hx hb hts in_X3 hown hK hP 0 rfl rfl 7 (by decide) k_27 (fun _ h9 => h9) rfl dX3_layBetween_21 ?_
    refine lv_aload_n hx hb dX3_layBetween_24 rfl (lv_at hl 1 rfl) ?_
    refine lv_iload_n hx hb dX3_layBetween_25 rfl (lv_at hl 2 rfl) ?_
    refine lv_iload_n hx hb dX3_layBetween_26 rfl (lv_at hl 3 rfl) ?_
    refine lv_isub hx hb dX3_layBetween_27 ?_
    refine lv_iconst (v := 1) hx hb dX3_layBetween_28 (by decide) ?_
    refine lv_isub hx hb dX3_layBetween_29 ?_
    refine mVi (wr := [aI aMM cZ 36 fMM, aJ aML cJ 61 fML, aI aMR cI 60 fMR, aI aMB cI 60 fMB]) (As := [.int ((x1 - x2) - (1 : Int32))]) (rest := [.ref aMB]) ⟨hx, hb, hml, hown, hts⟩ (c_X3_place (l := l) (dC := dC) (dI := dI) (cI := cI) (cJ := cJ) (cZ := cZ) (aM := aM) (aMM := aMM) (aML := aML) (aMY := aMY) (aMT := aMT) (aMR := aMR) (aMB := aMB) (aMN := aMN) h) (cwV 1 hts gX3_layBetween_X3_place rfl rfl rfl hv_X3_place ⟨Nat.le_of_ble_eq_true rfl, Nat.le_of_ble_eq_true rfl⟩) hK hP hD hS hA [0] [1, 2, 3, 4] rfl rfl rfl rfl (by decide) 3 rfl rfl rfl rfl hl.1 rfl (Nat.le_of_ble_eq_true rfl) ⟨Nat.zero_le _, Nat.zero_le _⟩ dX3_layBetween_30 (fun r30 u30 H locs h hP hD hS => ?_)
    have hP : va_P (dC, dI) vwCl [oM aM aMM aML aMY aMT aMR aMB aMN mk mp, aI aMM cZ 36 fMM, aJ aML cJ 61 fML, aI aMR cI 60 fMR, aI aMB cI 60 fMB] H := hP.sub [4, 0, 1, 2, 3] rfl
    have hD : va_D A [oM aM aMM aML aMY aMT aMR aMB aMN mk mp, aI aMM cZ 36 fMM, aJ aML cJ 61 fML, aI aMR cI 60 fMR, aI aMB cI 60 fMB] := hD.sub [4, 0, 1, 2, 3] rfl rfl
    refine va_iald (D := (dC, dI)) hx hb hK hP 4 0 rfl rfl h.1 dX3_layBetween_33 ?_
    have h := h.2
    refine lv_topi (fun v34 ev34 => ?_)
    have h := h v34 ev34
    refine lv_istore (lv' := [(4, .int v34), (3, .int v5), (0, .ref aM), (1, .int x1), (2, .int x2)]) hx hb dX3_layBetween_34 hl (by decide) rfl (fun ls hl => ?_)
    refine lv_aload_n hx hb dX3_layBetween_36 rfl (lv_at hl 2 rfl) ?_
    refine va_get (D := (dC, dI)) (ci := 3) (v := .ref aMB) (C := RX3) (T := TX3) (N := 9) hx hb hts in_X3 hown hK hP 0 rfl rfl 7 (by decide) k_27 (fun _ h9 => h9) rfl dX3_layBetween_37 ?_
    refine lv_aload_n hx hb dX3_layBetween_40 rfl (lv_at hl 2 rfl) ?_
    refine lv_iload_n hx hb dX3_layBetween_41 rfl (lv_at hl 3 rfl) ?_
    refine lv_iload_n hx hb dX3_layBetween_42 rfl (lv_at hl 4 rfl) ?_
    refine lv_iadd hx hb dX3_layBetween_43 ?_
    refine lv_iconst (v := 1) hx hb dX3_layBetween_44 (by decide) ?_
    refine lv_iadd hx hb dX3_layBetween_45 ?_
    refine mVi (wr := [aI aMM cZ 36 fMM, aJ aML cJ 61 fML, aI aMR cI 60 fMR, aI aMB cI 60 fMB]) (As := [.int ((x1 + x2) + (1 : Int32))]) (rest := [.ref aMB]) ⟨hx, hb, hml, hown, hts⟩ (c_X3_place (l := l) (dC := dC) (dI := dI) (cI := cI) (cJ := cJ) (cZ := cZ) (aM := aM) (aMM := aMM) (aML := aML) (aMY := aMY) (aMT := aMT) (aMR := aMR) (aMB := aMB) (aMN := aMN) h) (cwV 1 hts gX3_layBetween_X3_place rfl rfl rfl hv_X3_place ⟨Nat.le_of_ble_eq_true rfl, Nat.le_of_ble_eq_true rfl⟩) hK hP hD hS hA [0] [1, 2, 3, 4] rfl rfl rfl rfl (by decide) 3 rfl rfl rfl rfl hl.1 rfl (Nat.le_of_ble_eq_true rfl) ⟨Nat.zero_le _, Nat.zero_le _⟩ dX3_layBetween_46 (fun r46 u46 H locs h hP hD hS => ?_)
    have hP : va_P (dC, dI) vwCl [oM aM aMM aML aMY aMT aMR aMB aMN mk mp, aI aMM cZ 36 fMM, aJ aML cJ 61 fML, aI aMR cI 60 fMR, aI aMB cI 60 fMB] H := hP.sub [4, 0, 1, 2, 3] rfl
    have hD : va_D A [oM aM aMM aML aMY aMT aMR aMB aMN mk mp, aI aMM cZ 36 fMM, aJ aML cJ 61 fML, aI aMR cI 60 fMR, aI aMB cI 60 fMB] := hD.sub [4, 0, 1, 2, 3] rfl rfl
    refine va_iald (D := (dC, dI)) hx hb hK hP 4 0 rfl rfl h.1 dX3_layBetween_49 ?_
    have h := h.2
    refine lv_topi (fun v50 ev50 => ?_)
    have h := h v50 ev50
    refine lv_istore (lv' := [(5, .int v50), (4, .int v34), (3, .int v5), (0, .ref aM), (1, .int x1), (2, .int x2)]) hx hb dX3_layBetween_50 hl (by decide) rfl (fun ls hl => ?_)
    refine lv_iconst (v := 0) hx hb dX3_layBetween_52 (by decide) ?_
    refine lv_istore (lv' := [(6, .int (0 : Int32)), (5, .int v50), (4, .int v34), (3, .int v5), (0, .ref aM), (1, .int x1), (2, .int x2)]) hx hb dX3_layBetween_53 hl (by decide) rfl (fun ls hl => ?_)
    exact B55 _ _ _ _ _ _ h H locs ls hP hD hS (lv_sub hl [4, 3, 2, 1, 0] rfl)
  · have h := h.2 q11
    refine lv_aload_n hx hb dX3_layBetween_14 rfl (lv_at hl 1 rfl) ?_
    refine lv_iload_n hx hb dX3_layBetween_15 rfl (lv_at hl 0 rfl) ?_
    refine mVi (wr := [aI aMB cI 60 fMB]) (As := [.int v5]) (rest := []) ⟨hx, hb, hml, hown, hts⟩ (c_X3_layRing (l := l) (dC := dC) (dI := dI) (cI := cI) (cJ := cJ) (cZ := cZ) (aM := aM) (aMM := aMM) (aML := aML) (aMY := aMY) (aMT := aMT) (aMR := aMR) (aMB := aMB) (aMN := aMN) h) (cwV 1 hts gX3_layBetween_X3_layRing rfl rfl rfl hv_X3_layRing ⟨Nat.le_of_ble_eq_true rfl, Nat.le_of_ble_eq_true rfl⟩) hK hP hD hS hA [0, 1, 2, 3] [4] rfl rfl rfl rfl (by decide) 3 rfl rfl rfl rfl hl.1 rfl (Nat.le_of_ble_eq_true rfl) ⟨Nat.zero_le _, Nat.zero_le _⟩ dX3_layBetween_16 (fun r16 u16 H locs h hP hD hS => ?_)
    obtain ⟨fML_16, fMR_16⟩ := u16
    have hP : va_P (dC, dI) vwCl [oM aM aMM aML aMY aMT aMR aMB aMN mk mp, aI aMM cZ 36 fMM, aJ aML cJ 61 fML_16, aI aMR cI 60 fMR_16, aI aMB cI 60 fMB] H := hP.sub [1, 2, 3, 4, 0] rfl
    have hD : va_D A [oM aM aMM aML aMY aMT aMR aMB aMN mk mp, aI aMM cZ 36 fMM, aJ aML cJ 61 fML_16, aI aMR cI 60 fMR_16, aI aMB cI 60 fMB] := hD.sub [1, 2, 3, 4, 0] rfl rfl
    exact ret _ _ _ H locs ls _ dX3_layBetween_19 h.1 h.2 hP hD hS
set_option maxHeartbeats 4000000 in
set_option maxRecDepth 100000 in
theorem c_X3_layBetween {l : Launch} {dC : Nat → ClassId} {dI : Nat → Nat → Nat} {cI cJ cZ : ClassId} {aM aMM aML aMY aMT aMR aMB aMN : Nat} {mk : Int32} {mp : Int32} {fMM : (Nat → Int32)} {fML : (Nat → Int64)} {fMR : (Nat → Int32)} {fMB : (Nat → Int32)} {x1 : Int32} {x2 : Int32} {post : Int32 → (Nat → Int64) → (Nat → Int32) → Prop} (h : wp_X3_layBetween x1 x2 mk mp fMM fML fMR fMB post) : ∀ sz, Met l yX3_layBetween wsX3_layBetween rm_X3_layBetween (mP (dC, dI) (mTy cI cJ cZ) [.ref aM, .int x1, .int x2] [oM aM aMM aML aMY aMT aMR aMB aMN mk mp, aI aMM cZ 36 fMM, aJ aML cJ 61 fML, aI aMR cI 60 fMR, aI aMB cI 60 fMB] sz) (va_Qi (fun (r : Int32) (u : (Nat → Int64) × (Nat → Int32)) => post r (u.1) (u.2)) (mB (dC, dI) (va_A [oM aM aMM aML aMY aMT aMR aMB aMN mk mp, aI aMM cZ 36 fMM, aJ aML cJ 61 fML, aI aMR cI 60 fMR, aI aMB cI 60 fMB] sz) (fun u => [oM aM aMM aML aMY aMT aMR aMB aMN mk mp, aI aMM cZ 36 fMM, aJ aML cJ 61 (u.1), aI aMR cI 60 (u.2), aI aMB cI 60 fMB])) (va_A [oM aM aMM aML aMY aMT aMR aMB aMN mk mp, aI aMM cZ 36 fMM, aJ aML cJ 61 fML, aI aMR cI 60 fMR, aI aMB cI 60 fMB] sz)) 0 0 (va_A [oM aM aMM aML aMY aMT aMR aMB aMN mk mp, aI aMM cZ 36 fMM, aJ aML cJ 61 fML, aI aMR cI 60 fMR, aI aMB cI 60 fMB] sz) := by
  intro sz
  refine Met.ofW (cc := cX3_layBetween) (maxL := 8) (ret := (some .boolean)) (by decide) rfl ?_
  intro p e s m args below meth c s₁ B hml hv
  obtain ⟨rfl, hsz, hP, hK, hD0⟩ := hv
  have hlocks := B.notSynchronized
  subst hsz
  have hD := hD0.self (sz := s.heap.size)
  have hl := lv_entry ([.ref aM, .int x1, .int x2]) (n := 8) (Nat.le_of_ble_eq_true rfl)
  rw [lg_entry_eq]
  exact k_X3_layBetween B.exec B.bytes hml (findClass_of_methodNamed B.named) (atoms_spec (ws := wsX3_layBetween) B.pre) hK (fun q hq => Or.inr hq) (fun r fML' fMR' H locs ls pc hd hz hp hP hD hS => W.zret B.exec B.bytes B.returns (m_bz hz) (fun t ht hW => ⟨⟨r, (fML', fMR'), rfl, hp, by rw [ht]; exact hP, hD⟩, hS.F ht⟩) hS.2.2 hd) h s.heap [] _ hP hD va_S.rf hl

def wp_X3_mend_b39 (x1 : Int32) (x2 : Int32) (x3 : Int32) (mk : Int32) (mp : Int32) (fMM : (Nat → Int32)) (fML : (Nat → Int64)) (fMR : (Nat → Int32)) (fMB : (Nat → Int32)) (post : Int32 → (Nat → Int64) → (Nat → Int32) → (Nat → Int32) → Prop)  : Prop := ∀ P39 : Int32 → (Nat → Int32) → Prop, (∀ (x3 : Int32) (fMB : (Nat → Int32)), ((((2 : Int32) * x2) < x3 → post x2 fML fMR fMB) ∧ (¬ ((2 : Int32) * x2) < x3 → wp_X3_place ((x1 - x2) + x3) mk mp (fun (r56 : Int32) => (vp_in x3 60 ∧ (vp_in r56 60 ∧ (∀ fMB_65 : (Nat → Int32), fMB_65 = upd fMB r56.toNatClampNeg (fMR x3.toNatClampNeg) → (∀ v66 : Int32, v66 = x3 + (1 : Int32) → P39 v66 fMB_65))))))) → P39 x3 fMB) → P39 x3 fMB
def wp_X3_mend_b16 (x1 : Int32) (x2 : Int32) (mk : Int32) (mp : Int32) (fMM : (Nat → Int32)) (fML : (Nat → Int64)) (fMR : (Nat → Int32)) (fMB : (Nat → Int32)) (post : Int32 → (Nat → Int64) → (Nat → Int32) → (Nat → Int32) → Prop)  : Prop := ∀ P16 : Int32 → (Nat → Int64) → (Nat → Int32) → Prop, (∀ (x2 : Int32) (fML : (Nat → Int64)) (fMR : (Nat → Int32)), ((mp < (((2 : Int32) * x2) + (1 : Int32)) → post (-9 : Int32) fML fMR fMB) ∧ (¬ mp < (((2 : Int32) * x2) + (1 : Int32)) → wp_X3_layBetween x1 x2 mk mp fMM fML fMR fMB (fun (r31 : Int32) (fML_31 : (Nat → Int64)) (fMR_31 : (Nat → Int32)) => ((r31 = (0 : Int32) → (∀ v74 : Int32, v74 = x2 + (1 : Int32) → P16 v74 fML_31 fMR_31)) ∧ (¬ r31 = (0 : Int32) → wp_X3_mend_b39 x1 x2 (0 : Int32) mk mp fMM fML_31 fMR_31 fMB post))))) → P16 x2 fML fMR) → P16 x2 fML fMR
def wp_X3_mend (x1 : Int32) (mk : Int32) (mp : Int32) (fMM : (Nat → Int32)) (fML : (Nat → Int64)) (fMR : (Nat → Int32)) (fMB : (Nat → Int32)) (post : Int32 → (Nat → Int64) → (Nat → Int32) → (Nat → Int32) → Prop) : Prop := wp_X3_isPost x1 mk mp (fun (r2 : Int32) => ((¬ r2 = (0 : Int32) → wp_X3_layLeads mk mp fMM fML (fun (fML_11 : (Nat → Int64)) => wp_X3_mend_b16 x1 (0 : Int32) mk mp fMM fML_11 fMR fMB post)) ∧ (r2 = (0 : Int32) → post (-1 : Int32) fML fMR fMB)))
abbrev rm_X3_mend : Room := { frames := 4, cells := 0, slots := 0, locals := 97 }
theorem hv_X3_mend : yX3_mend.cls = RX3 ∧ yX3_mend.cls ≠ "java/lang/invoke/MethodHandle" ∧ yX3_mend.cls ≠ "java/lang/invoke/VarHandle" ∧ (parseMethodDescriptor yX3_mend.desc).map (fun d => d.parameters.length) = some 1 := by decide +kernel
set_option maxHeartbeats 4000000 in
set_option maxRecDepth 100000 in
theorem k_X3_mend {p : Program} {l : Launch} {e : Env} {s : State} {m : MethodId} {args : Array Value} {below : List Frame} {meth : Method} {c : Code} {Q : State → Prop} {A : Nat → Prop} {dC : Nat → ClassId} {dI : Nat → Nat → Nat} {cI cJ cZ : ClassId} (hx : p.tables.exec = Jvm.exec) (hb : c.code = cX3_mend) (hml : c.maxLocals = 4) (hown : s.vm.findClass RX3 = some m.cls) (hts : ∀ w ∈ wsX3_mend, w.before args s = true) (hK : va_K (dC, dI) vwCl (mTy cI cJ cZ) s) (hA : ∀ q, s.heap.size ≤ q → A q) {aM aMM aML aMY aMT aMR aMB aMN : Nat} {mk : Int32} {mp : Int32} {fMM : (Nat → Int32)} {fML : (Nat → Int64)} {fMR : (Nat → Int32)} {fMB : (Nat → Int32)} {x1 : Int32} {post : Int32 → (Nat → Int64) → (Nat → Int32) → (Nat → Int32) → Prop} (ret : ∀ (r : Int32) (fML' : (Nat → Int64)) (fMR' : (Nat → Int32)) (fMB' : (Nat → Int32)) (H : Heap) (locs : List Loc) (ls : Array Slot) (pc : Nat), decode cX3_mend pc = .ok (.ireturn, 1) → post r fML' fMR' fMB' → va_P (dC, dI) vwCl [oM aM aMM aML aMY aMT aMR aMB aMN mk mp, aI aMM cZ 36 fMM, aJ aML cJ 61 fML', aI aMR cI 60 fMR', aI aMB cI 60 fMB'] H → va_D A [oM aM aMM aML aMY aMT aMR aMB aMN mk mp, aI aMM cZ 36 fMM, aJ aML cJ 61 fML', aI aMR cI 60 fMR', aI aMB cI 60 fMB'] → va_S A s.heap H locs → W p l e rm_X3_mend s m args below meth c H locs 0 0 Q (F0 m pc ls [.int r])) (h : wp_X3_mend x1 mk mp fMM fML fMR fMB post) : mW p l e rm_X3_mend s m args below meth c 0 0 Q A (dC, dI) 4 [oM aM aMM aML aMY aMT aMR aMB aMN mk mp, aI aMM cZ 36 fMM, aJ aML cJ 61 fML, aI aMR cI 60 fMR, aI aMB cI 60 fMB] [(0, .ref aM), (1, .int x1)] 0 [] := by
  have in_X3 : ∀ w ∈ wsX30, w ∈ wsX3_mend := fun w hw => List.mem_cons_of_mem _ (List.mem_append_right _ hw)
  have k_102 := hts (.fieldLink RX3 102 "RingTasksModel" "posts" "I") (List.mem_of_getElem? (i := 1) rfl)
  have k_23 := hts (.fieldLink RX3 23 "RingTasksModel" "row" "[I") (List.mem_of_getElem? (i := 3) rfl)
  have k_27 := hts (.fieldLink RX3 27 "RingTasksModel" "label" "[I") (List.mem_of_getElem? (i := 2) rfl)
  have B39 : ∀ (x1 : Int32) (x2 : Int32) (x3 : Int32) (fML : (Nat → Int64)) (fMR : (Nat → Int32)) (fMB : (Nat → Int32)), wp_X3_mend_b39 x1 x2 x3 mk mp fMM fML fMR fMB post → mW p l e rm_X3_mend s m args below meth c 0 0 Q A (dC, dI) 4 [oM aM aMM aML aMY aMT aMR aMB aMN mk mp, aI aMM cZ 36 fMM, aJ aML cJ 61 fML, aI aMR cI 60 fMR, aI aMB cI 60 fMB] [(0, .ref aM), (1, .int x1), (2, .int x2), (3, .int x3)] 39 [] := by
    intro x1 x2 x3 fML fMR fMB h
    unfold wp_X3_mend_b39 at h
    refine h (fun (x3 : Int32) (fMB : (Nat → Int32)) => mW p l e rm_X3_mend s m args below meth c 0 0 Q A (dC, dI) 4 [oM aM aMM aML aMY aMT aMR aMB aMN mk mp, aI aMM cZ 36 fMM, aJ aML cJ 61 fML, aI aMR cI 60 fMR, aI aMB cI 60 fMB] [(0, .ref aM), (1, .int x1), (2, .int x2), (3, .int x3)] 39 []) ?_
    intro x3 fMB h
    intro H locs ls hP hD hS hl
    refine lv_iload_n hx hb dX3_mend_39 rfl (lv_at hl 3 rfl) ?_
    refine lv_iconst (v := 2) hx hb dX3_mend_40 (by decide) ?_
    refine lv_iload_n hx hb dX3_mend_41 rfl (lv_at hl 2 rfl) ?_
    refine lv_imul hx hb dX3_mend_42 ?_
    refine lv_icmp_gt (tgt := 72) hx hb dX3_mend_43 (by decide) (fun q43 => ?_) (fun q43 => ?_)
    · have h := h.1 q43
      refine lv_iload_n hx hb dX3_mend_72 rfl (lv_at hl 2 rfl) ?_
      exact ret _ _ _ _ H locs ls _ dX3_mend_73 h hP hD hS
    · have h := h.2 q43
      refine lv_aload_n hx hb dX3_mend_46 rfl (lv_at hl 0 rfl) ?_
      refine va_get (D := (dC, dI)) (ci := 3) (v := .ref aMB) (C := RX3) (T := TX3) (N := 9) hx hb hts in_X3 hown hK hP 0 rfl rfl 7 (by decide) k_27 (fun _ h9 => h9) rfl dX3_mend_47 ?_
      refine lv_aload_n hx hb dX3_mend_50 rfl (lv_at hl 0 rfl) ?_
      refine lv_iload_n hx hb dX3_mend_51 rfl (lv_at hl 1 rfl) ?_
      refine lv_iload_n hx hb dX3_mend_52 rfl (lv_at hl 2 rfl) ?_
      refine lv_isub hx hb dX3_mend_53 ?_
      refine lv_iload_n hx hb dX3_mend_54 rfl (lv_at hl 3 rfl) ?_
      refine lv_iadd hx hb dX3_mend_55 ?_
      refine mVi (wr := [aI aMM cZ 36 fMM, aJ aML cJ 61 fML, aI aMR cI 60 fMR, aI aMB cI 60 fMB]) (As := [.int ((x1 - x2) + x3)]) (rest := [.ref aMB]) ⟨hx, hb, hml, hown, hts⟩ (c_X3_place (l := l) (dC := dC) (dI := dI) (cI := cI) (cJ := cJ) (cZ := cZ) (aM := aM) (aMM := aMM) (aML := aML) (aMY := aMY) (aMT := aMT) (aMR := aMR) (aMB := aMB) (aMN := aMN) h) (cwV 1 hts gX3_mend_X3_place rfl rfl rfl hv_X3_place ⟨Nat.le_of_ble_eq_true rfl, Nat.le_of_ble_eq_true rfl⟩) hK hP hD hS hA [0] [1, 2, 3, 4] rfl rfl rfl rfl (by decide) 3 rfl rfl rfl rfl hl.1 rfl (Nat.le_of_ble_eq_true rfl) ⟨Nat.zero_le _, Nat.zero_le _⟩ dX3_mend_56 (fun r56 u56 H locs h hP hD hS => ?_)
      have hP : va_P (dC, dI) vwCl [oM aM aMM aML aMY aMT aMR aMB aMN mk mp, aI aMM cZ 36 fMM, aJ aML cJ 61 fML, aI aMR cI 60 fMR, aI aMB cI 60 fMB] H := hP.sub [4, 0, 1, 2, 3] rfl
      have hD : va_D A [oM aM aMM aML aMY aMT aMR aMB aMN mk mp, aI aMM cZ 36 fMM, aJ aML cJ 61 fML, aI aMR cI 60 fMR, aI aMB cI 60 fMB] := hD.sub [4, 0, 1, 2, 3] rfl rfl
      refine lv_aload_n hx hb dX3_mend_59 rfl (lv_at hl 0 rfl) ?_
      refine va_get (D := (dC, dI)) (ci := 3) (v := .ref aMR) (C := RX3) (T := TX3) (N := 9) hx hb hts in_X3 hown hK hP 0 rfl rfl 5 (by decide) k_23 (fun _ h9 => h9) rfl dX3_mend_60 ?_
      refine lv_iload_n hx hb dX3_mend_63 rfl (lv_at hl 3 rfl) ?_
      refine va_iald (D := (dC, dI)) hx hb hK hP 3 0 rfl rfl h.1 dX3_mend_64 ?_
      have h := h.2
      refine va_iast (D := (dC, dI)) hx hb hK hP hD hS 4 0 rfl rfl h.1 dX3_mend_65 (fun H locs hP hD hS => ?_)
      obtain ⟨fMB_65, efMB_65⟩ : ∃ y, y = upd fMB r56.toNatClampNeg (fMR x3.toNatClampNeg) := ⟨_, rfl⟩
      have h := h.2 fMB_65 efMB_65
      have hP : va_P (dC, dI) vwCl [oM aM aMM aML aMY aMT aMR aMB aMN mk mp, aI aMM cZ 36 fMM, aJ aML cJ 61 fML, aI aMR cI 60 fMR, aI aMB cI 60 fMB_65] H := by rw [efMB_65]; exact hP
      have hD : va_D A [oM aM aMM aML aMY aMT aMR aMB aMN mk mp, aI aMM cZ 36 fMM, aJ aML cJ 61 fML, aI aMR cI 60 fMR, aI aMB cI 60 fMB_65] := by rw [efMB_65]; exact hD
      obtain ⟨v66, ev66⟩ : ∃ y : Int32, y = x3 + (1 : Int32) := ⟨_, rfl⟩
      have h := h v66 ev66
      refine lv_iinc (v := v66) (lv' := [(3, .int v66), (0, .ref aM), (1, .int x1), (2, .int x2)]) hx hb dX3_mend_66 hl (k := 3) rfl (by rw [ev66]; rfl) (by decide) rfl (fun ls hl => ?_)
      refine lv_goto (tgt := 39) hx hb dX3_mend_69 (by decide) ?_
      exact h H locs ls hP hD hS (lv_sub hl [1, 2, 3, 0] rfl)
  have B16 : ∀ (x1 : Int32) (x2 : Int32) (fML : (Nat → Int64)) (fMR : (Nat → Int32)) (fMB : (Nat → Int32)), wp_X3_mend_b16 x1 x2 mk mp fMM fML fMR fMB post → mW p l e rm_X3_mend s m args below meth c 0 0 Q A (dC, dI) 4 [oM aM aMM aML aMY aMT aMR aMB aMN mk mp, aI aMM cZ 36 fMM, aJ aML cJ 61 fML, aI aMR cI 60 fMR, aI aMB cI 60 fMB] [(0, .ref aM), (1, .int x1), (2, .int x2)] 16 [] := by
    intro x1 x2 fML fMR fMB h
    unfold wp_X3_mend_b16 at h
    refine h (fun (x2 : Int32) (fML : (Nat → Int64)) (fMR : (Nat → Int32)) => mW p l e rm_X3_mend s m args below meth c 0 0 Q A (dC, dI) 4 [oM aM aMM aML aMY aMT aMR aMB aMN mk mp, aI aMM cZ 36 fMM, aJ aML cJ 61 fML, aI aMR cI 60 fMR, aI aMB cI 60 fMB] [(0, .ref aM), (1, .int x1), (2, .int x2)] 16 []) ?_
    intro x2 fML fMR h
    intro H locs ls hP hD hS hl
    refine lv_iconst (v := 2) hx hb dX3_mend_16 (by decide) ?_
    refine lv_iload_n hx hb dX3_mend_17 rfl (lv_at hl 2 rfl) ?_
    refine lv_imul hx hb dX3_mend_18 ?_
    refine lv_iconst (v := 1) hx hb dX3_mend_19 (by decide) ?_
    refine lv_iadd hx hb dX3_mend_20 ?_
    refine lv_aload_n hx hb dX3_mend_21 rfl (lv_at hl 0 rfl) ?_
    refine va_get (D := (dC, dI)) (ci := 3) (v := .int mp) (C := RX3) (T := TX3) (N := 9) hx hb hts in_X3 hown hK hP 0 rfl rfl 6 (by decide) k_102 (fun _ h9 => h9) rfl dX3_mend_22 ?_
    refine lv_icmp_gt (tgt := 80) hx hb dX3_mend_25 (by decide) (fun q25 => ?_) (fun q25 => ?_)
    · have h := h.1 q25
      refine lv_bipush (v := -9) hx hb dX3_mend_80 (by decide) ?_
      exact ret _ _ _ _ H locs ls _ dX3_mend_82 h hP hD hS
    · have h := h.2 q25
      refine lv_aload_n hx hb dX3_mend_28 rfl (lv_at hl 0 rfl) ?_
      refine lv_iload_n hx hb dX3_mend_29 rfl (lv_at hl 1 rfl) ?_
      refine lv_iload_n hx hb dX3_mend_30 rfl (lv_at hl 2 rfl) ?_
      refine mVi (wr := []) (As := [.int x1, .int x2]) (rest := []) ⟨hx, hb, hml, hown, hts⟩ (c_X3_layBetween (l := l) (dC := dC) (dI := dI) (cI := cI) (cJ := cJ) (cZ := cZ) (aM := aM) (aMM := aMM) (aML := aML) (aMY := aMY) (aMT := aMT) (aMR := aMR) (aMB := aMB) (aMN := aMN) h) (cwV 2 hts gX3_mend_X3_layBetween rfl rfl rfl hv_X3_layBetween ⟨Nat.le_of_ble_eq_true rfl, Nat.le_of_ble_eq_true rfl⟩) hK hP hD hS hA [0, 1, 2, 3, 4] [] rfl rfl rfl rfl (by decide) 3 rfl rfl rfl rfl hl.1 rfl (Nat.le_of_ble_eq_true rfl) ⟨Nat.zero_le _, Nat.zero_le _⟩ dX3_mend_31 (fun r31 u31 H locs h hP hD hS => ?_)
      obtain ⟨fML_31, fMR_31⟩ := u31
      have hP : va_P (dC, dI) vwCl [oM aM aMM aML aMY aMT aMR aMB aMN mk mp, aI aMM cZ 36 fMM, aJ aML cJ 61 fML_31, aI aMR cI 60 fMR_31, aI aMB cI 60 fMB] H := hP.sub [0, 1, 2, 3, 4] rfl
      have hD : va_D A [oM aM aMM aML aMY aMT aMR aMB aMN mk mp, aI aMM cZ 36 fMM, aJ aML cJ 61 fML_31, aI aMR cI 60 fMR_31, aI aMB cI 60 fMB] := hD.sub [0, 1, 2, 3, 4] rfl rfl
      refine lv_if_eq (tgt := 74) hx hb dX3_mend_34 (by decide) (fun q34 => ?_) (fun q34 => ?_)
      · have h := h.1 q34
        obtain ⟨v74, ev74⟩ : ∃ y : Int32, y = x2 + (1 : Int32) := ⟨_, rfl⟩
        have h := h v74 ev74
        refine lv_iinc (v := v74) (lv' := [(2, .int v74), (0, .ref aM), (1, .int x1)]) hx hb dX3_mend_74 hl (k := 2) rfl (by rw [ev74]; rfl) (by decide) rfl (fun ls hl => ?_)
        refine lv_goto (tgt := 16) hx hb dX3_mend_77 (by decide) ?_
        exact h H locs ls hP hD hS (lv_sub hl [1, 2, 0] rfl)
      · have h := h.2 q34
        refine lv_iconst (v := 0) hx hb dX3_mend_37 (by decide) ?_
        refine lv_istore_n (lv' := [(3, .int (0 : Int32)), (0, .ref aM), (1, .int x1), (2, .int x2)]) hx hb dX3_mend_38 rfl hl (by decide) rfl (fun ls hl => ?_)
        exact B39 _ _ _ _ _ _ h H locs ls hP hD hS (lv_sub hl [1, 2, 3, 0] rfl)
  unfold wp_X3_mend at h
  intro H locs ls hP hD hS hl
  refine lv_aload_n hx hb dX3_mend_0 rfl (lv_at hl 0 rfl) ?_
  refine lv_iload_n hx hb dX3_mend_1 rfl (lv_at hl 1 rfl) ?_
  refine mVi (wr := [aI aMM cZ 36 fMM, aJ aML cJ 61 fML, aI aMR cI 60 fMR, aI aMB cI 60 fMB]) (As := [.int x1]) (rest := []) ⟨hx, hb, hml, hown, hts⟩ (c_X3_isPost (l := l) (dC := dC) (dI := dI) (cI := cI) (cJ := cJ) (cZ := cZ) (aM := aM) (aMM := aMM) (aML := aML) (aMY := aMY) (aMT := aMT) (aMR := aMR) (aMB := aMB) (aMN := aMN) h) (cwV 1 hts gX3_mend_X3_isPost rfl rfl rfl hv_X3_isPost ⟨Nat.le_of_ble_eq_true rfl, Nat.le_of_ble_eq_true rfl⟩) hK hP hD hS hA [0] [1, 2, 3, 4] rfl rfl rfl rfl (by decide) 3 rfl rfl rfl rfl hl.1 rfl (Nat.le_of_ble_eq_true rfl) ⟨Nat.zero_le _, Nat.zero_le _⟩ dX3_mend_2 (fun r2 u2 H locs h hP hD hS => ?_)
  have hP : va_P (dC, dI) vwCl [oM aM aMM aML aMY aMT aMR aMB aMN mk mp, aI aMM cZ 36 fMM, aJ aML cJ 61 fML, aI aMR cI 60 fMR, aI aMB cI 60 fMB] H := hP.sub [4, 0, 1, 2, 3] rfl
  have hD : va_D A [oM aM aMM aML aMY aMT aMR aMB aMN mk mp, aI aMM cZ 36 fMM, aJ aML cJ 61 fML, aI aMR cI 60 fMR, aI aMB cI 60 fMB] := hD.sub [4, 0, 1, 2, 3] rfl rfl
  refine lv_if_ne (tgt := 10) hx hb dX3_mend_5 (by decide) (fun q5 => ?_) (fun q5 => ?_)
  · have h := h.1 q5
    refine lv_aload_n hx hb dX3_mend_10 rfl (lv_at hl 0 rfl) ?_
    refine mVv (wr := [aI aMR cI 60 fMR, aI aMB cI 60 fMB]) (As := []) (rest := []) ⟨hx, hb, hml, hown, hts⟩ (c_X3_layLeads (l := l) (dC := dC) (dI := dI) (cI := cI) (cJ := cJ) (cZ := cZ) (aM := aM) (aMM := aMM) (aML := aML) (aMY := aMY) (aMT := aMT) (aMR := aMR) (aMB := aMB) (aMN := aMN) h) (cwV 0 hts gX3_mend_X3_layLeads rfl rfl rfl hv_X3_layLeads ⟨Nat.le_of_ble_eq_true rfl, Nat.le_of_ble_eq_true rfl⟩) hK hP hD hS hA [0, 1, 2] [3, 4] rfl rfl rfl rfl (by decide) 3 rfl rfl rfl rfl hl.1 rfl (Nat.le_of_ble_eq_true rfl) ⟨Nat.zero_le _, Nat.zero_le _⟩ dX3_mend_11 (fun fML_11 H locs h hP hD hS => ?_)
    have hP : va_P (dC, dI) vwCl [oM aM aMM aML aMY aMT aMR aMB aMN mk mp, aI aMM cZ 36 fMM, aJ aML cJ 61 fML_11, aI aMR cI 60 fMR, aI aMB cI 60 fMB] H := hP.sub [2, 3, 4, 0, 1] rfl
    have hD : va_D A [oM aM aMM aML aMY aMT aMR aMB aMN mk mp, aI aMM cZ 36 fMM, aJ aML cJ 61 fML_11, aI aMR cI 60 fMR, aI aMB cI 60 fMB] := hD.sub [2, 3, 4, 0, 1] rfl rfl
    refine lv_iconst (v := 0) hx hb dX3_mend_14 (by decide) ?_
    refine lv_istore_n (lv' := [(2, .int (0 : Int32)), (0, .ref aM), (1, .int x1)]) hx hb dX3_mend_15 rfl hl (by decide) rfl (fun ls hl => ?_)
    exact B16 _ _ _ _ _ h H locs ls hP hD hS (lv_sub hl [1, 2, 0] rfl)
  · have h := h.2 q5
    refine lv_iconst (v := -1) hx hb dX3_mend_8 (by decide) ?_
    exact ret _ _ _ _ H locs ls _ dX3_mend_9 h hP hD hS
set_option maxHeartbeats 4000000 in
set_option maxRecDepth 100000 in
theorem c_X3_mend {l : Launch} {dC : Nat → ClassId} {dI : Nat → Nat → Nat} {cI cJ cZ : ClassId} {aM aMM aML aMY aMT aMR aMB aMN : Nat} {mk : Int32} {mp : Int32} {fMM : (Nat → Int32)} {fML : (Nat → Int64)} {fMR : (Nat → Int32)} {fMB : (Nat → Int32)} {x1 : Int32} {post : Int32 → (Nat → Int64) → (Nat → Int32) → (Nat → Int32) → Prop} (h : wp_X3_mend x1 mk mp fMM fML fMR fMB post) : ∀ sz, Met l yX3_mend wsX3_mend rm_X3_mend (mP (dC, dI) (mTy cI cJ cZ) [.ref aM, .int x1] [oM aM aMM aML aMY aMT aMR aMB aMN mk mp, aI aMM cZ 36 fMM, aJ aML cJ 61 fML, aI aMR cI 60 fMR, aI aMB cI 60 fMB] sz) (va_Qi (fun (r : Int32) (u : (Nat → Int64) × (Nat → Int32) × (Nat → Int32)) => post r (u.1) (u.2.1) (u.2.2)) (mB (dC, dI) (va_A [oM aM aMM aML aMY aMT aMR aMB aMN mk mp, aI aMM cZ 36 fMM, aJ aML cJ 61 fML, aI aMR cI 60 fMR, aI aMB cI 60 fMB] sz) (fun u => [oM aM aMM aML aMY aMT aMR aMB aMN mk mp, aI aMM cZ 36 fMM, aJ aML cJ 61 (u.1), aI aMR cI 60 (u.2.1), aI aMB cI 60 (u.2.2)])) (va_A [oM aM aMM aML aMY aMT aMR aMB aMN mk mp, aI aMM cZ 36 fMM, aJ aML cJ 61 fML, aI aMR cI 60 fMR, aI aMB cI 60 fMB] sz)) 0 0 (va_A [oM aM aMM aML aMY aMT aMR aMB aMN mk mp, aI aMM cZ 36 fMM, aJ aML cJ 61 fML, aI aMR cI 60 fMR, aI aMB cI 60 fMB] sz) := by
  intro sz
  refine Met.ofW (cc := cX3_mend) (maxL := 4) (ret := (some .int)) (by decide) rfl ?_
  intro p e s m args below meth c s₁ B hml hv
  obtain ⟨rfl, hsz, hP, hK, hD0⟩ := hv
  have hlocks := B.notSynchronized
  subst hsz
  have hD := hD0.self (sz := s.heap.size)
  have hl := lv_entry ([.ref aM, .int x1]) (n := 4) (Nat.le_of_ble_eq_true rfl)
  rw [lg_entry_eq]
  exact k_X3_mend B.exec B.bytes hml (findClass_of_methodNamed B.named) (atoms_spec (ws := wsX3_mend) B.pre) hK (fun q hq => Or.inr hq) (fun r fML' fMR' fMB' H locs ls pc hd hp hP hD hS => W.iret B.exec B.bytes B.returns (fun t ht hW => ⟨⟨r, (fML', fMR', fMB'), rfl, hp, by rw [ht]; exact hP, hD⟩, hS.F ht⟩) hS.2.2 hd) h s.heap [] _ hP hD va_S.rf hl

def wp_X3_fresh_b16 (x1 : Int32) (mk : Int32) (mp : Int32) (fMM : (Nat → Int32)) (fML : (Nat → Int64)) (fMR : (Nat → Int32)) (fMB : (Nat → Int32)) (post : Int32 → (Nat → Int64) → (Nat → Int32) → (Nat → Int32) → Prop)  : Prop := ∀ P16 : Int32 → (Nat → Int32) → Prop, (∀ (x1 : Int32) (fMB : (Nat → Int32)), ((mp ≤ x1 → post (1 : Int32) fML fMR fMB) ∧ (¬ mp ≤ x1 → (vp_in x1 60 ∧ (vp_in x1 60 ∧ (∀ fMB_35 : (Nat → Int32), fMB_35 = upd fMB x1.toNatClampNeg (fMR x1.toNatClampNeg) → (∀ v36 : Int32, v36 = x1 + (1 : Int32) → P16 v36 fMB_35)))))) → P16 x1 fMB) → P16 x1 fMB
def wp_X3_fresh  (mk : Int32) (mp : Int32) (fMM : (Nat → Int32)) (fML : (Nat → Int64)) (fMR : (Nat → Int32)) (fMB : (Nat → Int32)) (post : Int32 → (Nat → Int64) → (Nat → Int32) → (Nat → Int32) → Prop) : Prop := wp_X3_layRing mp mk mp fMM fML fMR (fun (r5 : Int32) (fML_5 : (Nat → Int64)) (fMR_5 : (Nat → Int32)) => ((¬ r5 = (0 : Int32) → wp_X3_fresh_b16 (0 : Int32) mk mp fMM fML_5 fMR_5 fMB post) ∧ (r5 = (0 : Int32) → post (-9 : Int32) fML_5 fMR_5 fMB)))
abbrev rm_X3_fresh : Room := { frames := 3, cells := 0, slots := 0, locals := 70 }
theorem hv_X3_fresh : yX3_fresh.cls = RX3 ∧ yX3_fresh.cls ≠ "java/lang/invoke/MethodHandle" ∧ yX3_fresh.cls ≠ "java/lang/invoke/VarHandle" ∧ (parseMethodDescriptor yX3_fresh.desc).map (fun d => d.parameters.length) = some 0 := by decide +kernel
set_option maxHeartbeats 4000000 in
set_option maxRecDepth 100000 in
theorem k_X3_fresh {p : Program} {l : Launch} {e : Env} {s : State} {m : MethodId} {args : Array Value} {below : List Frame} {meth : Method} {c : Code} {Q : State → Prop} {A : Nat → Prop} {dC : Nat → ClassId} {dI : Nat → Nat → Nat} {cI cJ cZ : ClassId} (hx : p.tables.exec = Jvm.exec) (hb : c.code = cX3_fresh) (hml : c.maxLocals = 2) (hown : s.vm.findClass RX3 = some m.cls) (hts : ∀ w ∈ wsX3_fresh, w.before args s = true) (hK : va_K (dC, dI) vwCl (mTy cI cJ cZ) s) (hA : ∀ q, s.heap.size ≤ q → A q) {aM aMM aML aMY aMT aMR aMB aMN : Nat} {mk : Int32} {mp : Int32} {fMM : (Nat → Int32)} {fML : (Nat → Int64)} {fMR : (Nat → Int32)} {fMB : (Nat → Int32)}  {post : Int32 → (Nat → Int64) → (Nat → Int32) → (Nat → Int32) → Prop} (ret : ∀ (r : Int32) (fML' : (Nat → Int64)) (fMR' : (Nat → Int32)) (fMB' : (Nat → Int32)) (H : Heap) (locs : List Loc) (ls : Array Slot) (pc : Nat), decode cX3_fresh pc = .ok (.ireturn, 1) → post r fML' fMR' fMB' → va_P (dC, dI) vwCl [oM aM aMM aML aMY aMT aMR aMB aMN mk mp, aI aMM cZ 36 fMM, aJ aML cJ 61 fML', aI aMR cI 60 fMR', aI aMB cI 60 fMB'] H → va_D A [oM aM aMM aML aMY aMT aMR aMB aMN mk mp, aI aMM cZ 36 fMM, aJ aML cJ 61 fML', aI aMR cI 60 fMR', aI aMB cI 60 fMB'] → va_S A s.heap H locs → W p l e rm_X3_fresh s m args below meth c H locs 0 0 Q (F0 m pc ls [.int r])) (h : wp_X3_fresh  mk mp fMM fML fMR fMB post) : mW p l e rm_X3_fresh s m args below meth c 0 0 Q A (dC, dI) 2 [oM aM aMM aML aMY aMT aMR aMB aMN mk mp, aI aMM cZ 36 fMM, aJ aML cJ 61 fML, aI aMR cI 60 fMR, aI aMB cI 60 fMB] [(0, .ref aM)] 0 [] := by
  have in_X3 : ∀ w ∈ wsX30, w ∈ wsX3_fresh := fun w hw => List.mem_cons_of_mem _ (List.mem_append_right _ hw)
  have k_102 := hts (.fieldLink RX3 102 "RingTasksModel" "posts" "I") (List.mem_of_getElem? (i := 1) rfl)
  have k_23 := hts (.fieldLink RX3 23 "RingTasksModel" "row" "[I") (List.mem_of_getElem? (i := 3) rfl)
  have k_27 := hts (.fieldLink RX3 27 "RingTasksModel" "label" "[I") (List.mem_of_getElem? (i := 2) rfl)
  have B16 : ∀ (x1 : Int32) (fML : (Nat → Int64)) (fMR : (Nat → Int32)) (fMB : (Nat → Int32)), wp_X3_fresh_b16 x1 mk mp fMM fML fMR fMB post → mW p l e rm_X3_fresh s m args below meth c 0 0 Q A (dC, dI) 2 [oM aM aMM aML aMY aMT aMR aMB aMN mk mp, aI aMM cZ 36 fMM, aJ aML cJ 61 fML, aI aMR cI 60 fMR, aI aMB cI 60 fMB] [(0, .ref aM), (1, .int x1)] 16 [] := by
    intro x1 fML fMR fMB h
    unfold wp_X3_fresh_b16 at h
    refine h (fun (x1 : Int32) (fMB : (Nat → Int32)) => mW p l e rm_X3_fresh s m args below meth c 0 0 Q A (dC, dI) 2 [oM aM aMM aML aMY aMT aMR aMB aMN mk mp, aI aMM cZ 36 fMM, aJ aML cJ 61 fML, aI aMR cI 60 fMR, aI aMB cI 60 fMB] [(0, .ref aM), (1, .int x1)] 16 []) ?_
    intro x1 fMB h
    intro H locs ls hP hD hS hl
    refine lv_iload_n hx hb dX3_fresh_16 rfl (lv_at hl 1 rfl) ?_
    refine lv_aload_n hx hb dX3_fresh_17 rfl (lv_at hl 0 rfl) ?_
    refine va_get (D := (dC, dI)) (ci := 3) (v := .int mp) (C := RX3) (T := TX3) (N := 9) hx hb hts in_X3 hown hK hP 0 rfl rfl 6 (by decide) k_102 (fun _ h9 => h9) rfl dX3_fresh_18 ?_
    refine lv_icmp_ge (tgt := 42) hx hb dX3_fresh_21 (by decide) (fun q21 => ?_) (fun q21 => ?_)
    · have h := h.1 q21
      refine lv_iconst (v := 1) hx hb dX3_fresh_42 (by decide) ?_
      exact ret _ _ _ _ H locs ls _ dX3_fresh_43 h hP hD hS
    · have h := h.2 q21
      refine lv_aload_n hx hb dX3_fresh_24 rfl (lv_at hl 0 rfl) ?_
      refine va_get (D := (dC, dI)) (ci := 3) (v := .ref aMB) (C := RX3) (T := TX3) (N := 9) hx hb hts in_X3 hown hK hP 0 rfl rfl 7 (by decide) k_27 (fun _ h9 => h9) rfl dX3_fresh_25 ?_
      refine lv_iload_n hx hb dX3_fresh_28 rfl (lv_at hl 1 rfl) ?_
      refine lv_aload_n hx hb dX3_fresh_29 rfl (lv_at hl 0 rfl) ?_
      refine va_get (D := (dC, dI)) (ci := 3) (v := .ref aMR) (C := RX3) (T := TX3) (N := 9) hx hb hts in_X3 hown hK hP 0 rfl rfl 5 (by decide) k_23 (fun _ h9 => h9) rfl dX3_fresh_30 ?_
      refine lv_iload_n hx hb dX3_fresh_33 rfl (lv_at hl 1 rfl) ?_
      refine va_iald (D := (dC, dI)) hx hb hK hP 3 0 rfl rfl h.1 dX3_fresh_34 ?_
      have h := h.2
      refine va_iast (D := (dC, dI)) hx hb hK hP hD hS 4 0 rfl rfl h.1 dX3_fresh_35 (fun H locs hP hD hS => ?_)
      obtain ⟨fMB_35, efMB_35⟩ : ∃ y, y = upd fMB x1.toNatClampNeg (fMR x1.toNatClampNeg) := ⟨_, rfl⟩
      have h := h.2 fMB_35 efMB_35
      have hP : va_P (dC, dI) vwCl [oM aM aMM aML aMY aMT aMR aMB aMN mk mp, aI aMM cZ 36 fMM, aJ aML cJ 61 fML, aI aMR cI 60 fMR, aI aMB cI 60 fMB_35] H := by rw [efMB_35]; exact hP
      have hD : va_D A [oM aM aMM aML aMY aMT aMR aMB aMN mk mp, aI aMM cZ 36 fMM, aJ aML cJ 61 fML, aI aMR cI 60 fMR, aI aMB cI 60 fMB_35] := by rw [efMB_35]; exact hD
      obtain ⟨v36, ev36⟩ : ∃ y : Int32, y = x1 + (1 : Int32) := ⟨_, rfl⟩
      have h := h v36 ev36
      refine lv_iinc (v := v36) (lv' := [(1, .int v36), (0, .ref aM)]) hx hb dX3_fresh_36 hl (k := 1) rfl (by rw [ev36]; rfl) (by decide) rfl (fun ls hl => ?_)
      refine lv_goto (tgt := 16) hx hb dX3_fresh_39 (by decide) ?_
      exact h H locs ls hP hD hS (lv_sub hl [1, 0] rfl)
  unfold wp_X3_fresh at h
  intro H locs ls hP hD hS hl
  refine lv_aload_n hx hb dX3_fresh_0 rfl (lv_at hl 0 rfl) ?_
  refine lv_aload_n hx hb dX3_fresh_1 rfl (lv_at hl 0 rfl) ?_
  refine va_get (D := (dC, dI)) (ci := 3) (v := .int mp) (C := RX3) (T := TX3) (N := 9) hx hb hts in_X3 hown hK hP 0 rfl rfl 6 (by decide) k_102 (fun _ h9 => h9) rfl dX3_fresh_2 ?_
  refine mVi (wr := [aI aMB cI 60 fMB]) (As := [.int mp]) (rest := []) ⟨hx, hb, hml, hown, hts⟩ (c_X3_layRing (l := l) (dC := dC) (dI := dI) (cI := cI) (cJ := cJ) (cZ := cZ) (aM := aM) (aMM := aMM) (aML := aML) (aMY := aMY) (aMT := aMT) (aMR := aMR) (aMB := aMB) (aMN := aMN) h) (cwV 1 hts gX3_fresh_X3_layRing rfl rfl rfl hv_X3_layRing ⟨Nat.le_of_ble_eq_true rfl, Nat.le_of_ble_eq_true rfl⟩) hK hP hD hS hA [0, 1, 2, 3] [4] rfl rfl rfl rfl (by decide) 3 rfl rfl rfl rfl hl.1 rfl (Nat.le_of_ble_eq_true rfl) ⟨Nat.zero_le _, Nat.zero_le _⟩ dX3_fresh_5 (fun r5 u5 H locs h hP hD hS => ?_)
  obtain ⟨fML_5, fMR_5⟩ := u5
  have hP : va_P (dC, dI) vwCl [oM aM aMM aML aMY aMT aMR aMB aMN mk mp, aI aMM cZ 36 fMM, aJ aML cJ 61 fML_5, aI aMR cI 60 fMR_5, aI aMB cI 60 fMB] H := hP.sub [1, 2, 3, 4, 0] rfl
  have hD : va_D A [oM aM aMM aML aMY aMT aMR aMB aMN mk mp, aI aMM cZ 36 fMM, aJ aML cJ 61 fML_5, aI aMR cI 60 fMR_5, aI aMB cI 60 fMB] := hD.sub [1, 2, 3, 4, 0] rfl rfl
  refine lv_if_ne (tgt := 14) hx hb dX3_fresh_8 (by decide) (fun q8 => ?_) (fun q8 => ?_)
  · have h := h.1 q8
    refine lv_iconst (v := 0) hx hb dX3_fresh_14 (by decide) ?_
    refine lv_istore_n (lv' := [(1, .int (0 : Int32)), (0, .ref aM)]) hx hb dX3_fresh_15 rfl hl (by decide) rfl (fun ls hl => ?_)
    exact B16 _ _ _ _ h H locs ls hP hD hS (lv_sub hl [1, 0] rfl)
  · have h := h.2 q8
    refine lv_bipush (v := -9) hx hb dX3_fresh_11 (by decide) ?_
    exact ret _ _ _ _ H locs ls _ dX3_fresh_13 h hP hD hS
set_option maxHeartbeats 4000000 in
set_option maxRecDepth 100000 in
theorem c_X3_fresh {l : Launch} {dC : Nat → ClassId} {dI : Nat → Nat → Nat} {cI cJ cZ : ClassId} {aM aMM aML aMY aMT aMR aMB aMN : Nat} {mk : Int32} {mp : Int32} {fMM : (Nat → Int32)} {fML : (Nat → Int64)} {fMR : (Nat → Int32)} {fMB : (Nat → Int32)}  {post : Int32 → (Nat → Int64) → (Nat → Int32) → (Nat → Int32) → Prop} (h : wp_X3_fresh  mk mp fMM fML fMR fMB post) : ∀ sz, Met l yX3_fresh wsX3_fresh rm_X3_fresh (mP (dC, dI) (mTy cI cJ cZ) [.ref aM] [oM aM aMM aML aMY aMT aMR aMB aMN mk mp, aI aMM cZ 36 fMM, aJ aML cJ 61 fML, aI aMR cI 60 fMR, aI aMB cI 60 fMB] sz) (va_Qi (fun (r : Int32) (u : (Nat → Int64) × (Nat → Int32) × (Nat → Int32)) => post r (u.1) (u.2.1) (u.2.2)) (mB (dC, dI) (va_A [oM aM aMM aML aMY aMT aMR aMB aMN mk mp, aI aMM cZ 36 fMM, aJ aML cJ 61 fML, aI aMR cI 60 fMR, aI aMB cI 60 fMB] sz) (fun u => [oM aM aMM aML aMY aMT aMR aMB aMN mk mp, aI aMM cZ 36 fMM, aJ aML cJ 61 (u.1), aI aMR cI 60 (u.2.1), aI aMB cI 60 (u.2.2)])) (va_A [oM aM aMM aML aMY aMT aMR aMB aMN mk mp, aI aMM cZ 36 fMM, aJ aML cJ 61 fML, aI aMR cI 60 fMR, aI aMB cI 60 fMB] sz)) 0 0 (va_A [oM aM aMM aML aMY aMT aMR aMB aMN mk mp, aI aMM cZ 36 fMM, aJ aML cJ 61 fML, aI aMR cI 60 fMR, aI aMB cI 60 fMB] sz) := by
  intro sz
  refine Met.ofW (cc := cX3_fresh) (maxL := 2) (ret := (some .int)) (by decide) rfl ?_
  intro p e s m args below meth c s₁ B hml hv
  obtain ⟨rfl, hsz, hP, hK, hD0⟩ := hv
  have hlocks := B.notSynchronized
  subst hsz
  have hD := hD0.self (sz := s.heap.size)
  have hl := lv_entry ([.ref aM]) (n := 2) (Nat.le_of_ble_eq_true rfl)
  rw [lg_entry_eq]
  exact k_X3_fresh B.exec B.bytes hml (findClass_of_methodNamed B.named) (atoms_spec (ws := wsX3_fresh) B.pre) hK (fun q hq => Or.inr hq) (fun r fML' fMR' fMB' H locs ls pc hd hp hP hD hS => W.iret B.exec B.bytes B.returns (fun t ht hW => ⟨⟨r, (fML', fMR', fMB'), rfl, hp, by rw [ht]; exact hP, hD⟩, hS.F ht⟩) hS.2.2 hd) h s.heap [] _ hP hD va_S.rf hl

def wp_X3_number (x1 : Int32) (x2 : Int32) (mk : Int32) (mp : Int32) (fMN : (Nat → Int32)) (post : Int32 → (Nat → Int32) → Prop) : Prop := wp_X3_isPost x1 mk mp (fun (r2 : Int32) => ((¬ r2 = (0 : Int32) → wp_X3_in x2 (0 : Int32) (1000000000 : Int32) (fun (r14 : Int32) => ((¬ r14 = (0 : Int32) → (vp_in x1 60 ∧ (∀ v29 : Int32, v29 = (fMN x1.toNatClampNeg) → (vp_in x1 60 ∧ (∀ fMN_36 : (Nat → Int32), fMN_36 = upd fMN x1.toNatClampNeg x2 → post v29 fMN_36))))) ∧ (r14 = (0 : Int32) → post (-2 : Int32) fMN)))) ∧ (r2 = (0 : Int32) → post (-1 : Int32) fMN)))
abbrev rm_X3_number : Room := { frames := 2, cells := 0, slots := 0, locals := 43 }
theorem hv_X3_number : yX3_number.cls = RX3 ∧ yX3_number.cls ≠ "java/lang/invoke/MethodHandle" ∧ yX3_number.cls ≠ "java/lang/invoke/VarHandle" ∧ (parseMethodDescriptor yX3_number.desc).map (fun d => d.parameters.length) = some 2 := by decide +kernel
set_option maxHeartbeats 4000000 in
set_option maxRecDepth 100000 in
theorem k_X3_number {p : Program} {l : Launch} {e : Env} {s : State} {m : MethodId} {args : Array Value} {below : List Frame} {meth : Method} {c : Code} {Q : State → Prop} {A : Nat → Prop} {dC : Nat → ClassId} {dI : Nat → Nat → Nat} {cI cJ cZ : ClassId} (hx : p.tables.exec = Jvm.exec) (hb : c.code = cX3_number) (hml : c.maxLocals = 4) (hown : s.vm.findClass RX3 = some m.cls) (hts : ∀ w ∈ wsX3_number, w.before args s = true) (hK : va_K (dC, dI) vwCl (mTy cI cJ cZ) s) (hA : ∀ q, s.heap.size ≤ q → A q) {aM aMM aML aMY aMT aMR aMB aMN : Nat} {mk : Int32} {mp : Int32} {fMN : (Nat → Int32)} {x1 : Int32} {x2 : Int32} {post : Int32 → (Nat → Int32) → Prop} (ret : ∀ (r : Int32) (fMN' : (Nat → Int32)) (H : Heap) (locs : List Loc) (ls : Array Slot) (pc : Nat), decode cX3_number pc = .ok (.ireturn, 1) → post r fMN' → va_P (dC, dI) vwCl [oM aM aMM aML aMY aMT aMR aMB aMN mk mp, aI aMN cI 60 fMN'] H → va_D A [oM aM aMM aML aMY aMT aMR aMB aMN mk mp, aI aMN cI 60 fMN'] → va_S A s.heap H locs → W p l e rm_X3_number s m args below meth c H locs 0 0 Q (F0 m pc ls [.int r])) (h : wp_X3_number x1 x2 mk mp fMN post) : mW p l e rm_X3_number s m args below meth c 0 0 Q A (dC, dI) 4 [oM aM aMM aML aMY aMT aMR aMB aMN mk mp, aI aMN cI 60 fMN] [(0, .ref aM), (1, .int x1), (2, .int x2)] 0 [] := by
  have in_X3 : ∀ w ∈ wsX30, w ∈ wsX3_number := fun w hw => List.mem_cons_of_mem _ (List.mem_append_right _ hw)
  have k_117 := hts (.constant RX3 117 (1000000000)) (List.mem_of_getElem? (i := 1) rfl)
  have k_30 := hts (.fieldLink RX3 30 "RingTasksModel" "number" "[I") (List.mem_of_getElem? (i := 2) rfl)
  unfold wp_X3_number at h
  intro H locs ls hP hD hS hl
  refine lv_aload_n hx hb dX3_number_0 rfl (lv_at hl 0 rfl) ?_
  refine lv_iload_n hx hb dX3_number_1 rfl (lv_at hl 1 rfl) ?_
  refine mVi (wr := [aI aMN cI 60 fMN]) (As := [.int x1]) (rest := []) ⟨hx, hb, hml, hown, hts⟩ (c_X3_isPost (l := l) (dC := dC) (dI := dI) (cI := cI) (cJ := cJ) (cZ := cZ) (aM := aM) (aMM := aMM) (aML := aML) (aMY := aMY) (aMT := aMT) (aMR := aMR) (aMB := aMB) (aMN := aMN) h) (cwV 1 hts gX3_number_X3_isPost rfl rfl rfl hv_X3_isPost ⟨Nat.le_of_ble_eq_true rfl, Nat.le_of_ble_eq_true rfl⟩) hK hP hD hS hA [0] [1] rfl rfl rfl rfl (by decide) 3 rfl rfl rfl rfl hl.1 rfl (Nat.le_of_ble_eq_true rfl) ⟨Nat.zero_le _, Nat.zero_le _⟩ dX3_number_2 (fun r2 u2 H locs h hP hD hS => ?_)
  have hP : va_P (dC, dI) vwCl [oM aM aMM aML aMY aMT aMR aMB aMN mk mp, aI aMN cI 60 fMN] H := hP.sub [1, 0] rfl
  have hD : va_D A [oM aM aMM aML aMY aMT aMR aMB aMN mk mp, aI aMN cI 60 fMN] := hD.sub [1, 0] rfl rfl
  refine lv_if_ne (tgt := 10) hx hb dX3_number_5 (by decide) (fun q5 => ?_) (fun q5 => ?_)
  · have h := h.1 q5
    refine lv_iload_n hx hb dX3_number_10 rfl (lv_at hl 2 rfl) ?_
    refine lv_iconst (v := 0) hx hb dX3_number_11 (by decide) ?_
    refine lv_ldc (v := 1000000000) hx hb hown k_117 dX3_number_12 ?_
    refine mSi (wr := [oM aM aMM aML aMY aMT aMR aMB aMN mk mp, aI aMN cI 60 fMN]) (As := [.int x2, .int (0 : Int32), .int (1000000000 : Int32)]) (rest := []) ⟨hx, hb, hml, hown, hts⟩ (c_X3_in (l := l) (dC := dC) (dI := dI) (cI := cI) (cJ := cJ) (cZ := cZ)  h) (va_cwS 3 hts gX3_number_X3_in rfl rfl rfl hv_X3_in ⟨Nat.le_of_ble_eq_true rfl, Nat.le_of_ble_eq_true rfl⟩) hK hP hD hS hA [] [0, 1] rfl rfl rfl rfl (by decide) rfl hl.1 rfl (Nat.le_of_ble_eq_true rfl) ⟨Nat.zero_le _, Nat.zero_le _⟩ dX3_number_14 (fun r14 u14 H locs h hP hD hS => ?_)
    have hP : va_P (dC, dI) vwCl [oM aM aMM aML aMY aMT aMR aMB aMN mk mp, aI aMN cI 60 fMN] H := hP.sub [0, 1] rfl
    have hD : va_D A [oM aM aMM aML aMY aMT aMR aMB aMN mk mp, aI aMN cI 60 fMN] := hD.sub [0, 1] rfl rfl
    refine lv_if_ne (tgt := 23) hx hb dX3_number_17 (by decide) (fun q17 => ?_) (fun q17 => ?_)
    · have h := h.1 q17
      refine lv_aload_n hx hb dX3_number_23 rfl (lv_at hl 0 rfl) ?_
      refine va_get (D := (dC, dI)) (ci := 3) (v := .ref aMN) (C := RX3) (T := TX3) (N := 9) hx hb hts in_X3 hown hK hP 0 rfl rfl 8 (by decide) k_30 (fun _ h9 => h9) rfl dX3_number_24 ?_
      refine lv_iload_n hx hb dX3_number_27 rfl (lv_at hl 1 rfl) ?_
      refine va_iald (D := (dC, dI)) hx hb hK hP 1 0 rfl rfl h.1 dX3_number_28 ?_
      have h := h.2
      refine lv_topi (fun v29 ev29 => ?_)
      have h := h v29 ev29
      refine lv_istore_n (lv' := [(3, .int v29), (0, .ref aM), (1, .int x1), (2, .int x2)]) hx hb dX3_number_29 rfl hl (by decide) rfl (fun ls hl => ?_)
      refine lv_aload_n hx hb dX3_number_30 rfl (lv_at hl 1 rfl) ?_
      refine va_get (D := (dC, dI)) (ci := 3) (v := .ref aMN) (C := RX3) (T := TX3) (N := 9) hx hb hts in_X3 hown hK hP 0 rfl rfl 8 (by decide) k_30 (fun _ h9 => h9) rfl dX3_number_31 ?_
      refine lv_iload_n hx hb dX3_number_34 rfl (lv_at hl 2 rfl) ?_
      refine lv_iload_n hx hb dX3_number_35 rfl (lv_at hl 3 rfl) ?_
      refine va_iast (D := (dC, dI)) hx hb hK hP hD hS 1 0 rfl rfl h.1 dX3_number_36 (fun H locs hP hD hS => ?_)
      obtain ⟨fMN_36, efMN_36⟩ : ∃ y, y = upd fMN x1.toNatClampNeg x2 := ⟨_, rfl⟩
      have h := h.2 fMN_36 efMN_36
      have hP : va_P (dC, dI) vwCl [oM aM aMM aML aMY aMT aMR aMB aMN mk mp, aI aMN cI 60 fMN_36] H := by rw [efMN_36]; exact hP
      have hD : va_D A [oM aM aMM aML aMY aMT aMR aMB aMN mk mp, aI aMN cI 60 fMN_36] := by rw [efMN_36]; exact hD
      refine lv_iload_n hx hb dX3_number_37 rfl (lv_at hl 0 rfl) ?_
      exact ret _ _ H locs ls _ dX3_number_38 h hP hD hS
    · have h := h.2 q17
      refine lv_bipush (v := -2) hx hb dX3_number_20 (by decide) ?_
      exact ret _ _ H locs ls _ dX3_number_22 h hP hD hS
  · have h := h.2 q5
    refine lv_iconst (v := -1) hx hb dX3_number_8 (by decide) ?_
    exact ret _ _ H locs ls _ dX3_number_9 h hP hD hS
set_option maxHeartbeats 4000000 in
set_option maxRecDepth 100000 in
theorem c_X3_number {l : Launch} {dC : Nat → ClassId} {dI : Nat → Nat → Nat} {cI cJ cZ : ClassId} {aM aMM aML aMY aMT aMR aMB aMN : Nat} {mk : Int32} {mp : Int32} {fMN : (Nat → Int32)} {x1 : Int32} {x2 : Int32} {post : Int32 → (Nat → Int32) → Prop} (h : wp_X3_number x1 x2 mk mp fMN post) : ∀ sz, Met l yX3_number wsX3_number rm_X3_number (mP (dC, dI) (mTy cI cJ cZ) [.ref aM, .int x1, .int x2] [oM aM aMM aML aMY aMT aMR aMB aMN mk mp, aI aMN cI 60 fMN] sz) (va_Qi (fun (r : Int32) (u : (Nat → Int32)) => post r u) (mB (dC, dI) (va_A [oM aM aMM aML aMY aMT aMR aMB aMN mk mp, aI aMN cI 60 fMN] sz) (fun u => [oM aM aMM aML aMY aMT aMR aMB aMN mk mp, aI aMN cI 60 u])) (va_A [oM aM aMM aML aMY aMT aMR aMB aMN mk mp, aI aMN cI 60 fMN] sz)) 0 0 (va_A [oM aM aMM aML aMY aMT aMR aMB aMN mk mp, aI aMN cI 60 fMN] sz) := by
  intro sz
  refine Met.ofW (cc := cX3_number) (maxL := 4) (ret := (some .int)) (by decide) rfl ?_
  intro p e s m args below meth c s₁ B hml hv
  obtain ⟨rfl, hsz, hP, hK, hD0⟩ := hv
  have hlocks := B.notSynchronized
  subst hsz
  have hD := hD0.self (sz := s.heap.size)
  have hl := lv_entry ([.ref aM, .int x1, .int x2]) (n := 4) (Nat.le_of_ble_eq_true rfl)
  rw [lg_entry_eq]
  exact k_X3_number B.exec B.bytes hml (findClass_of_methodNamed B.named) (atoms_spec (ws := wsX3_number) B.pre) hK (fun q hq => Or.inr hq) (fun r fMN' H locs ls pc hd hp hP hD hS => W.iret B.exec B.bytes B.returns (fun t ht hW => ⟨⟨r, fMN', rfl, hp, by rw [ht]; exact hP, hD⟩, hS.F ht⟩) hS.2.2 hd) h s.heap [] _ hP hD va_S.rf hl

def wp_X3_told (x1 : Int32) (mk : Int32) (mp : Int32) (fMN : (Nat → Int32)) (post : Int32 → Prop) : Prop := wp_X3_isPost x1 mk mp (fun (r2 : Int32) => ((r2 = (0 : Int32) → post (-1 : Int32)) ∧ (¬ r2 = (0 : Int32) → (vp_in x1 60 ∧ post (fMN x1.toNatClampNeg)))))
abbrev rm_X3_told : Room := { frames := 2, cells := 0, slots := 0, locals := 43 }
theorem hv_X3_told : yX3_told.cls = RX3 ∧ yX3_told.cls ≠ "java/lang/invoke/MethodHandle" ∧ yX3_told.cls ≠ "java/lang/invoke/VarHandle" ∧ (parseMethodDescriptor yX3_told.desc).map (fun d => d.parameters.length) = some 1 := by decide +kernel
set_option maxHeartbeats 4000000 in
set_option maxRecDepth 100000 in
theorem k_X3_told {p : Program} {l : Launch} {e : Env} {s : State} {m : MethodId} {args : Array Value} {below : List Frame} {meth : Method} {c : Code} {Q : State → Prop} {A : Nat → Prop} {dC : Nat → ClassId} {dI : Nat → Nat → Nat} {cI cJ cZ : ClassId} (hx : p.tables.exec = Jvm.exec) (hb : c.code = cX3_told) (hml : c.maxLocals = 2) (hown : s.vm.findClass RX3 = some m.cls) (hts : ∀ w ∈ wsX3_told, w.before args s = true) (hK : va_K (dC, dI) vwCl (mTy cI cJ cZ) s) (hA : ∀ q, s.heap.size ≤ q → A q) {aM aMM aML aMY aMT aMR aMB aMN : Nat} {mk : Int32} {mp : Int32} {fMN : (Nat → Int32)} {x1 : Int32} {post : Int32 → Prop} (ret : ∀ (r : Int32) (H : Heap) (locs : List Loc) (ls : Array Slot) (pc : Nat), decode cX3_told pc = .ok (.ireturn, 1) → post r → va_P (dC, dI) vwCl [oM aM aMM aML aMY aMT aMR aMB aMN mk mp, aI aMN cI 60 fMN] H → va_D A [oM aM aMM aML aMY aMT aMR aMB aMN mk mp, aI aMN cI 60 fMN] → va_S A s.heap H locs → W p l e rm_X3_told s m args below meth c H locs 0 0 Q (F0 m pc ls [.int r])) (h : wp_X3_told x1 mk mp fMN post) : mW p l e rm_X3_told s m args below meth c 0 0 Q A (dC, dI) 2 [oM aM aMM aML aMY aMT aMR aMB aMN mk mp, aI aMN cI 60 fMN] [(0, .ref aM), (1, .int x1)] 0 [] := by
  have in_X3 : ∀ w ∈ wsX30, w ∈ wsX3_told := fun w hw => List.mem_cons_of_mem _ (List.mem_append_right _ hw)
  have k_30 := hts (.fieldLink RX3 30 "RingTasksModel" "number" "[I") (List.mem_of_getElem? (i := 1) rfl)
  unfold wp_X3_told at h
  intro H locs ls hP hD hS hl
  refine lv_aload_n hx hb dX3_told_0 rfl (lv_at hl 0 rfl) ?_
  refine lv_iload_n hx hb dX3_told_1 rfl (lv_at hl 1 rfl) ?_
  refine mVi (wr := [aI aMN cI 60 fMN]) (As := [.int x1]) (rest := []) ⟨hx, hb, hml, hown, hts⟩ (c_X3_isPost (l := l) (dC := dC) (dI := dI) (cI := cI) (cJ := cJ) (cZ := cZ) (aM := aM) (aMM := aMM) (aML := aML) (aMY := aMY) (aMT := aMT) (aMR := aMR) (aMB := aMB) (aMN := aMN) h) (cwV 1 hts gX3_told_X3_isPost rfl rfl rfl hv_X3_isPost ⟨Nat.le_of_ble_eq_true rfl, Nat.le_of_ble_eq_true rfl⟩) hK hP hD hS hA [0] [1] rfl rfl rfl rfl (by decide) 3 rfl rfl rfl rfl hl.1 rfl (Nat.le_of_ble_eq_true rfl) ⟨Nat.zero_le _, Nat.zero_le _⟩ dX3_told_2 (fun r2 u2 H locs h hP hD hS => ?_)
  have hP : va_P (dC, dI) vwCl [oM aM aMM aML aMY aMT aMR aMB aMN mk mp, aI aMN cI 60 fMN] H := hP.sub [1, 0] rfl
  have hD : va_D A [oM aM aMM aML aMY aMT aMR aMB aMN mk mp, aI aMN cI 60 fMN] := hD.sub [1, 0] rfl rfl
  refine lv_if_eq (tgt := 17) hx hb dX3_told_5 (by decide) (fun q5 => ?_) (fun q5 => ?_)
  · have h := h.1 q5
    refine lv_iconst (v := -1) hx hb dX3_told_17 (by decide) ?_
    exact ret _  H locs ls _ dX3_told_18 h hP hD hS
  · have h := h.2 q5
    refine lv_aload_n hx hb dX3_told_8 rfl (lv_at hl 0 rfl) ?_
    refine va_get (D := (dC, dI)) (ci := 3) (v := .ref aMN) (C := RX3) (T := TX3) (N := 9) hx hb hts in_X3 hown hK hP 0 rfl rfl 8 (by decide) k_30 (fun _ h9 => h9) rfl dX3_told_9 ?_
    refine lv_iload_n hx hb dX3_told_12 rfl (lv_at hl 1 rfl) ?_
    refine va_iald (D := (dC, dI)) hx hb hK hP 1 0 rfl rfl h.1 dX3_told_13 ?_
    have h := h.2
    refine lv_goto (tgt := 18) hx hb dX3_told_14 (by decide) ?_
    exact ret _  H locs ls _ dX3_told_18 h hP hD hS
set_option maxHeartbeats 4000000 in
set_option maxRecDepth 100000 in
theorem c_X3_told {l : Launch} {dC : Nat → ClassId} {dI : Nat → Nat → Nat} {cI cJ cZ : ClassId} {aM aMM aML aMY aMT aMR aMB aMN : Nat} {mk : Int32} {mp : Int32} {fMN : (Nat → Int32)} {x1 : Int32} {post : Int32 → Prop} (h : wp_X3_told x1 mk mp fMN post) : ∀ sz, Met l yX3_told wsX3_told rm_X3_told (mP (dC, dI) (mTy cI cJ cZ) [.ref aM, .int x1] [oM aM aMM aML aMY aMT aMR aMB aMN mk mp, aI aMN cI 60 fMN] sz) (va_Qi (fun (r : Int32) (u : Unit) => post r ) (mB (dC, dI) (va_A [oM aM aMM aML aMY aMT aMR aMB aMN mk mp, aI aMN cI 60 fMN] sz) (fun u => [oM aM aMM aML aMY aMT aMR aMB aMN mk mp, aI aMN cI 60 fMN])) (va_A [oM aM aMM aML aMY aMT aMR aMB aMN mk mp, aI aMN cI 60 fMN] sz)) 0 0 (va_A [oM aM aMM aML aMY aMT aMR aMB aMN mk mp, aI aMN cI 60 fMN] sz) := by
  intro sz
  refine Met.ofW (cc := cX3_told) (maxL := 2) (ret := (some .int)) (by decide) rfl ?_
  intro p e s m args below meth c s₁ B hml hv
  obtain ⟨rfl, hsz, hP, hK, hD0⟩ := hv
  have hlocks := B.notSynchronized
  subst hsz
  have hD := hD0.self (sz := s.heap.size)
  have hl := lv_entry ([.ref aM, .int x1]) (n := 2) (Nat.le_of_ble_eq_true rfl)
  rw [lg_entry_eq]
  exact k_X3_told B.exec B.bytes hml (findClass_of_methodNamed B.named) (atoms_spec (ws := wsX3_told) B.pre) hK (fun q hq => Or.inr hq) (fun r H locs ls pc hd hp hP hD hS => W.iret B.exec B.bytes B.returns (fun t ht hW => ⟨⟨r, (), rfl, hp, by rw [ht]; exact hP, hD⟩, hS.F ht⟩) hS.2.2 hd) h s.heap [] _ hP hD va_S.rf hl

def wp_X3_likes_b4 (x1 : Int32) (x2 : Int32) (mk : Int32) (mp : Int32) (fMN : (Nat → Int32)) (post : Int32 → Prop)  : Prop := ∀ P4 : Int32 → Int32 → Prop, (∀ (x1 : Int32) (x2 : Int32), ((mp ≤ x2 → post x1) ∧ (¬ mp ≤ x2 → (vp_in x2 60 ∧ wp_X3_place (x2 + (1 : Int32)) mk mp (fun (r27 : Int32) => (vp_in r27 60 ∧ ((¬ (fMN x2.toNatClampNeg) = (fMN r27.toNatClampNeg) → (∀ v40 : Int32, v40 = (x1 + (0 : Int32)) → (∀ v41 : Int32, v41 = x2 + (1 : Int32) → P4 v40 v41))) ∧ ((fMN x2.toNatClampNeg) = (fMN r27.toNatClampNeg) → (∀ v40 : Int32, v40 = (x1 + (1 : Int32)) → (∀ v41 : Int32, v41 = x2 + (1 : Int32) → P4 v40 v41))))))))) → P4 x1 x2) → P4 x1 x2
def wp_X3_likes  (mk : Int32) (mp : Int32) (fMN : (Nat → Int32)) (post : Int32 → Prop) : Prop := wp_X3_likes_b4 (0 : Int32) (0 : Int32) mk mp fMN post
abbrev rm_X3_likes : Room := { frames := 1, cells := 0, slots := 0, locals := 21 }
theorem hv_X3_likes : yX3_likes.cls = RX3 ∧ yX3_likes.cls ≠ "java/lang/invoke/MethodHandle" ∧ yX3_likes.cls ≠ "java/lang/invoke/VarHandle" ∧ (parseMethodDescriptor yX3_likes.desc).map (fun d => d.parameters.length) = some 0 := by decide +kernel
set_option maxHeartbeats 4000000 in
set_option maxRecDepth 100000 in
theorem k_X3_likes {p : Program} {l : Launch} {e : Env} {s : State} {m : MethodId} {args : Array Value} {below : List Frame} {meth : Method} {c : Code} {Q : State → Prop} {A : Nat → Prop} {dC : Nat → ClassId} {dI : Nat → Nat → Nat} {cI cJ cZ : ClassId} (hx : p.tables.exec = Jvm.exec) (hb : c.code = cX3_likes) (hml : c.maxLocals = 3) (hown : s.vm.findClass RX3 = some m.cls) (hts : ∀ w ∈ wsX3_likes, w.before args s = true) (hK : va_K (dC, dI) vwCl (mTy cI cJ cZ) s) (hA : ∀ q, s.heap.size ≤ q → A q) {aM aMM aML aMY aMT aMR aMB aMN : Nat} {mk : Int32} {mp : Int32} {fMN : (Nat → Int32)}  {post : Int32 → Prop} (ret : ∀ (r : Int32) (H : Heap) (locs : List Loc) (ls : Array Slot) (pc : Nat), decode cX3_likes pc = .ok (.ireturn, 1) → post r → va_P (dC, dI) vwCl [oM aM aMM aML aMY aMT aMR aMB aMN mk mp, aI aMN cI 60 fMN] H → va_D A [oM aM aMM aML aMY aMT aMR aMB aMN mk mp, aI aMN cI 60 fMN] → va_S A s.heap H locs → W p l e rm_X3_likes s m args below meth c H locs 0 0 Q (F0 m pc ls [.int r])) (h : wp_X3_likes  mk mp fMN post) : mW p l e rm_X3_likes s m args below meth c 0 0 Q A (dC, dI) 3 [oM aM aMM aML aMY aMT aMR aMB aMN mk mp, aI aMN cI 60 fMN] [(0, .ref aM)] 0 [] := by
  have in_X3 : ∀ w ∈ wsX30, w ∈ wsX3_likes := fun w hw => List.mem_cons_of_mem _ (List.mem_append_right _ hw)
  have k_102 := hts (.fieldLink RX3 102 "RingTasksModel" "posts" "I") (List.mem_of_getElem? (i := 1) rfl)
  have k_30 := hts (.fieldLink RX3 30 "RingTasksModel" "number" "[I") (List.mem_of_getElem? (i := 2) rfl)
  have B4 : ∀ (x1 : Int32) (x2 : Int32), wp_X3_likes_b4 x1 x2 mk mp fMN post → mW p l e rm_X3_likes s m args below meth c 0 0 Q A (dC, dI) 3 [oM aM aMM aML aMY aMT aMR aMB aMN mk mp, aI aMN cI 60 fMN] [(0, .ref aM), (1, .int x1), (2, .int x2)] 4 [] := by
    intro x1 x2 h
    unfold wp_X3_likes_b4 at h
    refine h (fun (x1 : Int32) (x2 : Int32) => mW p l e rm_X3_likes s m args below meth c 0 0 Q A (dC, dI) 3 [oM aM aMM aML aMY aMT aMR aMB aMN mk mp, aI aMN cI 60 fMN] [(0, .ref aM), (1, .int x1), (2, .int x2)] 4 []) ?_
    intro x1 x2 h
    intro H locs ls hP hD hS hl
    refine lv_iload_n hx hb dX3_likes_4 rfl (lv_at hl 2 rfl) ?_
    refine lv_aload_n hx hb dX3_likes_5 rfl (lv_at hl 0 rfl) ?_
    refine va_get (D := (dC, dI)) (ci := 3) (v := .int mp) (C := RX3) (T := TX3) (N := 9) hx hb hts in_X3 hown hK hP 0 rfl rfl 6 (by decide) k_102 (fun _ h9 => h9) rfl dX3_likes_6 ?_
    refine lv_icmp_ge (tgt := 47) hx hb dX3_likes_9 (by decide) (fun q9 => ?_) (fun q9 => ?_)
    · have h := h.1 q9
      refine lv_iload_n hx hb dX3_likes_47 rfl (lv_at hl 1 rfl) ?_
      exact ret _  H locs ls _ dX3_likes_48 h hP hD hS
    · have h := h.2 q9
      refine lv_iload_n hx hb dX3_likes_12 rfl (lv_at hl 1 rfl) ?_
      refine lv_aload_n hx hb dX3_likes_13 rfl (lv_at hl 0 rfl) ?_
      refine va_get (D := (dC, dI)) (ci := 3) (v := .ref aMN) (C := RX3) (T := TX3) (N := 9) hx hb hts in_X3 hown hK hP 0 rfl rfl 8 (by decide) k_30 (fun _ h9 => h9) rfl dX3_likes_14 ?_
      refine lv_iload_n hx hb dX3_likes_17 rfl (lv_at hl 2 rfl) ?_
      refine va_iald (D := (dC, dI)) hx hb hK hP 1 0 rfl rfl h.1 dX3_likes_18 ?_
      have h := h.2
      refine lv_aload_n hx hb dX3_likes_19 rfl (lv_at hl 0 rfl) ?_
      refine va_get (D := (dC, dI)) (ci := 3) (v := .ref aMN) (C := RX3) (T := TX3) (N := 9) hx hb hts in_X3 hown hK hP 0 rfl rfl 8 (by decide) k_30 (fun _ h9 => h9) rfl dX3_likes_20 ?_
      refine lv_aload_n hx hb dX3_likes_23 rfl (lv_at hl 0 rfl) ?_
      refine lv_iload_n hx hb dX3_likes_24 rfl (lv_at hl 2 rfl) ?_
      refine lv_iconst (v := 1) hx hb dX3_likes_25 (by decide) ?_
      refine lv_iadd hx hb dX3_likes_26 ?_
      refine mVi (wr := [aI aMN cI 60 fMN]) (As := [.int (x2 + (1 : Int32))]) (rest := [.ref aMN, .int (fMN x2.toNatClampNeg), .int x1]) ⟨hx, hb, hml, hown, hts⟩ (c_X3_place (l := l) (dC := dC) (dI := dI) (cI := cI) (cJ := cJ) (cZ := cZ) (aM := aM) (aMM := aMM) (aML := aML) (aMY := aMY) (aMT := aMT) (aMR := aMR) (aMB := aMB) (aMN := aMN) h) (cwV 1 hts gX3_likes_X3_place rfl rfl rfl hv_X3_place ⟨Nat.le_of_ble_eq_true rfl, Nat.le_of_ble_eq_true rfl⟩) hK hP hD hS hA [0] [1] rfl rfl rfl rfl (by decide) 3 rfl rfl rfl rfl hl.1 rfl (Nat.le_of_ble_eq_true rfl) ⟨Nat.zero_le _, Nat.zero_le _⟩ dX3_likes_27 (fun r27 u27 H locs h hP hD hS => ?_)
      have hP : va_P (dC, dI) vwCl [oM aM aMM aML aMY aMT aMR aMB aMN mk mp, aI aMN cI 60 fMN] H := hP.sub [1, 0] rfl
      have hD : va_D A [oM aM aMM aML aMY aMT aMR aMB aMN mk mp, aI aMN cI 60 fMN] := hD.sub [1, 0] rfl rfl
      refine va_iald (D := (dC, dI)) hx hb hK hP 1 0 rfl rfl h.1 dX3_likes_30 ?_
      have h := h.2
      refine lv_icmp_ne (tgt := 38) hx hb dX3_likes_31 (by decide) (fun q31 => ?_) (fun q31 => ?_)
      · have h := h.1 q31
        refine lv_iconst (v := 0) hx hb dX3_likes_38 (by decide) ?_
        refine lv_iadd hx hb dX3_likes_39 ?_
        refine lv_topi (fun v40 ev40 => ?_)
        have h := h v40 ev40
        refine lv_istore_n (lv' := [(1, .int v40), (0, .ref aM), (2, .int x2)]) hx hb dX3_likes_40 rfl hl (by decide) rfl (fun ls hl => ?_)
        obtain ⟨v41, ev41⟩ : ∃ y : Int32, y = x2 + (1 : Int32) := ⟨_, rfl⟩
        have h := h v41 ev41
        refine lv_iinc (v := v41) (lv' := [(2, .int v41), (1, .int v40), (0, .ref aM)]) hx hb dX3_likes_41 hl (k := 2) rfl (by rw [ev41]; rfl) (by decide) rfl (fun ls hl => ?_)
        refine lv_goto (tgt := 4) hx hb dX3_likes_44 (by decide) ?_
        exact h H locs ls hP hD hS (lv_sub hl [2, 1, 0] rfl)
      · have h := h.2 q31
        refine lv_iconst (v := 1) hx hb dX3_likes_34 (by decide) ?_
        refine lv_goto (tgt := 39) hx hb dX3_likes_35 (by decide) ?_
        refine lv_iadd hx hb dX3_likes_39 ?_
        refine lv_topi (fun v40 ev40 => ?_)
        have h := h v40 ev40
        refine lv_istore_n (lv' := [(1, .int v40), (0, .ref aM), (2, .int x2)]) hx hb dX3_likes_40 rfl hl (by decide) rfl (fun ls hl => ?_)
        obtain ⟨v41, ev41⟩ : ∃ y : Int32, y = x2 + (1 : Int32) := ⟨_, rfl⟩
        have h := h v41 ev41
        refine lv_iinc (v := v41) (lv' := [(2, .int v41), (1, .int v40), (0, .ref aM)]) hx hb dX3_likes_41 hl (k := 2) rfl (by rw [ev41]; rfl) (by decide) rfl (fun ls hl => ?_)
        refine lv_goto (tgt := 4) hx hb dX3_likes_44 (by decide) ?_
        exact h H locs ls hP hD hS (lv_sub hl [2, 1, 0] rfl)
  unfold wp_X3_likes at h
  intro H locs ls hP hD hS hl
  refine lv_iconst (v := 0) hx hb dX3_likes_0 (by decide) ?_
  refine lv_istore_n (lv' := [(1, .int (0 : Int32)), (0, .ref aM)]) hx hb dX3_likes_1 rfl hl (by decide) rfl (fun ls hl => ?_)
  refine lv_iconst (v := 0) hx hb dX3_likes_2 (by decide) ?_
  refine lv_istore_n (lv' := [(2, .int (0 : Int32)), (1, .int (0 : Int32)), (0, .ref aM)]) hx hb dX3_likes_3 rfl hl (by decide) rfl (fun ls hl => ?_)
  exact B4 _ _ h H locs ls hP hD hS (lv_sub hl [2, 1, 0] rfl)
set_option maxHeartbeats 4000000 in
set_option maxRecDepth 100000 in
theorem c_X3_likes {l : Launch} {dC : Nat → ClassId} {dI : Nat → Nat → Nat} {cI cJ cZ : ClassId} {aM aMM aML aMY aMT aMR aMB aMN : Nat} {mk : Int32} {mp : Int32} {fMN : (Nat → Int32)}  {post : Int32 → Prop} (h : wp_X3_likes  mk mp fMN post) : ∀ sz, Met l yX3_likes wsX3_likes rm_X3_likes (mP (dC, dI) (mTy cI cJ cZ) [.ref aM] [oM aM aMM aML aMY aMT aMR aMB aMN mk mp, aI aMN cI 60 fMN] sz) (va_Qi (fun (r : Int32) (u : Unit) => post r ) (mB (dC, dI) (va_A [oM aM aMM aML aMY aMT aMR aMB aMN mk mp, aI aMN cI 60 fMN] sz) (fun u => [oM aM aMM aML aMY aMT aMR aMB aMN mk mp, aI aMN cI 60 fMN])) (va_A [oM aM aMM aML aMY aMT aMR aMB aMN mk mp, aI aMN cI 60 fMN] sz)) 0 0 (va_A [oM aM aMM aML aMY aMT aMR aMB aMN mk mp, aI aMN cI 60 fMN] sz) := by
  intro sz
  refine Met.ofW (cc := cX3_likes) (maxL := 3) (ret := (some .int)) (by decide) rfl ?_
  intro p e s m args below meth c s₁ B hml hv
  obtain ⟨rfl, hsz, hP, hK, hD0⟩ := hv
  have hlocks := B.notSynchronized
  subst hsz
  have hD := hD0.self (sz := s.heap.size)
  have hl := lv_entry ([.ref aM]) (n := 3) (Nat.le_of_ble_eq_true rfl)
  rw [lg_entry_eq]
  exact k_X3_likes B.exec B.bytes hml (findClass_of_methodNamed B.named) (atoms_spec (ws := wsX3_likes) B.pre) hK (fun q hq => Or.inr hq) (fun r H locs ls pc hd hp hP hD hS => W.iret B.exec B.bytes B.returns (fun t ht hW => ⟨⟨r, (), rfl, hp, by rw [ht]; exact hP, hD⟩, hS.F ht⟩) hS.2.2 hd) h s.heap [] _ hP hD va_S.rf hl

def wp_X3_greatest_b4 (x1 : Int32) (x2 : Int32) (mk : Int32) (mp : Int32) (fMN : (Nat → Int32)) (post : Int32 → Prop)  : Prop := ∀ P4 : Int32 → Int32 → Prop, (∀ (x1 : Int32) (x2 : Int32), ((mp ≤ x2 → post x1) ∧ (¬ mp ≤ x2 → (vp_in x2 60 ∧ (((fMN x2.toNatClampNeg) ≤ x1 → (∀ v33 : Int32, v33 = x2 + (1 : Int32) → P4 x1 v33)) ∧ (¬ (fMN x2.toNatClampNeg) ≤ x1 → (vp_in x2 60 ∧ (∀ v32 : Int32, v32 = (fMN x2.toNatClampNeg) → (∀ v33 : Int32, v33 = x2 + (1 : Int32) → P4 v32 v33)))))))) → P4 x1 x2) → P4 x1 x2
def wp_X3_greatest  (mk : Int32) (mp : Int32) (fMN : (Nat → Int32)) (post : Int32 → Prop) : Prop := wp_X3_greatest_b4 (0 : Int32) (0 : Int32) mk mp fMN post
abbrev rm_X3_greatest : Room := { frames := 0, cells := 0, slots := 0, locals := 0 }
theorem hv_X3_greatest : yX3_greatest.cls = RX3 ∧ yX3_greatest.cls ≠ "java/lang/invoke/MethodHandle" ∧ yX3_greatest.cls ≠ "java/lang/invoke/VarHandle" ∧ (parseMethodDescriptor yX3_greatest.desc).map (fun d => d.parameters.length) = some 0 := by decide +kernel
set_option maxHeartbeats 4000000 in
set_option maxRecDepth 100000 in
theorem k_X3_greatest {p : Program} {l : Launch} {e : Env} {s : State} {m : MethodId} {args : Array Value} {below : List Frame} {meth : Method} {c : Code} {Q : State → Prop} {A : Nat → Prop} {dC : Nat → ClassId} {dI : Nat → Nat → Nat} {cI cJ cZ : ClassId} (hx : p.tables.exec = Jvm.exec) (hb : c.code = cX3_greatest) (hml : c.maxLocals = 3) (hown : s.vm.findClass RX3 = some m.cls) (hts : ∀ w ∈ wsX3_greatest, w.before args s = true) (hK : va_K (dC, dI) vwCl (mTy cI cJ cZ) s) (hA : ∀ q, s.heap.size ≤ q → A q) {aM aMM aML aMY aMT aMR aMB aMN : Nat} {mk : Int32} {mp : Int32} {fMN : (Nat → Int32)}  {post : Int32 → Prop} (ret : ∀ (r : Int32) (H : Heap) (locs : List Loc) (ls : Array Slot) (pc : Nat), decode cX3_greatest pc = .ok (.ireturn, 1) → post r → va_P (dC, dI) vwCl [oM aM aMM aML aMY aMT aMR aMB aMN mk mp, aI aMN cI 60 fMN] H → va_D A [oM aM aMM aML aMY aMT aMR aMB aMN mk mp, aI aMN cI 60 fMN] → va_S A s.heap H locs → W p l e rm_X3_greatest s m args below meth c H locs 0 0 Q (F0 m pc ls [.int r])) (h : wp_X3_greatest  mk mp fMN post) : mW p l e rm_X3_greatest s m args below meth c 0 0 Q A (dC, dI) 3 [oM aM aMM aML aMY aMT aMR aMB aMN mk mp, aI aMN cI 60 fMN] [(0, .ref aM)] 0 [] := by
  have in_X3 : ∀ w ∈ wsX30, w ∈ wsX3_greatest := fun w hw => List.mem_cons_of_mem _ (List.mem_append_right _ hw)
  have k_102 := hts (.fieldLink RX3 102 "RingTasksModel" "posts" "I") (List.mem_of_getElem? (i := 1) rfl)
  have k_30 := hts (.fieldLink RX3 30 "RingTasksModel" "number" "[I") (List.mem_of_getElem? (i := 2) rfl)
  have B4 : ∀ (x1 : Int32) (x2 : Int32), wp_X3_greatest_b4 x1 x2 mk mp fMN post → mW p l e rm_X3_greatest s m args below meth c 0 0 Q A (dC, dI) 3 [oM aM aMM aML aMY aMT aMR aMB aMN mk mp, aI aMN cI 60 fMN] [(0, .ref aM), (1, .int x1), (2, .int x2)] 4 [] := by
    intro x1 x2 h
    unfold wp_X3_greatest_b4 at h
    refine h (fun (x1 : Int32) (x2 : Int32) => mW p l e rm_X3_greatest s m args below meth c 0 0 Q A (dC, dI) 3 [oM aM aMM aML aMY aMT aMR aMB aMN mk mp, aI aMN cI 60 fMN] [(0, .ref aM), (1, .int x1), (2, .int x2)] 4 []) ?_
    intro x1 x2 h
    intro H locs ls hP hD hS hl
    refine lv_iload_n hx hb dX3_greatest_4 rfl (lv_at hl 2 rfl) ?_
    refine lv_aload_n hx hb dX3_greatest_5 rfl (lv_at hl 0 rfl) ?_
    refine va_get (D := (dC, dI)) (ci := 3) (v := .int mp) (C := RX3) (T := TX3) (N := 9) hx hb hts in_X3 hown hK hP 0 rfl rfl 6 (by decide) k_102 (fun _ h9 => h9) rfl dX3_greatest_6 ?_
    refine lv_icmp_ge (tgt := 39) hx hb dX3_greatest_9 (by decide) (fun q9 => ?_) (fun q9 => ?_)
    · have h := h.1 q9
      refine lv_iload_n hx hb dX3_greatest_39 rfl (lv_at hl 1 rfl) ?_
      exact ret _  H locs ls _ dX3_greatest_40 h hP hD hS
    · have h := h.2 q9
      refine lv_aload_n hx hb dX3_greatest_12 rfl (lv_at hl 0 rfl) ?_
      refine va_get (D := (dC, dI)) (ci := 3) (v := .ref aMN) (C := RX3) (T := TX3) (N := 9) hx hb hts in_X3 hown hK hP 0 rfl rfl 8 (by decide) k_30 (fun _ h9 => h9) rfl dX3_greatest_13 ?_
      refine lv_iload_n hx hb dX3_greatest_16 rfl (lv_at hl 2 rfl) ?_
      refine va_iald (D := (dC, dI)) hx hb hK hP 1 0 rfl rfl h.1 dX3_greatest_17 ?_
      have h := h.2
      refine lv_iload_n hx hb dX3_greatest_18 rfl (lv_at hl 1 rfl) ?_
      refine lv_icmp_le (tgt := 31) hx hb dX3_greatest_19 (by decide) (fun q19 => ?_) (fun q19 => ?_)
      · have h := h.1 q19
        refine lv_iload_n hx hb dX3_greatest_31 rfl (lv_at hl 1 rfl) ?_
        refine lv_istore_n (lv' := [(1, .int x1), (0, .ref aM), (2, .int x2)]) hx hb dX3_greatest_32 rfl hl (by decide) rfl (fun ls hl => ?_)
        obtain ⟨v33, ev33⟩ : ∃ y : Int32, y = x2 + (1 : Int32) := ⟨_, rfl⟩
        have h := h v33 ev33
        refine lv_iinc (v := v33) (lv' := [(2, .int v33), (1, .int x1), (0, .ref aM)]) hx hb dX3_greatest_33 hl (k := 2) rfl (by rw [ev33]; rfl) (by decide) rfl (fun ls hl => ?_)
        refine lv_goto (tgt := 4) hx hb dX3_greatest_36 (by decide) ?_
        exact h H locs ls hP hD hS (lv_sub hl [2, 1, 0] rfl)
      · have h := h.2 q19
        refine lv_aload_n hx hb dX3_greatest_22 rfl (lv_at hl 0 rfl) ?_
        refine va_get (D := (dC, dI)) (ci := 3) (v := .ref aMN) (C := RX3) (T := TX3) (N := 9) hx hb hts in_X3 hown hK hP 0 rfl rfl 8 (by decide) k_30 (fun _ h9 => h9) rfl dX3_greatest_23 ?_
        refine lv_iload_n hx hb dX3_greatest_26 rfl (lv_at hl 2 rfl) ?_
        refine va_iald (D := (dC, dI)) hx hb hK hP 1 0 rfl rfl h.1 dX3_greatest_27 ?_
        have h := h.2
        refine lv_goto (tgt := 32) hx hb dX3_greatest_28 (by decide) ?_
        refine lv_topi (fun v32 ev32 => ?_)
        have h := h v32 ev32
        refine lv_istore_n (lv' := [(1, .int v32), (0, .ref aM), (2, .int x2)]) hx hb dX3_greatest_32 rfl hl (by decide) rfl (fun ls hl => ?_)
        obtain ⟨v33, ev33⟩ : ∃ y : Int32, y = x2 + (1 : Int32) := ⟨_, rfl⟩
        have h := h v33 ev33
        refine lv_iinc (v := v33) (lv' := [(2, .int v33), (1, .int v32), (0, .ref aM)]) hx hb dX3_greatest_33 hl (k := 2) rfl (by rw [ev33]; rfl) (by decide) rfl (fun ls hl => ?_)
        refine lv_goto (tgt := 4) hx hb dX3_greatest_36 (by decide) ?_
        exact h H locs ls hP hD hS (lv_sub hl [2, 1, 0] rfl)
  unfold wp_X3_greatest at h
  intro H locs ls hP hD hS hl
  refine lv_iconst (v := 0) hx hb dX3_greatest_0 (by decide) ?_
  refine lv_istore_n (lv' := [(1, .int (0 : Int32)), (0, .ref aM)]) hx hb dX3_greatest_1 rfl hl (by decide) rfl (fun ls hl => ?_)
  refine lv_iconst (v := 0) hx hb dX3_greatest_2 (by decide) ?_
  refine lv_istore_n (lv' := [(2, .int (0 : Int32)), (1, .int (0 : Int32)), (0, .ref aM)]) hx hb dX3_greatest_3 rfl hl (by decide) rfl (fun ls hl => ?_)
  exact B4 _ _ h H locs ls hP hD hS (lv_sub hl [2, 1, 0] rfl)
set_option maxHeartbeats 4000000 in
set_option maxRecDepth 100000 in
theorem c_X3_greatest {l : Launch} {dC : Nat → ClassId} {dI : Nat → Nat → Nat} {cI cJ cZ : ClassId} {aM aMM aML aMY aMT aMR aMB aMN : Nat} {mk : Int32} {mp : Int32} {fMN : (Nat → Int32)}  {post : Int32 → Prop} (h : wp_X3_greatest  mk mp fMN post) : ∀ sz, Met l yX3_greatest wsX3_greatest rm_X3_greatest (mP (dC, dI) (mTy cI cJ cZ) [.ref aM] [oM aM aMM aML aMY aMT aMR aMB aMN mk mp, aI aMN cI 60 fMN] sz) (va_Qi (fun (r : Int32) (u : Unit) => post r ) (mB (dC, dI) (va_A [oM aM aMM aML aMY aMT aMR aMB aMN mk mp, aI aMN cI 60 fMN] sz) (fun u => [oM aM aMM aML aMY aMT aMR aMB aMN mk mp, aI aMN cI 60 fMN])) (va_A [oM aM aMM aML aMY aMT aMR aMB aMN mk mp, aI aMN cI 60 fMN] sz)) 0 0 (va_A [oM aM aMM aML aMY aMT aMR aMB aMN mk mp, aI aMN cI 60 fMN] sz) := by
  intro sz
  refine Met.ofW (cc := cX3_greatest) (maxL := 3) (ret := (some .int)) (by decide) rfl ?_
  intro p e s m args below meth c s₁ B hml hv
  obtain ⟨rfl, hsz, hP, hK, hD0⟩ := hv
  have hlocks := B.notSynchronized
  subst hsz
  have hD := hD0.self (sz := s.heap.size)
  have hl := lv_entry ([.ref aM]) (n := 3) (Nat.le_of_ble_eq_true rfl)
  rw [lg_entry_eq]
  exact k_X3_greatest B.exec B.bytes hml (findClass_of_methodNamed B.named) (atoms_spec (ws := wsX3_greatest) B.pre) hK (fun q hq => Or.inr hq) (fun r H locs ls pc hd hp hP hD hS => W.iret B.exec B.bytes B.returns (fun t ht hW => ⟨⟨r, (), rfl, hp, by rw [ht]; exact hP, hD⟩, hS.F ht⟩) hS.2.2 hd) h s.heap [] _ hP hD va_S.rf hl

def wp_X3_lowest_b2 (x0 : Int32) (x1 : Int32) (x2 : Int32)  (post : Int32 → Prop)  : Prop := ∀ P2 : Int32 → Prop, (∀ (x2 : Int32), ((¬ ((x0 >>> (x2 &&& 31)) &&& (1 : Int32)) = ((x1 >>> (x2 &&& 31)) &&& (1 : Int32)) → post (((2 : Int32) * x2) + ((x0 >>> (x2 &&& 31)) &&& (1 : Int32)))) ∧ (((x0 >>> (x2 &&& 31)) &&& (1 : Int32)) = ((x1 >>> (x2 &&& 31)) &&& (1 : Int32)) → (∀ v15 : Int32, v15 = x2 + (1 : Int32) → P2 v15))) → P2 x2) → P2 x2
def wp_X3_lowest (x0 : Int32) (x1 : Int32)  (post : Int32 → Prop) : Prop := wp_X3_lowest_b2 x0 x1 (0 : Int32) post
abbrev rm_X3_lowest : Room := { frames := 0, cells := 0, slots := 0, locals := 0 }
theorem hv_X3_lowest : yX3_lowest.cls ≠ "java/lang/invoke/MethodHandle" ∧ yX3_lowest.cls ≠ "java/lang/invoke/VarHandle" ∧ (parseMethodDescriptor yX3_lowest.desc).map (fun d => d.parameters.length) = some 2 := by decide +kernel
set_option maxHeartbeats 4000000 in
set_option maxRecDepth 100000 in
theorem k_X3_lowest {p : Program} {l : Launch} {e : Env} {s : State} {m : MethodId} {args : Array Value} {below : List Frame} {meth : Method} {c : Code} {Q : State → Prop} {A : Nat → Prop} {dC : Nat → ClassId} {dI : Nat → Nat → Nat} {cI cJ cZ : ClassId} (hx : p.tables.exec = Jvm.exec) (hb : c.code = cX3_lowest) (hml : c.maxLocals = 3) (hown : s.vm.findClass RX3 = some m.cls) (hts : ∀ w ∈ wsX3_lowest, w.before args s = true) (hK : va_K (dC, dI) vwCl (mTy cI cJ cZ) s) (hA : ∀ q, s.heap.size ≤ q → A q)  {x0 : Int32} {x1 : Int32} {post : Int32 → Prop} (ret : ∀ (r : Int32) (H : Heap) (locs : List Loc) (ls : Array Slot) (pc : Nat), decode cX3_lowest pc = .ok (.ireturn, 1) → post r → va_P (dC, dI) vwCl [] H → va_D A [] → va_S A s.heap H locs → W p l e rm_X3_lowest s m args below meth c H locs 0 0 Q (F0 m pc ls [.int r])) (h : wp_X3_lowest x0 x1  post) : mW p l e rm_X3_lowest s m args below meth c 0 0 Q A (dC, dI) 3 [] [(0, .int x0), (1, .int x1)] 0 [] := by
  have B2 : ∀ (x0 : Int32) (x1 : Int32) (x2 : Int32), wp_X3_lowest_b2 x0 x1 x2  post → mW p l e rm_X3_lowest s m args below meth c 0 0 Q A (dC, dI) 3 [] [(0, .int x0), (1, .int x1), (2, .int x2)] 2 [] := by
    intro x0 x1 x2 h
    unfold wp_X3_lowest_b2 at h
    refine h (fun (x2 : Int32) => mW p l e rm_X3_lowest s m args below meth c 0 0 Q A (dC, dI) 3 [] [(0, .int x0), (1, .int x1), (2, .int x2)] 2 []) ?_
    intro x2 h
    intro H locs ls hP hD hS hl
    refine lv_iload_n hx hb dX3_lowest_2 rfl (lv_at hl 0 rfl) ?_
    refine lv_iload_n hx hb dX3_lowest_3 rfl (lv_at hl 2 rfl) ?_
    refine lv_ishr hx hb dX3_lowest_4 ?_
    refine lv_iconst (v := 1) hx hb dX3_lowest_5 (by decide) ?_
    refine lv_iand hx hb dX3_lowest_6 ?_
    refine lv_iload_n hx hb dX3_lowest_7 rfl (lv_at hl 1 rfl) ?_
    refine lv_iload_n hx hb dX3_lowest_8 rfl (lv_at hl 2 rfl) ?_
    refine lv_ishr hx hb dX3_lowest_9 ?_
    refine lv_iconst (v := 1) hx hb dX3_lowest_10 (by decide) ?_
    refine lv_iand hx hb dX3_lowest_11 ?_
    refine lv_icmp_ne (tgt := 21) hx hb dX3_lowest_12 (by decide) (fun q12 => ?_) (fun q12 => ?_)
    · have h := h.1 q12
      refine lv_iconst (v := 2) hx hb dX3_lowest_21 (by decide) ?_
      refine lv_iload_n hx hb dX3_lowest_22 rfl (lv_at hl 2 rfl) ?_
      refine lv_imul hx hb dX3_lowest_23 ?_
      refine lv_iload_n hx hb dX3_lowest_24 rfl (lv_at hl 0 rfl) ?_
      refine lv_iload_n hx hb dX3_lowest_25 rfl (lv_at hl 2 rfl) ?_
      refine lv_ishr hx hb dX3_lowest_26 ?_
      refine lv_iconst (v := 1) hx hb dX3_lowest_27 (by decide) ?_
      refine lv_iand hx hb dX3_lowest_28 ?_
      refine lv_iadd hx hb dX3_lowest_29 ?_
      exact ret _  H locs ls _ dX3_lowest_30 h hP hD hS
    · have h := h.2 q12
      obtain ⟨v15, ev15⟩ : ∃ y : Int32, y = x2 + (1 : Int32) := ⟨_, rfl⟩
      have h := h v15 ev15
      refine lv_iinc (v := v15) (lv' := [(2, .int v15), (0, .int x0), (1, .int x1)]) hx hb dX3_lowest_15 hl (k := 2) rfl (by rw [ev15]; rfl) (by decide) rfl (fun ls hl => ?_)
      refine lv_goto (tgt := 2) hx hb dX3_lowest_18 (by decide) ?_
      exact h H locs ls hP hD hS (lv_sub hl [1, 2, 0] rfl)
  unfold wp_X3_lowest at h
  intro H locs ls hP hD hS hl
  refine lv_iconst (v := 0) hx hb dX3_lowest_0 (by decide) ?_
  refine lv_istore_n (lv' := [(2, .int (0 : Int32)), (0, .int x0), (1, .int x1)]) hx hb dX3_lowest_1 rfl hl (by decide) rfl (fun ls hl => ?_)
  exact B2 _ _ _ h H locs ls hP hD hS (lv_sub hl [1, 2, 0] rfl)
set_option maxHeartbeats 4000000 in
set_option maxRecDepth 100000 in
theorem c_X3_lowest {l : Launch} {dC : Nat → ClassId} {dI : Nat → Nat → Nat} {cI cJ cZ : ClassId}  {x0 : Int32} {x1 : Int32} {post : Int32 → Prop} (h : wp_X3_lowest x0 x1  post) : ∀ sz, Met l yX3_lowest wsX3_lowest rm_X3_lowest (mP (dC, dI) (mTy cI cJ cZ) [.int x0, .int x1] [] sz) (va_Qi (fun (r : Int32) (u : Unit) => post r ) (mB (dC, dI) (va_A [] sz) (fun u => [])) (va_A [] sz)) 0 0 (va_A [] sz) := by
  intro sz
  refine Met.ofW (cc := cX3_lowest) (maxL := 3) (ret := (some .int)) (by decide) rfl ?_
  intro p e s m args below meth c s₁ B hml hv
  obtain ⟨rfl, hsz, hP, hK, hD0⟩ := hv
  have hlocks := B.notSynchronized
  subst hsz
  have hD := hD0.self (sz := s.heap.size)
  have hl := lv_entry ([.int x0, .int x1]) (n := 3) (Nat.le_of_ble_eq_true rfl)
  rw [lg_entry_eq]
  exact k_X3_lowest B.exec B.bytes hml (findClass_of_methodNamed B.named) (atoms_spec (ws := wsX3_lowest) B.pre) hK (fun q hq => Or.inr hq) (fun r H locs ls pc hd hp hP hD hS => W.iret B.exec B.bytes B.returns (fun t ht hW => ⟨⟨r, (), rfl, hp, by rw [ht]; exact hP, hD⟩, hS.F ht⟩) hS.2.2 hd) h s.heap [] _ hP hD va_S.rf hl

def wp_X3_goRound_b45 (x1 : Int32) (mk : Int32) (mp : Int32) (fMR : (Nat → Int32)) (fMN : (Nat → Int32)) (post : (Nat → Int32) → (Nat → Int32) → Prop)  : Prop := ∀ P45 : Int32 → (Nat → Int32) → Prop, (∀ (x1 : Int32) (fMN : (Nat → Int32)), ((mp ≤ x1 → post fMR fMN) ∧ (¬ mp ≤ x1 → (vp_in x1 60 ∧ (vp_in x1 60 ∧ (∀ fMN_64 : (Nat → Int32), fMN_64 = upd fMN x1.toNatClampNeg (fMR x1.toNatClampNeg) → (∀ v65 : Int32, v65 = x1 + (1 : Int32) → P45 v65 fMN_64)))))) → P45 x1 fMN) → P45 x1 fMN
def wp_X3_goRound_b2 (x1 : Int32) (mk : Int32) (mp : Int32) (fMR : (Nat → Int32)) (fMN : (Nat → Int32)) (post : (Nat → Int32) → (Nat → Int32) → Prop)  : Prop := ∀ P2 : Int32 → (Nat → Int32) → Prop, (∀ (x1 : Int32) (fMR : (Nat → Int32)), ((mp ≤ x1 → wp_X3_goRound_b45 (0 : Int32) mk mp fMR fMN post) ∧ (¬ mp ≤ x1 → (vp_in x1 60 ∧ wp_X3_place (x1 + (1 : Int32)) mk mp (fun (r29 : Int32) => (vp_in r29 60 ∧ wp_X3_lowest (fMN x1.toNatClampNeg) (fMN r29.toNatClampNeg) (fun (r33 : Int32) => (vp_in x1 60 ∧ (∀ fMR_36 : (Nat → Int32), fMR_36 = upd fMR x1.toNatClampNeg r33 → (∀ v37 : Int32, v37 = x1 + (1 : Int32) → P2 v37 fMR_36))))))))) → P2 x1 fMR) → P2 x1 fMR
def wp_X3_goRound  (mk : Int32) (mp : Int32) (fMR : (Nat → Int32)) (fMN : (Nat → Int32)) (post : (Nat → Int32) → (Nat → Int32) → Prop) : Prop := wp_X3_goRound_b2 (0 : Int32) mk mp fMR fMN post
abbrev rm_X3_goRound : Room := { frames := 1, cells := 0, slots := 0, locals := 22 }
theorem hv_X3_goRound : yX3_goRound.cls = RX3 ∧ yX3_goRound.cls ≠ "java/lang/invoke/MethodHandle" ∧ yX3_goRound.cls ≠ "java/lang/invoke/VarHandle" ∧ (parseMethodDescriptor yX3_goRound.desc).map (fun d => d.parameters.length) = some 0 := by decide +kernel
set_option maxHeartbeats 4000000 in
set_option maxRecDepth 100000 in
theorem k_X3_goRound {p : Program} {l : Launch} {e : Env} {s : State} {m : MethodId} {args : Array Value} {below : List Frame} {meth : Method} {c : Code} {Q : State → Prop} {A : Nat → Prop} {dC : Nat → ClassId} {dI : Nat → Nat → Nat} {cI cJ cZ : ClassId} (hx : p.tables.exec = Jvm.exec) (hb : c.code = cX3_goRound) (hml : c.maxLocals = 2) (hown : s.vm.findClass RX3 = some m.cls) (hts : ∀ w ∈ wsX3_goRound, w.before args s = true) (hK : va_K (dC, dI) vwCl (mTy cI cJ cZ) s) (hA : ∀ q, s.heap.size ≤ q → A q) {aM aMM aML aMY aMT aMR aMB aMN : Nat} {mk : Int32} {mp : Int32} {fMR : (Nat → Int32)} {fMN : (Nat → Int32)}  {post : (Nat → Int32) → (Nat → Int32) → Prop} (ret : ∀ (fMR' : (Nat → Int32)) (fMN' : (Nat → Int32)) (H : Heap) (locs : List Loc) (ls : Array Slot) (pc : Nat), decode cX3_goRound pc = .ok (.return_, 1) → post fMR' fMN' → va_P (dC, dI) vwCl [oM aM aMM aML aMY aMT aMR aMB aMN mk mp, aI aMR cI 60 fMR', aI aMN cI 60 fMN'] H → va_D A [oM aM aMM aML aMY aMT aMR aMB aMN mk mp, aI aMR cI 60 fMR', aI aMN cI 60 fMN'] → va_S A s.heap H locs → W p l e rm_X3_goRound s m args below meth c H locs 0 0 Q (F0 m pc ls [])) (h : wp_X3_goRound  mk mp fMR fMN post) : mW p l e rm_X3_goRound s m args below meth c 0 0 Q A (dC, dI) 2 [oM aM aMM aML aMY aMT aMR aMB aMN mk mp, aI aMR cI 60 fMR, aI aMN cI 60 fMN] [(0, .ref aM)] 0 [] := by
  have in_X3 : ∀ w ∈ wsX30, w ∈ wsX3_goRound := fun w hw => List.mem_cons_of_mem _ (List.mem_append_right _ hw)
  have k_102 := hts (.fieldLink RX3 102 "RingTasksModel" "posts" "I") (List.mem_of_getElem? (i := 1) rfl)
  have k_23 := hts (.fieldLink RX3 23 "RingTasksModel" "row" "[I") (List.mem_of_getElem? (i := 2) rfl)
  have k_30 := hts (.fieldLink RX3 30 "RingTasksModel" "number" "[I") (List.mem_of_getElem? (i := 3) rfl)
  have B45 : ∀ (x1 : Int32) (fMR : (Nat → Int32)) (fMN : (Nat → Int32)), wp_X3_goRound_b45 x1 mk mp fMR fMN post → mW p l e rm_X3_goRound s m args below meth c 0 0 Q A (dC, dI) 2 [oM aM aMM aML aMY aMT aMR aMB aMN mk mp, aI aMR cI 60 fMR, aI aMN cI 60 fMN] [(0, .ref aM), (1, .int x1)] 45 [] := by
    intro x1 fMR fMN h
    unfold wp_X3_goRound_b45 at h
    refine h (fun (x1 : Int32) (fMN : (Nat → Int32)) => mW p l e rm_X3_goRound s m args below meth c 0 0 Q A (dC, dI) 2 [oM aM aMM aML aMY aMT aMR aMB aMN mk mp, aI aMR cI 60 fMR, aI aMN cI 60 fMN] [(0, .ref aM), (1, .int x1)] 45 []) ?_
    intro x1 fMN h
    intro H locs ls hP hD hS hl
    refine lv_iload_n hx hb dX3_goRound_45 rfl (lv_at hl 1 rfl) ?_
    refine lv_aload_n hx hb dX3_goRound_46 rfl (lv_at hl 0 rfl) ?_
    refine va_get (D := (dC, dI)) (ci := 3) (v := .int mp) (C := RX3) (T := TX3) (N := 9) hx hb hts in_X3 hown hK hP 0 rfl rfl 6 (by decide) k_102 (fun _ h9 => h9) rfl dX3_goRound_47 ?_
    refine lv_icmp_ge (tgt := 71) hx hb dX3_goRound_50 (by decide) (fun q50 => ?_) (fun q50 => ?_)
    · have h := h.1 q50
      exact ret _ _ H locs ls _ dX3_goRound_71 h hP hD hS
    · have h := h.2 q50
      refine lv_aload_n hx hb dX3_goRound_53 rfl (lv_at hl 0 rfl) ?_
      refine va_get (D := (dC, dI)) (ci := 3) (v := .ref aMN) (C := RX3) (T := TX3) (N := 9) hx hb hts in_X3 hown hK hP 0 rfl rfl 8 (by decide) k_30 (fun _ h9 => h9) rfl dX3_goRound_54 ?_
      refine lv_iload_n hx hb dX3_goRound_57 rfl (lv_at hl 1 rfl) ?_
      refine lv_aload_n hx hb dX3_goRound_58 rfl (lv_at hl 0 rfl) ?_
      refine va_get (D := (dC, dI)) (ci := 3) (v := .ref aMR) (C := RX3) (T := TX3) (N := 9) hx hb hts in_X3 hown hK hP 0 rfl rfl 5 (by decide) k_23 (fun _ h9 => h9) rfl dX3_goRound_59 ?_
      refine lv_iload_n hx hb dX3_goRound_62 rfl (lv_at hl 1 rfl) ?_
      refine va_iald (D := (dC, dI)) hx hb hK hP 1 0 rfl rfl h.1 dX3_goRound_63 ?_
      have h := h.2
      refine va_iast (D := (dC, dI)) hx hb hK hP hD hS 2 0 rfl rfl h.1 dX3_goRound_64 (fun H locs hP hD hS => ?_)
      obtain ⟨fMN_64, efMN_64⟩ : ∃ y, y = upd fMN x1.toNatClampNeg (fMR x1.toNatClampNeg) := ⟨_, rfl⟩
      have h := h.2 fMN_64 efMN_64
      have hP : va_P (dC, dI) vwCl [oM aM aMM aML aMY aMT aMR aMB aMN mk mp, aI aMR cI 60 fMR, aI aMN cI 60 fMN_64] H := by rw [efMN_64]; exact hP
      have hD : va_D A [oM aM aMM aML aMY aMT aMR aMB aMN mk mp, aI aMR cI 60 fMR, aI aMN cI 60 fMN_64] := by rw [efMN_64]; exact hD
      obtain ⟨v65, ev65⟩ : ∃ y : Int32, y = x1 + (1 : Int32) := ⟨_, rfl⟩
      have h := h v65 ev65
      refine lv_iinc (v := v65) (lv' := [(1, .int v65), (0, .ref aM)]) hx hb dX3_goRound_65 hl (k := 1) rfl (by rw [ev65]; rfl) (by decide) rfl (fun ls hl => ?_)
      refine lv_goto (tgt := 45) hx hb dX3_goRound_68 (by decide) ?_
      exact h H locs ls hP hD hS (lv_sub hl [1, 0] rfl)
  have B2 : ∀ (x1 : Int32) (fMR : (Nat → Int32)) (fMN : (Nat → Int32)), wp_X3_goRound_b2 x1 mk mp fMR fMN post → mW p l e rm_X3_goRound s m args below meth c 0 0 Q A (dC, dI) 2 [oM aM aMM aML aMY aMT aMR aMB aMN mk mp, aI aMR cI 60 fMR, aI aMN cI 60 fMN] [(0, .ref aM), (1, .int x1)] 2 [] := by
    intro x1 fMR fMN h
    unfold wp_X3_goRound_b2 at h
    refine h (fun (x1 : Int32) (fMR : (Nat → Int32)) => mW p l e rm_X3_goRound s m args below meth c 0 0 Q A (dC, dI) 2 [oM aM aMM aML aMY aMT aMR aMB aMN mk mp, aI aMR cI 60 fMR, aI aMN cI 60 fMN] [(0, .ref aM), (1, .int x1)] 2 []) ?_
    intro x1 fMR h
    intro H locs ls hP hD hS hl
    refine lv_iload_n hx hb dX3_goRound_2 rfl (lv_at hl 1 rfl) ?_
    refine lv_aload_n hx hb dX3_goRound_3 rfl (lv_at hl 0 rfl) ?_
    refine va_get (D := (dC, dI)) (ci := 3) (v := .int mp) (C := RX3) (T := TX3) (N := 9) hx hb hts in_X3 hown hK hP 0 rfl rfl 6 (by decide) k_102 (fun _ h9 => h9) rfl dX3_goRound_4 ?_
    refine lv_icmp_ge (tgt := 43) hx hb dX3_goRound_7 (by decide) (fun q7 => ?_) (fun q7 => ?_)
    · have h := h.1 q7
      refine lv_iconst (v := 0) hx hb dX3_goRound_43 (by decide) ?_
      refine lv_istore_n (lv' := [(1, .int (0 : Int32)), (0, .ref aM)]) hx hb dX3_goRound_44 rfl hl (by decide) rfl (fun ls hl => ?_)
      exact B45 _ _ _ h H locs ls hP hD hS (lv_sub hl [1, 0] rfl)
    · have h := h.2 q7
      refine lv_aload_n hx hb dX3_goRound_10 rfl (lv_at hl 0 rfl) ?_
      refine va_get (D := (dC, dI)) (ci := 3) (v := .ref aMR) (C := RX3) (T := TX3) (N := 9) hx hb hts in_X3 hown hK hP 0 rfl rfl 5 (by decide) k_23 (fun _ h9 => h9) rfl dX3_goRound_11 ?_
      refine lv_iload_n hx hb dX3_goRound_14 rfl (lv_at hl 1 rfl) ?_
      refine lv_aload_n hx hb dX3_goRound_15 rfl (lv_at hl 0 rfl) ?_
      refine va_get (D := (dC, dI)) (ci := 3) (v := .ref aMN) (C := RX3) (T := TX3) (N := 9) hx hb hts in_X3 hown hK hP 0 rfl rfl 8 (by decide) k_30 (fun _ h9 => h9) rfl dX3_goRound_16 ?_
      refine lv_iload_n hx hb dX3_goRound_19 rfl (lv_at hl 1 rfl) ?_
      refine va_iald (D := (dC, dI)) hx hb hK hP 2 0 rfl rfl h.1 dX3_goRound_20 ?_
      have h := h.2
      refine lv_aload_n hx hb dX3_goRound_21 rfl (lv_at hl 0 rfl) ?_
      refine va_get (D := (dC, dI)) (ci := 3) (v := .ref aMN) (C := RX3) (T := TX3) (N := 9) hx hb hts in_X3 hown hK hP 0 rfl rfl 8 (by decide) k_30 (fun _ h9 => h9) rfl dX3_goRound_22 ?_
      refine lv_aload_n hx hb dX3_goRound_25 rfl (lv_at hl 0 rfl) ?_
      refine lv_iload_n hx hb dX3_goRound_26 rfl (lv_at hl 1 rfl) ?_
      refine lv_iconst (v := 1) hx hb dX3_goRound_27 (by decide) ?_
      refine lv_iadd hx hb dX3_goRound_28 ?_
      refine mVi (wr := [aI aMR cI 60 fMR, aI aMN cI 60 fMN]) (As := [.int (x1 + (1 : Int32))]) (rest := [.ref aMN, .int (fMN x1.toNatClampNeg), .int x1, .ref aMR]) ⟨hx, hb, hml, hown, hts⟩ (c_X3_place (l := l) (dC := dC) (dI := dI) (cI := cI) (cJ := cJ) (cZ := cZ) (aM := aM) (aMM := aMM) (aML := aML) (aMY := aMY) (aMT := aMT) (aMR := aMR) (aMB := aMB) (aMN := aMN) h) (cwV 1 hts gX3_goRound_X3_place rfl rfl rfl hv_X3_place ⟨Nat.le_of_ble_eq_true rfl, Nat.le_of_ble_eq_true rfl⟩) hK hP hD hS hA [0] [1, 2] rfl rfl rfl rfl (by decide) 3 rfl rfl rfl rfl hl.1 rfl (Nat.le_of_ble_eq_true rfl) ⟨Nat.zero_le _, Nat.zero_le _⟩ dX3_goRound_29 (fun r29 u29 H locs h hP hD hS => ?_)
      have hP : va_P (dC, dI) vwCl [oM aM aMM aML aMY aMT aMR aMB aMN mk mp, aI aMR cI 60 fMR, aI aMN cI 60 fMN] H := hP.sub [2, 0, 1] rfl
      have hD : va_D A [oM aM aMM aML aMY aMT aMR aMB aMN mk mp, aI aMR cI 60 fMR, aI aMN cI 60 fMN] := hD.sub [2, 0, 1] rfl rfl
      refine va_iald (D := (dC, dI)) hx hb hK hP 2 0 rfl rfl h.1 dX3_goRound_32 ?_
      have h := h.2
      refine mSi (wr := [oM aM aMM aML aMY aMT aMR aMB aMN mk mp, aI aMR cI 60 fMR, aI aMN cI 60 fMN]) (As := [.int (fMN x1.toNatClampNeg), .int (fMN r29.toNatClampNeg)]) (rest := [.int x1, .ref aMR]) ⟨hx, hb, hml, hown, hts⟩ (c_X3_lowest (l := l) (dC := dC) (dI := dI) (cI := cI) (cJ := cJ) (cZ := cZ)  h) (va_cwS 2 hts gX3_goRound_X3_lowest rfl rfl rfl hv_X3_lowest ⟨Nat.le_of_ble_eq_true rfl, Nat.le_of_ble_eq_true rfl⟩) hK hP hD hS hA [] [0, 1, 2] rfl rfl rfl rfl (by decide) rfl hl.1 rfl (Nat.le_of_ble_eq_true rfl) ⟨Nat.zero_le _, Nat.zero_le _⟩ dX3_goRound_33 (fun r33 u33 H locs h hP hD hS => ?_)
      have hP : va_P (dC, dI) vwCl [oM aM aMM aML aMY aMT aMR aMB aMN mk mp, aI aMR cI 60 fMR, aI aMN cI 60 fMN] H := hP.sub [0, 1, 2] rfl
      have hD : va_D A [oM aM aMM aML aMY aMT aMR aMB aMN mk mp, aI aMR cI 60 fMR, aI aMN cI 60 fMN] := hD.sub [0, 1, 2] rfl rfl
      refine va_iast (D := (dC, dI)) hx hb hK hP hD hS 1 0 rfl rfl h.1 dX3_goRound_36 (fun H locs hP hD hS => ?_)
      obtain ⟨fMR_36, efMR_36⟩ : ∃ y, y = upd fMR x1.toNatClampNeg r33 := ⟨_, rfl⟩
      have h := h.2 fMR_36 efMR_36
      have hP : va_P (dC, dI) vwCl [oM aM aMM aML aMY aMT aMR aMB aMN mk mp, aI aMR cI 60 fMR_36, aI aMN cI 60 fMN] H := by rw [efMR_36]; exact hP
      have hD : va_D A [oM aM aMM aML aMY aMT aMR aMB aMN mk mp, aI aMR cI 60 fMR_36, aI aMN cI 60 fMN] := by rw [efMR_36]; exact hD
      obtain ⟨v37, ev37⟩ : ∃ y : Int32, y = x1 + (1 : Int32) := ⟨_, rfl⟩
      have h := h v37 ev37
      refine lv_iinc (v := v37) (lv' := [(1, .int v37), (0, .ref aM)]) hx hb dX3_goRound_37 hl (k := 1) rfl (by rw [ev37]; rfl) (by decide) rfl (fun ls hl => ?_)
      refine lv_goto (tgt := 2) hx hb dX3_goRound_40 (by decide) ?_
      exact h H locs ls hP hD hS (lv_sub hl [1, 0] rfl)
  unfold wp_X3_goRound at h
  intro H locs ls hP hD hS hl
  refine lv_iconst (v := 0) hx hb dX3_goRound_0 (by decide) ?_
  refine lv_istore_n (lv' := [(1, .int (0 : Int32)), (0, .ref aM)]) hx hb dX3_goRound_1 rfl hl (by decide) rfl (fun ls hl => ?_)
  exact B2 _ _ _ h H locs ls hP hD hS (lv_sub hl [1, 0] rfl)
set_option maxHeartbeats 4000000 in
set_option maxRecDepth 100000 in
theorem c_X3_goRound {l : Launch} {dC : Nat → ClassId} {dI : Nat → Nat → Nat} {cI cJ cZ : ClassId} {aM aMM aML aMY aMT aMR aMB aMN : Nat} {mk : Int32} {mp : Int32} {fMR : (Nat → Int32)} {fMN : (Nat → Int32)}  {post : (Nat → Int32) → (Nat → Int32) → Prop} (h : wp_X3_goRound  mk mp fMR fMN post) : ∀ sz, Met l yX3_goRound wsX3_goRound rm_X3_goRound (mP (dC, dI) (mTy cI cJ cZ) [.ref aM] [oM aM aMM aML aMY aMT aMR aMB aMN mk mp, aI aMR cI 60 fMR, aI aMN cI 60 fMN] sz) (va_Qv (fun (u : (Nat → Int32) × (Nat → Int32)) => post (u.1) (u.2)) (mB (dC, dI) (va_A [oM aM aMM aML aMY aMT aMR aMB aMN mk mp, aI aMR cI 60 fMR, aI aMN cI 60 fMN] sz) (fun u => [oM aM aMM aML aMY aMT aMR aMB aMN mk mp, aI aMR cI 60 (u.1), aI aMN cI 60 (u.2)])) (va_A [oM aM aMM aML aMY aMT aMR aMB aMN mk mp, aI aMR cI 60 fMR, aI aMN cI 60 fMN] sz)) 0 0 (va_A [oM aM aMM aML aMY aMT aMR aMB aMN mk mp, aI aMR cI 60 fMR, aI aMN cI 60 fMN] sz) := by
  intro sz
  refine Met.ofW (cc := cX3_goRound) (maxL := 2) (ret := none) (by decide) rfl ?_
  intro p e s m args below meth c s₁ B hml hv
  obtain ⟨rfl, hsz, hP, hK, hD0⟩ := hv
  have hlocks := B.notSynchronized
  subst hsz
  have hD := hD0.self (sz := s.heap.size)
  have hl := lv_entry ([.ref aM]) (n := 2) (Nat.le_of_ble_eq_true rfl)
  rw [lg_entry_eq]
  exact k_X3_goRound B.exec B.bytes hml (findClass_of_methodNamed B.named) (atoms_spec (ws := wsX3_goRound) B.pre) hK (fun q hq => Or.inr hq) (fun fMR' fMN' H locs ls pc hd hp hP hD hS => W.vret B.exec B.bytes B.returns (fun t ht hW => ⟨⟨(fMR', fMN'), rfl, hp, by rw [ht]; exact hP, hD⟩, hS.F ht⟩) hS.2.2 hd) h s.heap [] _ hP hD va_S.rf hl

def wp_X3_round  (mk : Int32) (mp : Int32) (fMR : (Nat → Int32)) (fMN : (Nat → Int32)) (post : Int32 → (Nat → Int32) → (Nat → Int32) → Prop) : Prop := wp_X3_likes mk mp fMN (fun (r1 : Int32) => ((r1 ≤ (0 : Int32) → wp_X3_goRound mk mp fMR fMN (fun (fMR_11 : (Nat → Int32)) (fMN_11 : (Nat → Int32)) => wp_X3_greatest mk mp fMN_11 (fun (r15 : Int32) => post r15 fMR_11 fMN_11))) ∧ (¬ r1 ≤ (0 : Int32) → post (-3 : Int32) fMR fMN)))
abbrev rm_X3_round : Room := { frames := 2, cells := 0, slots := 0, locals := 43 }
theorem hv_X3_round : yX3_round.cls = RX3 ∧ yX3_round.cls ≠ "java/lang/invoke/MethodHandle" ∧ yX3_round.cls ≠ "java/lang/invoke/VarHandle" ∧ (parseMethodDescriptor yX3_round.desc).map (fun d => d.parameters.length) = some 0 := by decide +kernel
set_option maxHeartbeats 4000000 in
set_option maxRecDepth 100000 in
theorem k_X3_round {p : Program} {l : Launch} {e : Env} {s : State} {m : MethodId} {args : Array Value} {below : List Frame} {meth : Method} {c : Code} {Q : State → Prop} {A : Nat → Prop} {dC : Nat → ClassId} {dI : Nat → Nat → Nat} {cI cJ cZ : ClassId} (hx : p.tables.exec = Jvm.exec) (hb : c.code = cX3_round) (hml : c.maxLocals = 1) (hown : s.vm.findClass RX3 = some m.cls) (hts : ∀ w ∈ wsX3_round, w.before args s = true) (hK : va_K (dC, dI) vwCl (mTy cI cJ cZ) s) (hA : ∀ q, s.heap.size ≤ q → A q) {aM aMM aML aMY aMT aMR aMB aMN : Nat} {mk : Int32} {mp : Int32} {fMR : (Nat → Int32)} {fMN : (Nat → Int32)}  {post : Int32 → (Nat → Int32) → (Nat → Int32) → Prop} (ret : ∀ (r : Int32) (fMR' : (Nat → Int32)) (fMN' : (Nat → Int32)) (H : Heap) (locs : List Loc) (ls : Array Slot) (pc : Nat), decode cX3_round pc = .ok (.ireturn, 1) → post r fMR' fMN' → va_P (dC, dI) vwCl [oM aM aMM aML aMY aMT aMR aMB aMN mk mp, aI aMR cI 60 fMR', aI aMN cI 60 fMN'] H → va_D A [oM aM aMM aML aMY aMT aMR aMB aMN mk mp, aI aMR cI 60 fMR', aI aMN cI 60 fMN'] → va_S A s.heap H locs → W p l e rm_X3_round s m args below meth c H locs 0 0 Q (F0 m pc ls [.int r])) (h : wp_X3_round  mk mp fMR fMN post) : mW p l e rm_X3_round s m args below meth c 0 0 Q A (dC, dI) 1 [oM aM aMM aML aMY aMT aMR aMB aMN mk mp, aI aMR cI 60 fMR, aI aMN cI 60 fMN] [(0, .ref aM)] 0 [] := by
  unfold wp_X3_round at h
  intro H locs ls hP hD hS hl
  refine lv_aload_n hx hb dX3_round_0 rfl (lv_at hl 0 rfl) ?_
  refine mVi (wr := [aI aMR cI 60 fMR]) (As := []) (rest := []) ⟨hx, hb, hml, hown, hts⟩ (c_X3_likes (l := l) (dC := dC) (dI := dI) (cI := cI) (cJ := cJ) (cZ := cZ) (aM := aM) (aMM := aMM) (aML := aML) (aMY := aMY) (aMT := aMT) (aMR := aMR) (aMB := aMB) (aMN := aMN) h) (cwV 0 hts gX3_round_X3_likes rfl rfl rfl hv_X3_likes ⟨Nat.le_of_ble_eq_true rfl, Nat.le_of_ble_eq_true rfl⟩) hK hP hD hS hA [0, 2] [1] rfl rfl rfl rfl (by decide) 3 rfl rfl rfl rfl hl.1 rfl (Nat.le_of_ble_eq_true rfl) ⟨Nat.zero_le _, Nat.zero_le _⟩ dX3_round_1 (fun r1 u1 H locs h hP hD hS => ?_)
  have hP : va_P (dC, dI) vwCl [oM aM aMM aML aMY aMT aMR aMB aMN mk mp, aI aMR cI 60 fMR, aI aMN cI 60 fMN] H := hP.sub [1, 0, 2] rfl
  have hD : va_D A [oM aM aMM aML aMY aMT aMR aMB aMN mk mp, aI aMR cI 60 fMR, aI aMN cI 60 fMN] := hD.sub [1, 0, 2] rfl rfl
  refine lv_if_le (tgt := 10) hx hb dX3_round_4 (by decide) (fun q4 => ?_) (fun q4 => ?_)
  · have h := h.1 q4
    refine lv_aload_n hx hb dX3_round_10 rfl (lv_at hl 0 rfl) ?_
    refine mVv (wr := []) (As := []) (rest := []) ⟨hx, hb, hml, hown, hts⟩ (c_X3_goRound (l := l) (dC := dC) (dI := dI) (cI := cI) (cJ := cJ) (cZ := cZ) (aM := aM) (aMM := aMM) (aML := aML) (aMY := aMY) (aMT := aMT) (aMR := aMR) (aMB := aMB) (aMN := aMN) h) (cwV 0 hts gX3_round_X3_goRound rfl rfl rfl hv_X3_goRound ⟨Nat.le_of_ble_eq_true rfl, Nat.le_of_ble_eq_true rfl⟩) hK hP hD hS hA [0, 1, 2] [] rfl rfl rfl rfl (by decide) 3 rfl rfl rfl rfl hl.1 rfl (Nat.le_of_ble_eq_true rfl) ⟨Nat.zero_le _, Nat.zero_le _⟩ dX3_round_11 (fun u11 H locs h hP hD hS => ?_)
    obtain ⟨fMR_11, fMN_11⟩ := u11
    have hP : va_P (dC, dI) vwCl [oM aM aMM aML aMY aMT aMR aMB aMN mk mp, aI aMR cI 60 fMR_11, aI aMN cI 60 fMN_11] H := hP.sub [0, 1, 2] rfl
    have hD : va_D A [oM aM aMM aML aMY aMT aMR aMB aMN mk mp, aI aMR cI 60 fMR_11, aI aMN cI 60 fMN_11] := hD.sub [0, 1, 2] rfl rfl
    refine lv_aload_n hx hb dX3_round_14 rfl (lv_at hl 0 rfl) ?_
    refine mVi (wr := [aI aMR cI 60 fMR_11]) (As := []) (rest := []) ⟨hx, hb, hml, hown, hts⟩ (c_X3_greatest (l := l) (dC := dC) (dI := dI) (cI := cI) (cJ := cJ) (cZ := cZ) (aM := aM) (aMM := aMM) (aML := aML) (aMY := aMY) (aMT := aMT) (aMR := aMR) (aMB := aMB) (aMN := aMN) h) (cwV 0 hts gX3_round_X3_greatest rfl rfl rfl hv_X3_greatest ⟨Nat.le_of_ble_eq_true rfl, Nat.le_of_ble_eq_true rfl⟩) hK hP hD hS hA [0, 2] [1] rfl rfl rfl rfl (by decide) 3 rfl rfl rfl rfl hl.1 rfl (Nat.le_of_ble_eq_true rfl) ⟨Nat.zero_le _, Nat.zero_le _⟩ dX3_round_15 (fun r15 u15 H locs h hP hD hS => ?_)
    have hP : va_P (dC, dI) vwCl [oM aM aMM aML aMY aMT aMR aMB aMN mk mp, aI aMR cI 60 fMR_11, aI aMN cI 60 fMN_11] H := hP.sub [1, 0, 2] rfl
    have hD : va_D A [oM aM aMM aML aMY aMT aMR aMB aMN mk mp, aI aMR cI 60 fMR_11, aI aMN cI 60 fMN_11] := hD.sub [1, 0, 2] rfl rfl
    exact ret _ _ _ H locs ls _ dX3_round_18 h hP hD hS
  · have h := h.2 q4
    refine lv_bipush (v := -3) hx hb dX3_round_7 (by decide) ?_
    exact ret _ _ _ H locs ls _ dX3_round_9 h hP hD hS
set_option maxHeartbeats 4000000 in
set_option maxRecDepth 100000 in
theorem c_X3_round {l : Launch} {dC : Nat → ClassId} {dI : Nat → Nat → Nat} {cI cJ cZ : ClassId} {aM aMM aML aMY aMT aMR aMB aMN : Nat} {mk : Int32} {mp : Int32} {fMR : (Nat → Int32)} {fMN : (Nat → Int32)}  {post : Int32 → (Nat → Int32) → (Nat → Int32) → Prop} (h : wp_X3_round  mk mp fMR fMN post) : ∀ sz, Met l yX3_round wsX3_round rm_X3_round (mP (dC, dI) (mTy cI cJ cZ) [.ref aM] [oM aM aMM aML aMY aMT aMR aMB aMN mk mp, aI aMR cI 60 fMR, aI aMN cI 60 fMN] sz) (va_Qi (fun (r : Int32) (u : (Nat → Int32) × (Nat → Int32)) => post r (u.1) (u.2)) (mB (dC, dI) (va_A [oM aM aMM aML aMY aMT aMR aMB aMN mk mp, aI aMR cI 60 fMR, aI aMN cI 60 fMN] sz) (fun u => [oM aM aMM aML aMY aMT aMR aMB aMN mk mp, aI aMR cI 60 (u.1), aI aMN cI 60 (u.2)])) (va_A [oM aM aMM aML aMY aMT aMR aMB aMN mk mp, aI aMR cI 60 fMR, aI aMN cI 60 fMN] sz)) 0 0 (va_A [oM aM aMM aML aMY aMT aMR aMB aMN mk mp, aI aMR cI 60 fMR, aI aMN cI 60 fMN] sz) := by
  intro sz
  refine Met.ofW (cc := cX3_round) (maxL := 1) (ret := (some .int)) (by decide) rfl ?_
  intro p e s m args below meth c s₁ B hml hv
  obtain ⟨rfl, hsz, hP, hK, hD0⟩ := hv
  have hlocks := B.notSynchronized
  subst hsz
  have hD := hD0.self (sz := s.heap.size)
  have hl := lv_entry ([.ref aM]) (n := 1) (Nat.le_of_ble_eq_true rfl)
  rw [lg_entry_eq]
  exact k_X3_round B.exec B.bytes hml (findClass_of_methodNamed B.named) (atoms_spec (ws := wsX3_round) B.pre) hK (fun q hq => Or.inr hq) (fun r fMR' fMN' H locs ls pc hd hp hP hD hS => W.iret B.exec B.bytes B.returns (fun t ht hW => ⟨⟨r, (fMR', fMN'), rfl, hp, by rw [ht]; exact hP, hD⟩, hS.F ht⟩) hS.2.2 hd) h s.heap [] _ hP hD va_S.rf hl

def wp_X3_colours_b60 (x1 : Int32) (x2 : Int32) (x3 : Int32) (x4 : Int32) (mk : Int32) (mp : Int32) (fMR : (Nat → Int32)) (fMN : (Nat → Int32)) (post : Int32 → (Nat → Int32) → (Nat → Int32) → Prop) (P32 : Int32 → (Nat → Int32) → Prop) (P39 : Int32 → (Nat → Int32) → Prop) : Prop := ∀ P60 : Int32 → Prop, (∀ (x4 : Int32), wp_X3_place (x3 - (1 : Int32)) mk mp (fun (r68 : Int32) => (vp_in r68 60 ∧ (((fMN r68.toNatClampNeg) = x4 → (∀ v94 : Int32, v94 = x4 + (1 : Int32) → P60 v94)) ∧ (¬ (fMN r68.toNatClampNeg) = x4 → wp_X3_place (x3 + (1 : Int32)) mk mp (fun (r85 : Int32) => (vp_in r85 60 ∧ ((¬ (fMN r85.toNatClampNeg) = x4 → (vp_in x3 60 ∧ (∀ fMN_107 : (Nat → Int32), fMN_107 = upd fMN x3.toNatClampNeg x4 → (∀ v108 : Int32, v108 = x3 + (1 : Int32) → P39 v108 fMN_107)))) ∧ ((fMN r85.toNatClampNeg) = x4 → (∀ v94 : Int32, v94 = x4 + (1 : Int32) → P60 v94))))))))) → P60 x4) → P60 x4
def wp_X3_colours_b39 (x1 : Int32) (x2 : Int32) (x3 : Int32) (mk : Int32) (mp : Int32) (fMR : (Nat → Int32)) (fMN : (Nat → Int32)) (post : Int32 → (Nat → Int32) → (Nat → Int32) → Prop) (P32 : Int32 → (Nat → Int32) → Prop) : Prop := ∀ P39 : Int32 → (Nat → Int32) → Prop, (∀ (x3 : Int32) (fMN : (Nat → Int32)), ((mp ≤ x3 → (∀ v114 : Int32, v114 = x2 + (-1 : Int32) → P32 v114 fMN)) ∧ (¬ mp ≤ x3 → (vp_in x3 60 ∧ ((¬ (fMN x3.toNatClampNeg) = x2 → (∀ v108 : Int32, v108 = x3 + (1 : Int32) → P39 v108 fMN)) ∧ ((fMN x3.toNatClampNeg) = x2 → wp_X3_colours_b60 x1 x2 x3 (0 : Int32) mk mp fMR fMN post P32 P39))))) → P39 x3 fMN) → P39 x3 fMN
def wp_X3_colours_b32 (x1 : Int32) (x2 : Int32) (mk : Int32) (mp : Int32) (fMR : (Nat → Int32)) (fMN : (Nat → Int32)) (post : Int32 → (Nat → Int32) → (Nat → Int32) → Prop)  : Prop := ∀ P32 : Int32 → (Nat → Int32) → Prop, (∀ (x2 : Int32) (fMN : (Nat → Int32)), ((x2 ≤ (2 : Int32) → post x1 fMR fMN) ∧ (¬ x2 ≤ (2 : Int32) → wp_X3_colours_b39 x1 x2 (0 : Int32) mk mp fMR fMN post P32)) → P32 x2 fMN) → P32 x2 fMN
def wp_X3_colours_b12 (x1 : Int32) (mk : Int32) (mp : Int32) (fMR : (Nat → Int32)) (fMN : (Nat → Int32)) (post : Int32 → (Nat → Int32) → (Nat → Int32) → Prop)  : Prop := ∀ P12 : Int32 → (Nat → Int32) → (Nat → Int32) → Prop, (∀ (x1 : Int32) (fMR : (Nat → Int32)) (fMN : (Nat → Int32)), wp_X3_greatest mk mp fMN (fun (r13 : Int32) => ((r13 ≤ (5 : Int32) → wp_X3_colours_b32 x1 (5 : Int32) mk mp fMR fMN post) ∧ (¬ r13 ≤ (5 : Int32) → wp_X3_goRound mk mp fMR fMN (fun (fMR_21 : (Nat → Int32)) (fMN_21 : (Nat → Int32)) => (∀ v24 : Int32, v24 = x1 + (1 : Int32) → P12 v24 fMR_21 fMN_21))))) → P12 x1 fMR fMN) → P12 x1 fMR fMN
def wp_X3_colours  (mk : Int32) (mp : Int32) (fMR : (Nat → Int32)) (fMN : (Nat → Int32)) (post : Int32 → (Nat → Int32) → (Nat → Int32) → Prop) : Prop := wp_X3_likes mk mp fMN (fun (r1 : Int32) => ((r1 ≤ (0 : Int32) → wp_X3_colours_b12 (0 : Int32) mk mp fMR fMN post) ∧ (¬ r1 ≤ (0 : Int32) → post (-3 : Int32) fMR fMN)))
abbrev rm_X3_colours : Room := { frames := 2, cells := 0, slots := 0, locals := 43 }
theorem hv_X3_colours : yX3_colours.cls = RX3 ∧ yX3_colours.cls ≠ "java/lang/invoke/MethodHandle" ∧ yX3_colours.cls ≠ "java/lang/invoke/VarHandle" ∧ (parseMethodDescriptor yX3_colours.desc).map (fun d => d.parameters.length) = some 0 := by decide +kernel
set_option maxHeartbeats 4000000 in
set_option maxRecDepth 100000 in
theorem k_X3_colours {p : Program} {l : Launch} {e : Env} {s : State} {m : MethodId} {args : Array Value} {below : List Frame} {meth : Method} {c : Code} {Q : State → Prop} {A : Nat → Prop} {dC : Nat → ClassId} {dI : Nat → Nat → Nat} {cI cJ cZ : ClassId} (hx : p.tables.exec = Jvm.exec) (hb : c.code = cX3_colours) (hml : c.maxLocals = 5) (hown : s.vm.findClass RX3 = some m.cls) (hts : ∀ w ∈ wsX3_colours, w.before args s = true) (hK : va_K (dC, dI) vwCl (mTy cI cJ cZ) s) (hA : ∀ q, s.heap.size ≤ q → A q) {aM aMM aML aMY aMT aMR aMB aMN : Nat} {mk : Int32} {mp : Int32} {fMR : (Nat → Int32)} {fMN : (Nat → Int32)}  {post : Int32 → (Nat → Int32) → (Nat → Int32) → Prop} (ret : ∀ (r : Int32) (fMR' : (Nat → Int32)) (fMN' : (Nat → Int32)) (H : Heap) (locs : List Loc) (ls : Array Slot) (pc : Nat), decode cX3_colours pc = .ok (.ireturn, 1) → post r fMR' fMN' → va_P (dC, dI) vwCl [oM aM aMM aML aMY aMT aMR aMB aMN mk mp, aI aMR cI 60 fMR', aI aMN cI 60 fMN'] H → va_D A [oM aM aMM aML aMY aMT aMR aMB aMN mk mp, aI aMR cI 60 fMR', aI aMN cI 60 fMN'] → va_S A s.heap H locs → W p l e rm_X3_colours s m args below meth c H locs 0 0 Q (F0 m pc ls [.int r])) (h : wp_X3_colours  mk mp fMR fMN post) : mW p l e rm_X3_colours s m args below meth c 0 0 Q A (dC, dI) 5 [oM aM aMM aML aMY aMT aMR aMB aMN mk mp, aI aMR cI 60 fMR, aI aMN cI 60 fMN] [(0, .ref aM)] 0 [] := by
  have in_X3 : ∀ w ∈ wsX30, w ∈ wsX3_colours := fun w hw => List.mem_cons_of_mem _ (List.mem_append_right _ hw)
  have k_102 := hts (.fieldLink RX3 102 "RingTasksModel" "posts" "I") (List.mem_of_getElem? (i := 1) rfl)
  have k_30 := hts (.fieldLink RX3 30 "RingTasksModel" "number" "[I") (List.mem_of_getElem? (i := 2) rfl)
  have B60 : ∀ (x1 : Int32) (x2 : Int32) (x3 : Int32) (x4 : Int32) (fMR : (Nat → Int32)) (fMN : (Nat → Int32)), ∀ (P32 : Int32 → (Nat → Int32) → Prop) (hP32 : ∀ (x2 : Int32) (fMN : (Nat → Int32)), P32 x2 fMN → mW p l e rm_X3_colours s m args below meth c 0 0 Q A (dC, dI) 5 [oM aM aMM aML aMY aMT aMR aMB aMN mk mp, aI aMR cI 60 fMR, aI aMN cI 60 fMN] [(0, .ref aM), (1, .int x1), (2, .int x2)] 32 []), ∀ (P39 : Int32 → (Nat → Int32) → Prop) (hP39 : ∀ (x3 : Int32) (fMN : (Nat → Int32)), P39 x3 fMN → mW p l e rm_X3_colours s m args below meth c 0 0 Q A (dC, dI) 5 [oM aM aMM aML aMY aMT aMR aMB aMN mk mp, aI aMR cI 60 fMR, aI aMN cI 60 fMN] [(0, .ref aM), (1, .int x1), (2, .int x2), (3, .int x3)] 39 []), wp_X3_colours_b60 x1 x2 x3 x4 mk mp fMR fMN post P32 P39 → mW p l e rm_X3_colours s m args below meth c 0 0 Q A (dC, dI) 5 [oM aM aMM aML aMY aMT aMR aMB aMN mk mp, aI aMR cI 60 fMR, aI aMN cI 60 fMN] [(0, .ref aM), (1, .int x1), (2, .int x2), (3, .int x3), (4, .int x4)] 60 [] := by
    intro x1 x2 x3 x4 fMR fMN P32 hP32 P39 hP39 h
    unfold wp_X3_colours_b60 at h
    refine h (fun (x4 : Int32) => mW p l e rm_X3_colours s m args below meth c 0 0 Q A (dC, dI) 5 [oM aM aMM aML aMY aMT aMR aMB aMN mk mp, aI aMR cI 60 fMR, aI aMN cI 60 fMN] [(0, .ref aM), (1, .int x1), (2, .int x2), (3, .int x3), (4, .int x4)] 60 []) ?_
    intro x4 h
    intro H locs ls hP hD hS hl
    refine lv_aload_n hx hb dX3_colours_60 rfl (lv_at hl 0 rfl) ?_
    refine va_get (D := (dC, dI)) (ci := 3) (v := .ref aMN) (C := RX3) (T := TX3) (N := 9) hx hb hts in_X3 hown hK hP 0 rfl rfl 8 (by decide) k_30 (fun _ h9 => h9) rfl dX3_colours_61 ?_
    refine lv_aload_n hx hb dX3_colours_64 rfl (lv_at hl 0 rfl) ?_
    refine lv_iload_n hx hb dX3_colours_65 rfl (lv_at hl 3 rfl) ?_
    refine lv_iconst (v := 1) hx hb dX3_colours_66 (by decide) ?_
    refine lv_isub hx hb dX3_colours_67 ?_
    refine mVi (wr := [aI aMR cI 60 fMR, aI aMN cI 60 fMN]) (As := [.int (x3 - (1 : Int32))]) (rest := [.ref aMN]) ⟨hx, hb, hml, hown, hts⟩ (c_X3_place (l := l) (dC := dC) (dI := dI) (cI := cI) (cJ := cJ) (cZ := cZ) (aM := aM) (aMM := aMM) (aML := aML) (aMY := aMY) (aMT := aMT) (aMR := aMR) (aMB := aMB) (aMN := aMN) h) (cwV 1 hts gX3_colours_X3_place rfl rfl rfl hv_X3_place ⟨Nat.le_of_ble_eq_true rfl, Nat.le_of_ble_eq_true rfl⟩) hK hP hD hS hA [0] [1, 2] rfl rfl rfl rfl (by decide) 3 rfl rfl rfl rfl hl.1 rfl (Nat.le_of_ble_eq_true rfl) ⟨Nat.zero_le _, Nat.zero_le _⟩ dX3_colours_68 (fun r68 u68 H locs h hP hD hS => ?_)
    have hP : va_P (dC, dI) vwCl [oM aM aMM aML aMY aMT aMR aMB aMN mk mp, aI aMR cI 60 fMR, aI aMN cI 60 fMN] H := hP.sub [2, 0, 1] rfl
    have hD : va_D A [oM aM aMM aML aMY aMT aMR aMB aMN mk mp, aI aMR cI 60 fMR, aI aMN cI 60 fMN] := hD.sub [2, 0, 1] rfl rfl
    refine va_iald (D := (dC, dI)) hx hb hK hP 2 0 rfl rfl h.1 dX3_colours_71 ?_
    have h := h.2
    refine lv_iload hx hb dX3_colours_72 (lv_at hl 4 rfl) ?_
    refine lv_icmp_eq (tgt := 94) hx hb dX3_colours_74 (by decide) (fun q74 => ?_) (fun q74 => ?_)
    · have h := h.1 q74
      obtain ⟨v94, ev94⟩ : ∃ y : Int32, y = x4 + (1 : Int32) := ⟨_, rfl⟩
      have h := h v94 ev94
      refine lv_iinc (v := v94) (lv' := [(4, .int v94), (0, .ref aM), (1, .int x1), (2, .int x2), (3, .int x3)]) hx hb dX3_colours_94 hl (k := 4) rfl (by rw [ev94]; rfl) (by decide) rfl (fun ls hl => ?_)
      refine lv_goto (tgt := 60) hx hb dX3_colours_97 (by decide) ?_
      exact h H locs ls hP hD hS (lv_sub hl [1, 2, 3, 4, 0] rfl)
    · have h := h.2 q74
      refine lv_aload_n hx hb dX3_colours_77 rfl (lv_at hl 0 rfl) ?_
      refine va_get (D := (dC, dI)) (ci := 3) (v := .ref aMN) (C := RX3) (T := TX3) (N := 9) hx hb hts in_X3 hown hK hP 0 rfl rfl 8 (by decide) k_30 (fun _ h9 => h9) rfl dX3_colours_78 ?_
      refine lv_aload_n hx hb dX3_colours_81 rfl (lv_at hl 0 rfl) ?_
      refine lv_iload_n hx hb dX3_colours_82 rfl (lv_at hl 3 rfl) ?_
      refine lv_iconst (v := 1) hx hb dX3_colours_83 (by decide) ?_
      refine lv_iadd hx hb dX3_colours_84 ?_
      refine mVi (wr := [aI aMR cI 60 fMR, aI aMN cI 60 fMN]) (As := [.int (x3 + (1 : Int32))]) (rest := [.ref aMN]) ⟨hx, hb, hml, hown, hts⟩ (c_X3_place (l := l) (dC := dC) (dI := dI) (cI := cI) (cJ := cJ) (cZ := cZ) (aM := aM) (aMM := aMM) (aML := aML) (aMY := aMY) (aMT := aMT) (aMR := aMR) (aMB := aMB) (aMN := aMN) h) (cwV 1 hts gX3_colours_X3_place rfl rfl rfl hv_X3_place ⟨Nat.le_of_ble_eq_true rfl, Nat.le_of_ble_eq_true rfl⟩) hK hP hD hS hA [0] [1, 2] rfl rfl rfl rfl (by decide) 3 rfl rfl rfl rfl hl.1 rfl (Nat.le_of_ble_eq_true rfl) ⟨Nat.zero_le _, Nat.zero_le _⟩ dX3_colours_85 (fun r85 u85 H locs h hP hD hS => ?_)
      have hP : va_P (dC, dI) vwCl [oM aM aMM aML aMY aMT aMR aMB aMN mk mp, aI aMR cI 60 fMR, aI aMN cI 60 fMN] H := hP.sub [2, 0, 1] rfl
      have hD : va_D A [oM aM aMM aML aMY aMT aMR aMB aMN mk mp, aI aMR cI 60 fMR, aI aMN cI 60 fMN] := hD.sub [2, 0, 1] rfl rfl
      refine va_iald (D := (dC, dI)) hx hb hK hP 2 0 rfl rfl h.1 dX3_colours_88 ?_
      have h := h.2
      refine lv_iload hx hb dX3_colours_89 (lv_at hl 4 rfl) ?_
      refine lv_icmp_ne (tgt := 100) hx hb dX3_colours_91 (by decide) (fun q91 => ?_) (fun q91 => ?_)
      · have h := h.1 q91
        refine lv_aload_n hx hb dX3_colours_100 rfl (lv_at hl 0 rfl) ?_
        refine va_get (D := (dC, dI)) (ci := 3) (v := .ref aMN) (C := RX3) (T := TX3) (N := 9) hx hb hts in_X3 hown hK hP 0 rfl rfl 8 (by decide) k_30 (fun _ h9 => h9) rfl dX3_colours_101 ?_
        refine lv_iload_n hx hb dX3_colours_104 rfl (lv_at hl 3 rfl) ?_
        refine lv_iload hx hb dX3_colours_105 (lv_at hl 4 rfl) ?_
        refine va_iast (D := (dC, dI)) hx hb hK hP hD hS 2 0 rfl rfl h.1 dX3_colours_107 (fun H locs hP hD hS => ?_)
        obtain ⟨fMN_107, efMN_107⟩ : ∃ y, y = upd fMN x3.toNatClampNeg x4 := ⟨_, rfl⟩
        have h := h.2 fMN_107 efMN_107
        have hP : va_P (dC, dI) vwCl [oM aM aMM aML aMY aMT aMR aMB aMN mk mp, aI aMR cI 60 fMR, aI aMN cI 60 fMN_107] H := by rw [efMN_107]; exact hP
        have hD : va_D A [oM aM aMM aML aMY aMT aMR aMB aMN mk mp, aI aMR cI 60 fMR, aI aMN cI 60 fMN_107] := by rw [efMN_107]; exact hD
        obtain ⟨v108, ev108⟩ : ∃ y : Int32, y = x3 + (1 : Int32) := ⟨_, rfl⟩
        have h := h v108 ev108
        refine lv_iinc (v := v108) (lv' := [(3, .int v108), (0, .ref aM), (1, .int x1), (2, .int x2), (4, .int x4)]) hx hb dX3_colours_108 hl (k := 3) rfl (by rw [ev108]; rfl) (by decide) rfl (fun ls hl => ?_)
        refine lv_goto (tgt := 39) hx hb dX3_colours_111 (by decide) ?_
        exact hP39 _ _ h H locs ls hP hD hS (lv_sub hl [1, 2, 3, 0] rfl)
      · have h := h.2 q91
        obtain ⟨v94, ev94⟩ : ∃ y : Int32, y = x4 + (1 : Int32) := ⟨_, rfl⟩
        have h := h v94 ev94
        refine lv_iinc (v := v94) (lv' := [(4, .int v94), (0, .ref aM), (1, .int x1), (2, .int x2), (3, .int x3)]) hx hb dX3_colours_94 hl (k := 4) rfl (by rw [ev94]; rfl) (by decide) rfl (fun ls hl => ?_)
        refine lv_goto (tgt := 60) hx hb dX3_colours_97 (by decide) ?_
        exact h H locs ls hP hD hS (lv_sub hl [1, 2, 3, 4, 0] rfl)
  have B39 : ∀ (x1 : Int32) (x2 : Int32) (x3 : Int32) (fMR : (Nat → Int32)) (fMN : (Nat → Int32)), ∀ (P32 : Int32 → (Nat → Int32) → Prop) (hP32 : ∀ (x2 : Int32) (fMN : (Nat → Int32)), P32 x2 fMN → mW p l e rm_X3_colours s m args below meth c 0 0 Q A (dC, dI) 5 [oM aM aMM aML aMY aMT aMR aMB aMN mk mp, aI aMR cI 60 fMR, aI aMN cI 60 fMN] [(0, .ref aM), (1, .int x1), (2, .int x2)] 32 []), wp_X3_colours_b39 x1 x2 x3 mk mp fMR fMN post P32 → mW p l e rm_X3_colours s m args below meth c 0 0 Q A (dC, dI) 5 [oM aM aMM aML aMY aMT aMR aMB aMN mk mp, aI aMR cI 60 fMR, aI aMN cI 60 fMN] [(0, .ref aM), (1, .int x1), (2, .int x2), (3, .int x3)] 39 [] := by
    intro x1 x2 x3 fMR fMN P32 hP32 h
    unfold wp_X3_colours_b39 at h
    refine h (fun (x3 : Int32) (fMN : (Nat → Int32)) => mW p l e rm_X3_colours s m args below meth c 0 0 Q A (dC, dI) 5 [oM aM aMM aML aMY aMT aMR aMB aMN mk mp, aI aMR cI 60 fMR, aI aMN cI 60 fMN] [(0, .ref aM), (1, .int x1), (2, .int x2), (3, .int x3)] 39 []) ?_
    intro x3 fMN h
    intro H locs ls hP hD hS hl
    refine lv_iload_n hx hb dX3_colours_39 rfl (lv_at hl 3 rfl) ?_
    refine lv_aload_n hx hb dX3_colours_40 rfl (lv_at hl 0 rfl) ?_
    refine va_get (D := (dC, dI)) (ci := 3) (v := .int mp) (C := RX3) (T := TX3) (N := 9) hx hb hts in_X3 hown hK hP 0 rfl rfl 6 (by decide) k_102 (fun _ h9 => h9) rfl dX3_colours_41 ?_
    refine lv_icmp_ge (tgt := 114) hx hb dX3_colours_44 (by decide) (fun q44 => ?_) (fun q44 => ?_)
    · have h := h.1 q44
      obtain ⟨v114, ev114⟩ : ∃ y : Int32, y = x2 + (-1 : Int32) := ⟨_, rfl⟩
      have h := h v114 ev114
      refine lv_iinc (v := v114) (lv' := [(2, .int v114), (0, .ref aM), (1, .int x1), (3, .int x3)]) hx hb dX3_colours_114 hl (k := 2) rfl (by rw [ev114]; rfl) (by decide) rfl (fun ls hl => ?_)
      refine lv_goto (tgt := 32) hx hb dX3_colours_117 (by decide) ?_
      exact hP32 _ _ h H locs ls hP hD hS (lv_sub hl [1, 2, 0] rfl)
    · have h := h.2 q44
      refine lv_aload_n hx hb dX3_colours_47 rfl (lv_at hl 0 rfl) ?_
      refine va_get (D := (dC, dI)) (ci := 3) (v := .ref aMN) (C := RX3) (T := TX3) (N := 9) hx hb hts in_X3 hown hK hP 0 rfl rfl 8 (by decide) k_30 (fun _ h9 => h9) rfl dX3_colours_48 ?_
      refine lv_iload_n hx hb dX3_colours_51 rfl (lv_at hl 3 rfl) ?_
      refine va_iald (D := (dC, dI)) hx hb hK hP 2 0 rfl rfl h.1 dX3_colours_52 ?_
      have h := h.2
      refine lv_iload_n hx hb dX3_colours_53 rfl (lv_at hl 2 rfl) ?_
      refine lv_icmp_ne (tgt := 108) hx hb dX3_colours_54 (by decide) (fun q54 => ?_) (fun q54 => ?_)
      · have h := h.1 q54
        obtain ⟨v108, ev108⟩ : ∃ y : Int32, y = x3 + (1 : Int32) := ⟨_, rfl⟩
        have h := h v108 ev108
        refine lv_iinc (v := v108) (lv' := [(3, .int v108), (0, .ref aM), (1, .int x1), (2, .int x2)]) hx hb dX3_colours_108 hl (k := 3) rfl (by rw [ev108]; rfl) (by decide) rfl (fun ls hl => ?_)
        refine lv_goto (tgt := 39) hx hb dX3_colours_111 (by decide) ?_
        exact h H locs ls hP hD hS (lv_sub hl [1, 2, 3, 0] rfl)
      · have h := h.2 q54
        refine lv_iconst (v := 0) hx hb dX3_colours_57 (by decide) ?_
        refine lv_istore (lv' := [(4, .int (0 : Int32)), (0, .ref aM), (1, .int x1), (2, .int x2), (3, .int x3)]) hx hb dX3_colours_58 hl (by decide) rfl (fun ls hl => ?_)
        exact B60 _ _ _ _ _ _ _ hP32 _ (fun _ _ hq => hq) h H locs ls hP hD hS (lv_sub hl [1, 2, 3, 4, 0] rfl)
  have B32 : ∀ (x1 : Int32) (x2 : Int32) (fMR : (Nat → Int32)) (fMN : (Nat → Int32)), wp_X3_colours_b32 x1 x2 mk mp fMR fMN post → mW p l e rm_X3_colours s m args below meth c 0 0 Q A (dC, dI) 5 [oM aM aMM aML aMY aMT aMR aMB aMN mk mp, aI aMR cI 60 fMR, aI aMN cI 60 fMN] [(0, .ref aM), (1, .int x1), (2, .int x2)] 32 [] := by
    intro x1 x2 fMR fMN h
    unfold wp_X3_colours_b32 at h
    refine h (fun (x2 : Int32) (fMN : (Nat → Int32)) => mW p l e rm_X3_colours s m args below meth c 0 0 Q A (dC, dI) 5 [oM aM aMM aML aMY aMT aMR aMB aMN mk mp, aI aMR cI 60 fMR, aI aMN cI 60 fMN] [(0, .ref aM), (1, .int x1), (2, .int x2)] 32 []) ?_
    intro x2 fMN h
    intro H locs ls hP hD hS hl
    refine lv_iload_n hx hb dX3_colours_32 rfl (lv_at hl 2 rfl) ?_
    refine lv_iconst (v := 2) hx hb dX3_colours_33 (by decide) ?_
    refine lv_icmp_le (tgt := 120) hx hb dX3_colours_34 (by decide) (fun q34 => ?_) (fun q34 => ?_)
    · have h := h.1 q34
      refine lv_iload_n hx hb dX3_colours_120 rfl (lv_at hl 1 rfl) ?_
      exact ret _ _ _ H locs ls _ dX3_colours_121 h hP hD hS
    · have h := h.2 q34
      refine lv_iconst (v := 0) hx hb dX3_colours_37 (by decide) ?_
      refine lv_istore_n (lv' := [(3, .int (0 : Int32)), (0, .ref aM), (1, .int x1), (2, .int x2)]) hx hb dX3_colours_38 rfl hl (by decide) rfl (fun ls hl => ?_)
      exact B39 _ _ _ _ _ _ (fun _ _ hq => hq) h H locs ls hP hD hS (lv_sub hl [1, 2, 3, 0] rfl)
  have B12 : ∀ (x1 : Int32) (fMR : (Nat → Int32)) (fMN : (Nat → Int32)), wp_X3_colours_b12 x1 mk mp fMR fMN post → mW p l e rm_X3_colours s m args below meth c 0 0 Q A (dC, dI) 5 [oM aM aMM aML aMY aMT aMR aMB aMN mk mp, aI aMR cI 60 fMR, aI aMN cI 60 fMN] [(0, .ref aM), (1, .int x1)] 12 [] := by
    intro x1 fMR fMN h
    unfold wp_X3_colours_b12 at h
    refine h (fun (x1 : Int32) (fMR : (Nat → Int32)) (fMN : (Nat → Int32)) => mW p l e rm_X3_colours s m args below meth c 0 0 Q A (dC, dI) 5 [oM aM aMM aML aMY aMT aMR aMB aMN mk mp, aI aMR cI 60 fMR, aI aMN cI 60 fMN] [(0, .ref aM), (1, .int x1)] 12 []) ?_
    intro x1 fMR fMN h
    intro H locs ls hP hD hS hl
    refine lv_aload_n hx hb dX3_colours_12 rfl (lv_at hl 0 rfl) ?_
    refine mVi (wr := [aI aMR cI 60 fMR]) (As := []) (rest := []) ⟨hx, hb, hml, hown, hts⟩ (c_X3_greatest (l := l) (dC := dC) (dI := dI) (cI := cI) (cJ := cJ) (cZ := cZ) (aM := aM) (aMM := aMM) (aML := aML) (aMY := aMY) (aMT := aMT) (aMR := aMR) (aMB := aMB) (aMN := aMN) h) (cwV 0 hts gX3_colours_X3_greatest rfl rfl rfl hv_X3_greatest ⟨Nat.le_of_ble_eq_true rfl, Nat.le_of_ble_eq_true rfl⟩) hK hP hD hS hA [0, 2] [1] rfl rfl rfl rfl (by decide) 3 rfl rfl rfl rfl hl.1 rfl (Nat.le_of_ble_eq_true rfl) ⟨Nat.zero_le _, Nat.zero_le _⟩ dX3_colours_13 (fun r13 u13 H locs h hP hD hS => ?_)
    have hP : va_P (dC, dI) vwCl [oM aM aMM aML aMY aMT aMR aMB aMN mk mp, aI aMR cI 60 fMR, aI aMN cI 60 fMN] H := hP.sub [1, 0, 2] rfl
    have hD : va_D A [oM aM aMM aML aMY aMT aMR aMB aMN mk mp, aI aMR cI 60 fMR, aI aMN cI 60 fMN] := hD.sub [1, 0, 2] rfl rfl
    refine lv_iconst (v := 5) hx hb dX3_colours_16 (by decide) ?_
    refine lv_icmp_le (tgt := 30) hx hb dX3_colours_17 (by decide) (fun q17 => ?_) (fun q17 => ?_)
    · have h := h.1 q17
      refine lv_iconst (v := 5) hx hb dX3_colours_30 (by decide) ?_
      refine lv_istore_n (lv' := [(2, .int (5 : Int32)), (0, .ref aM), (1, .int x1)]) hx hb dX3_colours_31 rfl hl (by decide) rfl (fun ls hl => ?_)
      exact B32 _ _ _ _ h H locs ls hP hD hS (lv_sub hl [1, 2, 0] rfl)
    · have h := h.2 q17
      refine lv_aload_n hx hb dX3_colours_20 rfl (lv_at hl 0 rfl) ?_
      refine mVv (wr := []) (As := []) (rest := []) ⟨hx, hb, hml, hown, hts⟩ (c_X3_goRound (l := l) (dC := dC) (dI := dI) (cI := cI) (cJ := cJ) (cZ := cZ) (aM := aM) (aMM := aMM) (aML := aML) (aMY := aMY) (aMT := aMT) (aMR := aMR) (aMB := aMB) (aMN := aMN) h) (cwV 0 hts gX3_colours_X3_goRound rfl rfl rfl hv_X3_goRound ⟨Nat.le_of_ble_eq_true rfl, Nat.le_of_ble_eq_true rfl⟩) hK hP hD hS hA [0, 1, 2] [] rfl rfl rfl rfl (by decide) 3 rfl rfl rfl rfl hl.1 rfl (Nat.le_of_ble_eq_true rfl) ⟨Nat.zero_le _, Nat.zero_le _⟩ dX3_colours_21 (fun u21 H locs h hP hD hS => ?_)
      obtain ⟨fMR_21, fMN_21⟩ := u21
      have hP : va_P (dC, dI) vwCl [oM aM aMM aML aMY aMT aMR aMB aMN mk mp, aI aMR cI 60 fMR_21, aI aMN cI 60 fMN_21] H := hP.sub [0, 1, 2] rfl
      have hD : va_D A [oM aM aMM aML aMY aMT aMR aMB aMN mk mp, aI aMR cI 60 fMR_21, aI aMN cI 60 fMN_21] := hD.sub [0, 1, 2] rfl rfl
      obtain ⟨v24, ev24⟩ : ∃ y : Int32, y = x1 + (1 : Int32) := ⟨_, rfl⟩
      have h := h v24 ev24
      refine lv_iinc (v := v24) (lv' := [(1, .int v24), (0, .ref aM)]) hx hb dX3_colours_24 hl (k := 1) rfl (by rw [ev24]; rfl) (by decide) rfl (fun ls hl => ?_)
      refine lv_goto (tgt := 12) hx hb dX3_colours_27 (by decide) ?_
      exact h H locs ls hP hD hS (lv_sub hl [1, 0] rfl)
  unfold wp_X3_colours at h
  intro H locs ls hP hD hS hl
  refine lv_aload_n hx hb dX3_colours_0 rfl (lv_at hl 0 rfl) ?_
  refine mVi (wr := [aI aMR cI 60 fMR]) (As := []) (rest := []) ⟨hx, hb, hml, hown, hts⟩ (c_X3_likes (l := l) (dC := dC) (dI := dI) (cI := cI) (cJ := cJ) (cZ := cZ) (aM := aM) (aMM := aMM) (aML := aML) (aMY := aMY) (aMT := aMT) (aMR := aMR) (aMB := aMB) (aMN := aMN) h) (cwV 0 hts gX3_colours_X3_likes rfl rfl rfl hv_X3_likes ⟨Nat.le_of_ble_eq_true rfl, Nat.le_of_ble_eq_true rfl⟩) hK hP hD hS hA [0, 2] [1] rfl rfl rfl rfl (by decide) 3 rfl rfl rfl rfl hl.1 rfl (Nat.le_of_ble_eq_true rfl) ⟨Nat.zero_le _, Nat.zero_le _⟩ dX3_colours_1 (fun r1 u1 H locs h hP hD hS => ?_)
  have hP : va_P (dC, dI) vwCl [oM aM aMM aML aMY aMT aMR aMB aMN mk mp, aI aMR cI 60 fMR, aI aMN cI 60 fMN] H := hP.sub [1, 0, 2] rfl
  have hD : va_D A [oM aM aMM aML aMY aMT aMR aMB aMN mk mp, aI aMR cI 60 fMR, aI aMN cI 60 fMN] := hD.sub [1, 0, 2] rfl rfl
  refine lv_if_le (tgt := 10) hx hb dX3_colours_4 (by decide) (fun q4 => ?_) (fun q4 => ?_)
  · have h := h.1 q4
    refine lv_iconst (v := 0) hx hb dX3_colours_10 (by decide) ?_
    refine lv_istore_n (lv' := [(1, .int (0 : Int32)), (0, .ref aM)]) hx hb dX3_colours_11 rfl hl (by decide) rfl (fun ls hl => ?_)
    exact B12 _ _ _ h H locs ls hP hD hS (lv_sub hl [1, 0] rfl)
  · have h := h.2 q4
    refine lv_bipush (v := -3) hx hb dX3_colours_7 (by decide) ?_
    exact ret _ _ _ H locs ls _ dX3_colours_9 h hP hD hS
set_option maxHeartbeats 4000000 in
set_option maxRecDepth 100000 in
theorem c_X3_colours {l : Launch} {dC : Nat → ClassId} {dI : Nat → Nat → Nat} {cI cJ cZ : ClassId} {aM aMM aML aMY aMT aMR aMB aMN : Nat} {mk : Int32} {mp : Int32} {fMR : (Nat → Int32)} {fMN : (Nat → Int32)}  {post : Int32 → (Nat → Int32) → (Nat → Int32) → Prop} (h : wp_X3_colours  mk mp fMR fMN post) : ∀ sz, Met l yX3_colours wsX3_colours rm_X3_colours (mP (dC, dI) (mTy cI cJ cZ) [.ref aM] [oM aM aMM aML aMY aMT aMR aMB aMN mk mp, aI aMR cI 60 fMR, aI aMN cI 60 fMN] sz) (va_Qi (fun (r : Int32) (u : (Nat → Int32) × (Nat → Int32)) => post r (u.1) (u.2)) (mB (dC, dI) (va_A [oM aM aMM aML aMY aMT aMR aMB aMN mk mp, aI aMR cI 60 fMR, aI aMN cI 60 fMN] sz) (fun u => [oM aM aMM aML aMY aMT aMR aMB aMN mk mp, aI aMR cI 60 (u.1), aI aMN cI 60 (u.2)])) (va_A [oM aM aMM aML aMY aMT aMR aMB aMN mk mp, aI aMR cI 60 fMR, aI aMN cI 60 fMN] sz)) 0 0 (va_A [oM aM aMM aML aMY aMT aMR aMB aMN mk mp, aI aMR cI 60 fMR, aI aMN cI 60 fMN] sz) := by
  intro sz
  refine Met.ofW (cc := cX3_colours) (maxL := 5) (ret := (some .int)) (by decide) rfl ?_
  intro p e s m args below meth c s₁ B hml hv
  obtain ⟨rfl, hsz, hP, hK, hD0⟩ := hv
  have hlocks := B.notSynchronized
  subst hsz
  have hD := hD0.self (sz := s.heap.size)
  have hl := lv_entry ([.ref aM]) (n := 5) (Nat.le_of_ble_eq_true rfl)
  rw [lg_entry_eq]
  exact k_X3_colours B.exec B.bytes hml (findClass_of_methodNamed B.named) (atoms_spec (ws := wsX3_colours) B.pre) hK (fun q hq => Or.inr hq) (fun r fMR' fMN' H locs ls pc hd hp hP hD hS => W.iret B.exec B.bytes B.returns (fun t ht hW => ⟨⟨r, (fMR', fMN'), rfl, hp, by rw [ht]; exact hP, hD⟩, hS.F ht⟩) hS.2.2 hd) h s.heap [] _ hP hD va_S.rf hl

def wp_X3_take_b16 (x1 : Int32) (mk : Int32) (mp : Int32) (fMB : (Nat → Int32)) (fMN : (Nat → Int32)) (post : Int32 → (Nat → Int32) → Prop)  : Prop := ∀ P16 : Int32 → (Nat → Int32) → Prop, (∀ (x1 : Int32) (fMB : (Nat → Int32)), ((mp ≤ x1 → post (1 : Int32) fMB) ∧ (¬ mp ≤ x1 → (vp_in x1 60 ∧ (vp_in x1 60 ∧ (∀ fMB_35 : (Nat → Int32), fMB_35 = upd fMB x1.toNatClampNeg (fMN x1.toNatClampNeg) → (∀ v36 : Int32, v36 = x1 + (1 : Int32) → P16 v36 fMB_35)))))) → P16 x1 fMB) → P16 x1 fMB
def wp_X3_take  (mk : Int32) (mp : Int32) (fMB : (Nat → Int32)) (fMN : (Nat → Int32)) (post : Int32 → (Nat → Int32) → Prop) : Prop := wp_X3_greatest mk mp fMN (fun (r1 : Int32) => ((r1 < mk → wp_X3_take_b16 (0 : Int32) mk mp fMB fMN post) ∧ (¬ r1 < mk → post (-3 : Int32) fMB)))
abbrev rm_X3_take : Room := { frames := 1, cells := 0, slots := 0, locals := 22 }
theorem hv_X3_take : yX3_take.cls = RX3 ∧ yX3_take.cls ≠ "java/lang/invoke/MethodHandle" ∧ yX3_take.cls ≠ "java/lang/invoke/VarHandle" ∧ (parseMethodDescriptor yX3_take.desc).map (fun d => d.parameters.length) = some 0 := by decide +kernel
set_option maxHeartbeats 4000000 in
set_option maxRecDepth 100000 in
theorem k_X3_take {p : Program} {l : Launch} {e : Env} {s : State} {m : MethodId} {args : Array Value} {below : List Frame} {meth : Method} {c : Code} {Q : State → Prop} {A : Nat → Prop} {dC : Nat → ClassId} {dI : Nat → Nat → Nat} {cI cJ cZ : ClassId} (hx : p.tables.exec = Jvm.exec) (hb : c.code = cX3_take) (hml : c.maxLocals = 2) (hown : s.vm.findClass RX3 = some m.cls) (hts : ∀ w ∈ wsX3_take, w.before args s = true) (hK : va_K (dC, dI) vwCl (mTy cI cJ cZ) s) (hA : ∀ q, s.heap.size ≤ q → A q) {aM aMM aML aMY aMT aMR aMB aMN : Nat} {mk : Int32} {mp : Int32} {fMB : (Nat → Int32)} {fMN : (Nat → Int32)}  {post : Int32 → (Nat → Int32) → Prop} (ret : ∀ (r : Int32) (fMB' : (Nat → Int32)) (H : Heap) (locs : List Loc) (ls : Array Slot) (pc : Nat), decode cX3_take pc = .ok (.ireturn, 1) → post r fMB' → va_P (dC, dI) vwCl [oM aM aMM aML aMY aMT aMR aMB aMN mk mp, aI aMB cI 60 fMB', aI aMN cI 60 fMN] H → va_D A [oM aM aMM aML aMY aMT aMR aMB aMN mk mp, aI aMB cI 60 fMB', aI aMN cI 60 fMN] → va_S A s.heap H locs → W p l e rm_X3_take s m args below meth c H locs 0 0 Q (F0 m pc ls [.int r])) (h : wp_X3_take  mk mp fMB fMN post) : mW p l e rm_X3_take s m args below meth c 0 0 Q A (dC, dI) 2 [oM aM aMM aML aMY aMT aMR aMB aMN mk mp, aI aMB cI 60 fMB, aI aMN cI 60 fMN] [(0, .ref aM)] 0 [] := by
  have in_X3 : ∀ w ∈ wsX30, w ∈ wsX3_take := fun w hw => List.mem_cons_of_mem _ (List.mem_append_right _ hw)
  have k_102 := hts (.fieldLink RX3 102 "RingTasksModel" "posts" "I") (List.mem_of_getElem? (i := 2) rfl)
  have k_27 := hts (.fieldLink RX3 27 "RingTasksModel" "label" "[I") (List.mem_of_getElem? (i := 3) rfl)
  have k_30 := hts (.fieldLink RX3 30 "RingTasksModel" "number" "[I") (List.mem_of_getElem? (i := 4) rfl)
  have k_40 := hts (.fieldLink RX3 40 "RingTasksModel" "labels" "I") (List.mem_of_getElem? (i := 1) rfl)
  have B16 : ∀ (x1 : Int32) (fMB : (Nat → Int32)), wp_X3_take_b16 x1 mk mp fMB fMN post → mW p l e rm_X3_take s m args below meth c 0 0 Q A (dC, dI) 2 [oM aM aMM aML aMY aMT aMR aMB aMN mk mp, aI aMB cI 60 fMB, aI aMN cI 60 fMN] [(0, .ref aM), (1, .int x1)] 16 [] := by
    intro x1 fMB h
    unfold wp_X3_take_b16 at h
    refine h (fun (x1 : Int32) (fMB : (Nat → Int32)) => mW p l e rm_X3_take s m args below meth c 0 0 Q A (dC, dI) 2 [oM aM aMM aML aMY aMT aMR aMB aMN mk mp, aI aMB cI 60 fMB, aI aMN cI 60 fMN] [(0, .ref aM), (1, .int x1)] 16 []) ?_
    intro x1 fMB h
    intro H locs ls hP hD hS hl
    refine lv_iload_n hx hb dX3_take_16 rfl (lv_at hl 1 rfl) ?_
    refine lv_aload_n hx hb dX3_take_17 rfl (lv_at hl 0 rfl) ?_
    refine va_get (D := (dC, dI)) (ci := 3) (v := .int mp) (C := RX3) (T := TX3) (N := 9) hx hb hts in_X3 hown hK hP 0 rfl rfl 6 (by decide) k_102 (fun _ h9 => h9) rfl dX3_take_18 ?_
    refine lv_icmp_ge (tgt := 42) hx hb dX3_take_21 (by decide) (fun q21 => ?_) (fun q21 => ?_)
    · have h := h.1 q21
      refine lv_iconst (v := 1) hx hb dX3_take_42 (by decide) ?_
      exact ret _ _ H locs ls _ dX3_take_43 h hP hD hS
    · have h := h.2 q21
      refine lv_aload_n hx hb dX3_take_24 rfl (lv_at hl 0 rfl) ?_
      refine va_get (D := (dC, dI)) (ci := 3) (v := .ref aMB) (C := RX3) (T := TX3) (N := 9) hx hb hts in_X3 hown hK hP 0 rfl rfl 7 (by decide) k_27 (fun _ h9 => h9) rfl dX3_take_25 ?_
      refine lv_iload_n hx hb dX3_take_28 rfl (lv_at hl 1 rfl) ?_
      refine lv_aload_n hx hb dX3_take_29 rfl (lv_at hl 0 rfl) ?_
      refine va_get (D := (dC, dI)) (ci := 3) (v := .ref aMN) (C := RX3) (T := TX3) (N := 9) hx hb hts in_X3 hown hK hP 0 rfl rfl 8 (by decide) k_30 (fun _ h9 => h9) rfl dX3_take_30 ?_
      refine lv_iload_n hx hb dX3_take_33 rfl (lv_at hl 1 rfl) ?_
      refine va_iald (D := (dC, dI)) hx hb hK hP 2 0 rfl rfl h.1 dX3_take_34 ?_
      have h := h.2
      refine va_iast (D := (dC, dI)) hx hb hK hP hD hS 1 0 rfl rfl h.1 dX3_take_35 (fun H locs hP hD hS => ?_)
      obtain ⟨fMB_35, efMB_35⟩ : ∃ y, y = upd fMB x1.toNatClampNeg (fMN x1.toNatClampNeg) := ⟨_, rfl⟩
      have h := h.2 fMB_35 efMB_35
      have hP : va_P (dC, dI) vwCl [oM aM aMM aML aMY aMT aMR aMB aMN mk mp, aI aMB cI 60 fMB_35, aI aMN cI 60 fMN] H := by rw [efMB_35]; exact hP
      have hD : va_D A [oM aM aMM aML aMY aMT aMR aMB aMN mk mp, aI aMB cI 60 fMB_35, aI aMN cI 60 fMN] := by rw [efMB_35]; exact hD
      obtain ⟨v36, ev36⟩ : ∃ y : Int32, y = x1 + (1 : Int32) := ⟨_, rfl⟩
      have h := h v36 ev36
      refine lv_iinc (v := v36) (lv' := [(1, .int v36), (0, .ref aM)]) hx hb dX3_take_36 hl (k := 1) rfl (by rw [ev36]; rfl) (by decide) rfl (fun ls hl => ?_)
      refine lv_goto (tgt := 16) hx hb dX3_take_39 (by decide) ?_
      exact h H locs ls hP hD hS (lv_sub hl [1, 0] rfl)
  unfold wp_X3_take at h
  intro H locs ls hP hD hS hl
  refine lv_aload_n hx hb dX3_take_0 rfl (lv_at hl 0 rfl) ?_
  refine mVi (wr := [aI aMB cI 60 fMB]) (As := []) (rest := []) ⟨hx, hb, hml, hown, hts⟩ (c_X3_greatest (l := l) (dC := dC) (dI := dI) (cI := cI) (cJ := cJ) (cZ := cZ) (aM := aM) (aMM := aMM) (aML := aML) (aMY := aMY) (aMT := aMT) (aMR := aMR) (aMB := aMB) (aMN := aMN) h) (cwV 0 hts gX3_take_X3_greatest rfl rfl rfl hv_X3_greatest ⟨Nat.le_of_ble_eq_true rfl, Nat.le_of_ble_eq_true rfl⟩) hK hP hD hS hA [0, 2] [1] rfl rfl rfl rfl (by decide) 3 rfl rfl rfl rfl hl.1 rfl (Nat.le_of_ble_eq_true rfl) ⟨Nat.zero_le _, Nat.zero_le _⟩ dX3_take_1 (fun r1 u1 H locs h hP hD hS => ?_)
  have hP : va_P (dC, dI) vwCl [oM aM aMM aML aMY aMT aMR aMB aMN mk mp, aI aMB cI 60 fMB, aI aMN cI 60 fMN] H := hP.sub [1, 0, 2] rfl
  have hD : va_D A [oM aM aMM aML aMY aMT aMR aMB aMN mk mp, aI aMB cI 60 fMB, aI aMN cI 60 fMN] := hD.sub [1, 0, 2] rfl rfl
  refine lv_aload_n hx hb dX3_take_4 rfl (lv_at hl 0 rfl) ?_
  refine va_get (D := (dC, dI)) (ci := 3) (v := .int mk) (C := RX3) (T := TX3) (N := 9) hx hb hts in_X3 hown hK hP 0 rfl rfl 0 (by decide) k_40 (fun _ h9 => h9) rfl dX3_take_5 ?_
  refine lv_icmp_lt (tgt := 14) hx hb dX3_take_8 (by decide) (fun q8 => ?_) (fun q8 => ?_)
  · have h := h.1 q8
    refine lv_iconst (v := 0) hx hb dX3_take_14 (by decide) ?_
    refine lv_istore_n (lv' := [(1, .int (0 : Int32)), (0, .ref aM)]) hx hb dX3_take_15 rfl hl (by decide) rfl (fun ls hl => ?_)
    exact B16 _ _ h H locs ls hP hD hS (lv_sub hl [1, 0] rfl)
  · have h := h.2 q8
    refine lv_bipush (v := -3) hx hb dX3_take_11 (by decide) ?_
    exact ret _ _ H locs ls _ dX3_take_13 h hP hD hS
set_option maxHeartbeats 4000000 in
set_option maxRecDepth 100000 in
theorem c_X3_take {l : Launch} {dC : Nat → ClassId} {dI : Nat → Nat → Nat} {cI cJ cZ : ClassId} {aM aMM aML aMY aMT aMR aMB aMN : Nat} {mk : Int32} {mp : Int32} {fMB : (Nat → Int32)} {fMN : (Nat → Int32)}  {post : Int32 → (Nat → Int32) → Prop} (h : wp_X3_take  mk mp fMB fMN post) : ∀ sz, Met l yX3_take wsX3_take rm_X3_take (mP (dC, dI) (mTy cI cJ cZ) [.ref aM] [oM aM aMM aML aMY aMT aMR aMB aMN mk mp, aI aMB cI 60 fMB, aI aMN cI 60 fMN] sz) (va_Qi (fun (r : Int32) (u : (Nat → Int32)) => post r u) (mB (dC, dI) (va_A [oM aM aMM aML aMY aMT aMR aMB aMN mk mp, aI aMB cI 60 fMB, aI aMN cI 60 fMN] sz) (fun u => [oM aM aMM aML aMY aMT aMR aMB aMN mk mp, aI aMB cI 60 u, aI aMN cI 60 fMN])) (va_A [oM aM aMM aML aMY aMT aMR aMB aMN mk mp, aI aMB cI 60 fMB, aI aMN cI 60 fMN] sz)) 0 0 (va_A [oM aM aMM aML aMY aMT aMR aMB aMN mk mp, aI aMB cI 60 fMB, aI aMN cI 60 fMN] sz) := by
  intro sz
  refine Met.ofW (cc := cX3_take) (maxL := 2) (ret := (some .int)) (by decide) rfl ?_
  intro p e s m args below meth c s₁ B hml hv
  obtain ⟨rfl, hsz, hP, hK, hD0⟩ := hv
  have hlocks := B.notSynchronized
  subst hsz
  have hD := hD0.self (sz := s.heap.size)
  have hl := lv_entry ([.ref aM]) (n := 2) (Nat.le_of_ble_eq_true rfl)
  rw [lg_entry_eq]
  exact k_X3_take B.exec B.bytes hml (findClass_of_methodNamed B.named) (atoms_spec (ws := wsX3_take) B.pre) hK (fun q hq => Or.inr hq) (fun r fMB' H locs ls pc hd hp hP hD hS => W.iret B.exec B.bytes B.returns (fun t ht hW => ⟨⟨r, fMB', rfl, hp, by rw [ht]; exact hP, hD⟩, hS.F ht⟩) hS.2.2 hd) h s.heap [] _ hP hD va_S.rf hl

def wp_X3_unlike_b18 (x2 : Int32) (x3 : Int32) (x4 : Int32) (x5 : Int32) (nA : Nat) (mk : Int32) (mp : Int32) (fA : (Nat → Int32)) (post : Int32 → Prop) (P4 : Int32 → Int32 → Prop) : Prop := ∀ P18 : Int32 → Int32 → Prop, (∀ (x4 : Int32) (x5 : Int32), ((x3 ≤ x5 → ((x4 = (0 : Int32) → (∀ v64 : Int32, v64 = (x2 + (0 : Int32)) → (∀ v65 : Int32, v65 = x3 + (1 : Int32) → P4 v64 v65))) ∧ (¬ x4 = (0 : Int32) → (∀ v64 : Int32, v64 = (x2 + (1 : Int32)) → (∀ v65 : Int32, v65 = x3 + (1 : Int32) → P4 v64 v65))))) ∧ (¬ x3 ≤ x5 → ((x4 = (0 : Int32) → (∀ v46 : Int32, v46 = x5 + (1 : Int32) → P18 (0 : Int32) v46)) ∧ (¬ x4 = (0 : Int32) → (vp_in x5 nA ∧ (vp_in x3 nA ∧ (((fA x5.toNatClampNeg) = (fA x3.toNatClampNeg) → (∀ v46 : Int32, v46 = x5 + (1 : Int32) → P18 (0 : Int32) v46)) ∧ (¬ (fA x5.toNatClampNeg) = (fA x3.toNatClampNeg) → (∀ v46 : Int32, v46 = x5 + (1 : Int32) → P18 (1 : Int32) v46))))))))) → P18 x4 x5) → P18 x4 x5
def wp_X3_unlike_b4 (x2 : Int32) (x3 : Int32) (nA : Nat) (mk : Int32) (mp : Int32) (fA : (Nat → Int32)) (post : Int32 → Prop)  : Prop := ∀ P4 : Int32 → Int32 → Prop, (∀ (x2 : Int32) (x3 : Int32), ((mp ≤ x3 → post x2) ∧ (¬ mp ≤ x3 → wp_X3_unlike_b18 x2 x3 (1 : Int32) (0 : Int32) nA mk mp fA post P4)) → P4 x2 x3) → P4 x2 x3
def wp_X3_unlike  (nA : Nat) (mk : Int32) (mp : Int32) (fA : (Nat → Int32)) (post : Int32 → Prop) : Prop := wp_X3_unlike_b4 (0 : Int32) (0 : Int32) nA mk mp fA post
abbrev rm_X3_unlike : Room := { frames := 0, cells := 0, slots := 0, locals := 0 }
theorem hv_X3_unlike : yX3_unlike.cls = RX3 ∧ yX3_unlike.cls ≠ "java/lang/invoke/MethodHandle" ∧ yX3_unlike.cls ≠ "java/lang/invoke/VarHandle" ∧ (parseMethodDescriptor yX3_unlike.desc).map (fun d => d.parameters.length) = some 1 := by decide +kernel
set_option maxHeartbeats 4000000 in
set_option maxRecDepth 100000 in
theorem k_X3_unlike {p : Program} {l : Launch} {e : Env} {s : State} {m : MethodId} {args : Array Value} {below : List Frame} {meth : Method} {c : Code} {Q : State → Prop} {A : Nat → Prop} {dC : Nat → ClassId} {dI : Nat → Nat → Nat} {cI cJ cZ : ClassId} (hx : p.tables.exec = Jvm.exec) (hb : c.code = cX3_unlike) (hml : c.maxLocals = 6) (hown : s.vm.findClass RX3 = some m.cls) (hts : ∀ w ∈ wsX3_unlike, w.before args s = true) (hK : va_K (dC, dI) vwCl (mTy cI cJ cZ) s) (hA : ∀ q, s.heap.size ≤ q → A q) {aM aMM aML aMY aMT aMR aMB aMN aA : Nat} {nA : Nat} {mk : Int32} {mp : Int32} {fA : (Nat → Int32)}  {post : Int32 → Prop} (ret : ∀ (r : Int32) (H : Heap) (locs : List Loc) (ls : Array Slot) (pc : Nat), decode cX3_unlike pc = .ok (.ireturn, 1) → post r → va_P (dC, dI) vwCl [oM aM aMM aML aMY aMT aMR aMB aMN mk mp, aI aA cI nA fA] H → va_D A [oM aM aMM aML aMY aMT aMR aMB aMN mk mp, aI aA cI nA fA] → va_S A s.heap H locs → W p l e rm_X3_unlike s m args below meth c H locs 0 0 Q (F0 m pc ls [.int r])) (h : wp_X3_unlike  nA mk mp fA post) : mW p l e rm_X3_unlike s m args below meth c 0 0 Q A (dC, dI) 6 [oM aM aMM aML aMY aMT aMR aMB aMN mk mp, aI aA cI nA fA] [(0, .ref aM), (1, .ref aA)] 0 [] := by
  have in_X3 : ∀ w ∈ wsX30, w ∈ wsX3_unlike := fun w hw => List.mem_cons_of_mem _ (List.mem_append_right _ hw)
  have k_102 := hts (.fieldLink RX3 102 "RingTasksModel" "posts" "I") (List.mem_of_getElem? (i := 1) rfl)
  have B18 : ∀ (x2 : Int32) (x3 : Int32) (x4 : Int32) (x5 : Int32), ∀ (P4 : Int32 → Int32 → Prop) (hP4 : ∀ (x2 : Int32) (x3 : Int32), P4 x2 x3 → mW p l e rm_X3_unlike s m args below meth c 0 0 Q A (dC, dI) 6 [oM aM aMM aML aMY aMT aMR aMB aMN mk mp, aI aA cI nA fA] [(0, .ref aM), (1, .ref aA), (2, .int x2), (3, .int x3)] 4 []), wp_X3_unlike_b18 x2 x3 x4 x5 nA mk mp fA post P4 → mW p l e rm_X3_unlike s m args below meth c 0 0 Q A (dC, dI) 6 [oM aM aMM aML aMY aMT aMR aMB aMN mk mp, aI aA cI nA fA] [(0, .ref aM), (1, .ref aA), (2, .int x2), (3, .int x3), (4, .int x4), (5, .int x5)] 18 [] := by
    intro x2 x3 x4 x5 P4 hP4 h
    unfold wp_X3_unlike_b18 at h
    refine h (fun (x4 : Int32) (x5 : Int32) => mW p l e rm_X3_unlike s m args below meth c 0 0 Q A (dC, dI) 6 [oM aM aMM aML aMY aMT aMR aMB aMN mk mp, aI aA cI nA fA] [(0, .ref aM), (1, .ref aA), (2, .int x2), (3, .int x3), (4, .int x4), (5, .int x5)] 18 []) ?_
    intro x4 x5 h
    intro H locs ls hP hD hS hl
    refine lv_iload hx hb dX3_unlike_18 (lv_at hl 5 rfl) ?_
    refine lv_iload_n hx hb dX3_unlike_20 rfl (lv_at hl 3 rfl) ?_
    refine lv_icmp_ge (tgt := 52) hx hb dX3_unlike_21 (by decide) (fun q21 => ?_) (fun q21 => ?_)
    · have h := h.1 q21
      refine lv_iload_n hx hb dX3_unlike_52 rfl (lv_at hl 2 rfl) ?_
      refine lv_iload hx hb dX3_unlike_53 (lv_at hl 4 rfl) ?_
      refine lv_if_eq (tgt := 62) hx hb dX3_unlike_55 (by decide) (fun q55 => ?_) (fun q55 => ?_)
      · have h := h.1 q55
        refine lv_iconst (v := 0) hx hb dX3_unlike_62 (by decide) ?_
        refine lv_iadd hx hb dX3_unlike_63 ?_
        refine lv_topi (fun v64 ev64 => ?_)
        have h := h v64 ev64
        refine lv_istore_n (lv' := [(2, .int v64), (0, .ref aM), (1, .ref aA), (3, .int x3), (4, .int x4), (5, .int x5)]) hx hb dX3_unlike_64 rfl hl (by decide) rfl (fun ls hl => ?_)
        obtain ⟨v65, ev65⟩ : ∃ y : Int32, y = x3 + (1 : Int32) := ⟨_, rfl⟩
        have h := h v65 ev65
        refine lv_iinc (v := v65) (lv' := [(3, .int v65), (2, .int v64), (0, .ref aM), (1, .ref aA), (4, .int x4), (5, .int x5)]) hx hb dX3_unlike_65 hl (k := 3) rfl (by rw [ev65]; rfl) (by decide) rfl (fun ls hl => ?_)
        refine lv_goto (tgt := 4) hx hb dX3_unlike_68 (by decide) ?_
        exact hP4 _ _ h H locs ls hP hD hS (lv_sub hl [2, 3, 1, 0] rfl)
      · have h := h.2 q55
        refine lv_iconst (v := 1) hx hb dX3_unlike_58 (by decide) ?_
        refine lv_goto (tgt := 63) hx hb dX3_unlike_59 (by decide) ?_
        refine lv_iadd hx hb dX3_unlike_63 ?_
        refine lv_topi (fun v64 ev64 => ?_)
        have h := h v64 ev64
        refine lv_istore_n (lv' := [(2, .int v64), (0, .ref aM), (1, .ref aA), (3, .int x3), (4, .int x4), (5, .int x5)]) hx hb dX3_unlike_64 rfl hl (by decide) rfl (fun ls hl => ?_)
        obtain ⟨v65, ev65⟩ : ∃ y : Int32, y = x3 + (1 : Int32) := ⟨_, rfl⟩
        have h := h v65 ev65
        refine lv_iinc (v := v65) (lv' := [(3, .int v65), (2, .int v64), (0, .ref aM), (1, .ref aA), (4, .int x4), (5, .int x5)]) hx hb dX3_unlike_65 hl (k := 3) rfl (by rw [ev65]; rfl) (by decide) rfl (fun ls hl => ?_)
        refine lv_goto (tgt := 4) hx hb dX3_unlike_68 (by decide) ?_
        exact hP4 _ _ h H locs ls hP hD hS (lv_sub hl [2, 3, 1, 0] rfl)
    · have h := h.2 q21
      refine lv_iload hx hb dX3_unlike_24 (lv_at hl 4 rfl) ?_
      refine lv_if_eq (tgt := 43) hx hb dX3_unlike_26 (by decide) (fun q26 => ?_) (fun q26 => ?_)
      · have h := h.1 q26
        refine lv_iconst (v := 0) hx hb dX3_unlike_43 (by decide) ?_
        refine lv_istore (lv' := [(4, .int (0 : Int32)), (0, .ref aM), (1, .ref aA), (2, .int x2), (3, .int x3), (5, .int x5)]) hx hb dX3_unlike_44 hl (by decide) rfl (fun ls hl => ?_)
        obtain ⟨v46, ev46⟩ : ∃ y : Int32, y = x5 + (1 : Int32) := ⟨_, rfl⟩
        have h := h v46 ev46
        refine lv_iinc (v := v46) (lv' := [(5, .int v46), (4, .int (0 : Int32)), (0, .ref aM), (1, .ref aA), (2, .int x2), (3, .int x3)]) hx hb dX3_unlike_46 hl (k := 5) rfl (by rw [ev46]; rfl) (by decide) rfl (fun ls hl => ?_)
        refine lv_goto (tgt := 18) hx hb dX3_unlike_49 (by decide) ?_
        exact h H locs ls hP hD hS (lv_sub hl [2, 3, 4, 5, 1, 0] rfl)
      · have h := h.2 q26
        refine lv_aload_n hx hb dX3_unlike_29 rfl (lv_at hl 1 rfl) ?_
        refine lv_iload hx hb dX3_unlike_30 (lv_at hl 5 rfl) ?_
        refine va_iald (D := (dC, dI)) hx hb hK hP 1 0 rfl rfl h.1 dX3_unlike_32 ?_
        have h := h.2
        refine lv_aload_n hx hb dX3_unlike_33 rfl (lv_at hl 1 rfl) ?_
        refine lv_iload_n hx hb dX3_unlike_34 rfl (lv_at hl 3 rfl) ?_
        refine va_iald (D := (dC, dI)) hx hb hK hP 1 0 rfl rfl h.1 dX3_unlike_35 ?_
        have h := h.2
        refine lv_icmp_eq (tgt := 43) hx hb dX3_unlike_36 (by decide) (fun q36 => ?_) (fun q36 => ?_)
        · have h := h.1 q36
          refine lv_iconst (v := 0) hx hb dX3_unlike_43 (by decide) ?_
          refine lv_istore (lv' := [(4, .int (0 : Int32)), (0, .ref aM), (1, .ref aA), (2, .int x2), (3, .int x3), (5, .int x5)]) hx hb dX3_unlike_44 hl (by decide) rfl (fun ls hl => ?_)
          obtain ⟨v46, ev46⟩ : ∃ y : Int32, y = x5 + (1 : Int32) := ⟨_, rfl⟩
          have h := h v46 ev46
          refine lv_iinc (v := v46) (lv' := [(5, .int v46), (4, .int (0 : Int32)), (0, .ref aM), (1, .ref aA), (2, .int x2), (3, .int x3)]) hx hb dX3_unlike_46 hl (k := 5) rfl (by rw [ev46]; rfl) (by decide) rfl (fun ls hl => ?_)
          refine lv_goto (tgt := 18) hx hb dX3_unlike_49 (by decide) ?_
          exact h H locs ls hP hD hS (lv_sub hl [2, 3, 4, 5, 1, 0] rfl)
        · have h := h.2 q36
          refine lv_iconst (v := 1) hx hb dX3_unlike_39 (by decide) ?_
          refine lv_goto (tgt := 44) hx hb dX3_unlike_40 (by decide) ?_
          refine lv_istore (lv' := [(4, .int (1 : Int32)), (0, .ref aM), (1, .ref aA), (2, .int x2), (3, .int x3), (5, .int x5)]) hx hb dX3_unlike_44 hl (by decide) rfl (fun ls hl => ?_)
          obtain ⟨v46, ev46⟩ : ∃ y : Int32, y = x5 + (1 : Int32) := ⟨_, rfl⟩
          have h := h v46 ev46
          refine lv_iinc (v := v46) (lv' := [(5, .int v46), (4, .int (1 : Int32)), (0, .ref aM), (1, .ref aA), (2, .int x2), (3, .int x3)]) hx hb dX3_unlike_46 hl (k := 5) rfl (by rw [ev46]; rfl) (by decide) rfl (fun ls hl => ?_)
          refine lv_goto (tgt := 18) hx hb dX3_unlike_49 (by decide) ?_
          exact h H locs ls hP hD hS (lv_sub hl [2, 3, 4, 5, 1, 0] rfl)
  have B4 : ∀ (x2 : Int32) (x3 : Int32), wp_X3_unlike_b4 x2 x3 nA mk mp fA post → mW p l e rm_X3_unlike s m args below meth c 0 0 Q A (dC, dI) 6 [oM aM aMM aML aMY aMT aMR aMB aMN mk mp, aI aA cI nA fA] [(0, .ref aM), (1, .ref aA), (2, .int x2), (3, .int x3)] 4 [] := by
    intro x2 x3 h
    unfold wp_X3_unlike_b4 at h
    refine h (fun (x2 : Int32) (x3 : Int32) => mW p l e rm_X3_unlike s m args below meth c 0 0 Q A (dC, dI) 6 [oM aM aMM aML aMY aMT aMR aMB aMN mk mp, aI aA cI nA fA] [(0, .ref aM), (1, .ref aA), (2, .int x2), (3, .int x3)] 4 []) ?_
    intro x2 x3 h
    intro H locs ls hP hD hS hl
    refine lv_iload_n hx hb dX3_unlike_4 rfl (lv_at hl 3 rfl) ?_
    refine lv_aload_n hx hb dX3_unlike_5 rfl (lv_at hl 0 rfl) ?_
    refine va_get (D := (dC, dI)) (ci := 3) (v := .int mp) (C := RX3) (T := TX3) (N := 9) hx hb hts in_X3 hown hK hP 0 rfl rfl 6 (by decide) k_102 (fun _ h9 => h9) rfl dX3_unlike_6 ?_
    refine lv_icmp_ge (tgt := 71) hx hb dX3_unlike_9 (by decide) (fun q9 => ?_) (fun q9 => ?_)
    · have h := h.1 q9
      refine lv_iload_n hx hb dX3_unlike_71 rfl (lv_at hl 2 rfl) ?_
      exact ret _  H locs ls _ dX3_unlike_72 h hP hD hS
    · have h := h.2 q9
      refine lv_iconst (v := 1) hx hb dX3_unlike_12 (by decide) ?_
      refine lv_istore (lv' := [(4, .int (1 : Int32)), (0, .ref aM), (1, .ref aA), (2, .int x2), (3, .int x3)]) hx hb dX3_unlike_13 hl (by decide) rfl (fun ls hl => ?_)
      refine lv_iconst (v := 0) hx hb dX3_unlike_15 (by decide) ?_
      refine lv_istore (lv' := [(5, .int (0 : Int32)), (4, .int (1 : Int32)), (0, .ref aM), (1, .ref aA), (2, .int x2), (3, .int x3)]) hx hb dX3_unlike_16 hl (by decide) rfl (fun ls hl => ?_)
      exact B18 _ _ _ _ _ (fun _ _ hq => hq) h H locs ls hP hD hS (lv_sub hl [2, 3, 4, 5, 1, 0] rfl)
  unfold wp_X3_unlike at h
  intro H locs ls hP hD hS hl
  refine lv_iconst (v := 0) hx hb dX3_unlike_0 (by decide) ?_
  refine lv_istore_n (lv' := [(2, .int (0 : Int32)), (0, .ref aM), (1, .ref aA)]) hx hb dX3_unlike_1 rfl hl (by decide) rfl (fun ls hl => ?_)
  refine lv_iconst (v := 0) hx hb dX3_unlike_2 (by decide) ?_
  refine lv_istore_n (lv' := [(3, .int (0 : Int32)), (2, .int (0 : Int32)), (0, .ref aM), (1, .ref aA)]) hx hb dX3_unlike_3 rfl hl (by decide) rfl (fun ls hl => ?_)
  exact B4 _ _ h H locs ls hP hD hS (lv_sub hl [2, 3, 1, 0] rfl)
set_option maxHeartbeats 4000000 in
set_option maxRecDepth 100000 in
theorem c_X3_unlike {l : Launch} {dC : Nat → ClassId} {dI : Nat → Nat → Nat} {cI cJ cZ : ClassId} {aM aMM aML aMY aMT aMR aMB aMN aA : Nat} {nA : Nat} {mk : Int32} {mp : Int32} {fA : (Nat → Int32)}  {post : Int32 → Prop} (h : wp_X3_unlike  nA mk mp fA post) : ∀ sz, Met l yX3_unlike wsX3_unlike rm_X3_unlike (mP (dC, dI) (mTy cI cJ cZ) [.ref aM, .ref aA] [oM aM aMM aML aMY aMT aMR aMB aMN mk mp, aI aA cI nA fA] sz) (va_Qi (fun (r : Int32) (u : Unit) => post r ) (mB (dC, dI) (va_A [oM aM aMM aML aMY aMT aMR aMB aMN mk mp, aI aA cI nA fA] sz) (fun u => [oM aM aMM aML aMY aMT aMR aMB aMN mk mp, aI aA cI nA fA])) (va_A [oM aM aMM aML aMY aMT aMR aMB aMN mk mp, aI aA cI nA fA] sz)) 0 0 (va_A [oM aM aMM aML aMY aMT aMR aMB aMN mk mp, aI aA cI nA fA] sz) := by
  intro sz
  refine Met.ofW (cc := cX3_unlike) (maxL := 6) (ret := (some .int)) (by decide) rfl ?_
  intro p e s m args below meth c s₁ B hml hv
  obtain ⟨rfl, hsz, hP, hK, hD0⟩ := hv
  have hlocks := B.notSynchronized
  subst hsz
  have hD := hD0.self (sz := s.heap.size)
  have hl := lv_entry ([.ref aM, .ref aA]) (n := 6) (Nat.le_of_ble_eq_true rfl)
  rw [lg_entry_eq]
  exact k_X3_unlike B.exec B.bytes hml (findClass_of_methodNamed B.named) (atoms_spec (ws := wsX3_unlike) B.pre) hK (fun q hq => Or.inr hq) (fun r H locs ls pc hd hp hP hD hS => W.iret B.exec B.bytes B.returns (fun t ht hW => ⟨⟨r, (), rfl, hp, by rw [ht]; exact hP, hD⟩, hS.F ht⟩) hS.2.2 hd) h s.heap [] _ hP hD va_S.rf hl

def wp_X3_count_b4 (x1 : Int32) (x2 : Int32) (x3 : Int32) (mk : Int32) (mp : Int32) (fMM : (Nat → Int32)) (fMB : (Nat → Int32)) (fMN : (Nat → Int32)) (post : Int32 → Prop)  : Prop := ∀ P4 : Int32 → Int32 → Prop, (∀ (x2 : Int32) (x3 : Int32), (((36 : Int32) ≤ x3 → ((x1.toInt < 0 ∨ 5 < x1.toInt → post (-2 : Int32)) ∧ (x1 = (0 : Int32) → post mk) ∧ (x1 = (1 : Int32) → post x2) ∧ (x1 = (2 : Int32) → post mp) ∧ (x1 = (3 : Int32) → wp_X3_unlike 60 mk mp fMN (fun (r89 : Int32) => post r89)) ∧ (x1 = (4 : Int32) → wp_X3_likes mk mp fMN (fun (r94 : Int32) => post r94)) ∧ (x1 = (5 : Int32) → wp_X3_unlike 60 mk mp fMB (fun (r103 : Int32) => post r103)))) ∧ (¬ (36 : Int32) ≤ x3 → (vp_in x3 36 ∧ (((fMM x3.toNatClampNeg) = (0 : Int32) → (∀ v26 : Int32, v26 = (x2 + (0 : Int32)) → (∀ v27 : Int32, v27 = x3 + (1 : Int32) → P4 v26 v27))) ∧ (¬ (fMM x3.toNatClampNeg) = (0 : Int32) → (∀ v26 : Int32, v26 = (x2 + (1 : Int32)) → (∀ v27 : Int32, v27 = x3 + (1 : Int32) → P4 v26 v27))))))) → P4 x2 x3) → P4 x2 x3
def wp_X3_count (x1 : Int32) (mk : Int32) (mp : Int32) (fMM : (Nat → Int32)) (fMB : (Nat → Int32)) (fMN : (Nat → Int32)) (post : Int32 → Prop) : Prop := wp_X3_count_b4 x1 (0 : Int32) (0 : Int32) mk mp fMM fMB fMN post
abbrev rm_X3_count : Room := { frames := 2, cells := 0, slots := 0, locals := 43 }
theorem hv_X3_count : yX3_count.cls = RX3 ∧ yX3_count.cls ≠ "java/lang/invoke/MethodHandle" ∧ yX3_count.cls ≠ "java/lang/invoke/VarHandle" ∧ (parseMethodDescriptor yX3_count.desc).map (fun d => d.parameters.length) = some 1 := by decide +kernel
set_option maxHeartbeats 4000000 in
set_option maxRecDepth 100000 in
theorem k_X3_count {p : Program} {l : Launch} {e : Env} {s : State} {m : MethodId} {args : Array Value} {below : List Frame} {meth : Method} {c : Code} {Q : State → Prop} {A : Nat → Prop} {dC : Nat → ClassId} {dI : Nat → Nat → Nat} {cI cJ cZ : ClassId} (hx : p.tables.exec = Jvm.exec) (hb : c.code = cX3_count) (hml : c.maxLocals = 4) (hown : s.vm.findClass RX3 = some m.cls) (hts : ∀ w ∈ wsX3_count, w.before args s = true) (hK : va_K (dC, dI) vwCl (mTy cI cJ cZ) s) (hA : ∀ q, s.heap.size ≤ q → A q) {aM aMM aML aMY aMT aMR aMB aMN : Nat} {mk : Int32} {mp : Int32} {fMM : (Nat → Int32)} {fMB : (Nat → Int32)} {fMN : (Nat → Int32)} {x1 : Int32} {post : Int32 → Prop} (ret : ∀ (r : Int32) (H : Heap) (locs : List Loc) (ls : Array Slot) (pc : Nat), decode cX3_count pc = .ok (.ireturn, 1) → post r → va_P (dC, dI) vwCl [oM aM aMM aML aMY aMT aMR aMB aMN mk mp, aI aMM cZ 36 fMM, aI aMB cI 60 fMB, aI aMN cI 60 fMN] H → va_D A [oM aM aMM aML aMY aMT aMR aMB aMN mk mp, aI aMM cZ 36 fMM, aI aMB cI 60 fMB, aI aMN cI 60 fMN] → va_S A s.heap H locs → W p l e rm_X3_count s m args below meth c H locs 0 0 Q (F0 m pc ls [.int r])) (h : wp_X3_count x1 mk mp fMM fMB fMN post) : mW p l e rm_X3_count s m args below meth c 0 0 Q A (dC, dI) 4 [oM aM aMM aML aMY aMT aMR aMB aMN mk mp, aI aMM cZ 36 fMM, aI aMB cI 60 fMB, aI aMN cI 60 fMN] [(0, .ref aM), (1, .int x1)] 0 [] := by
  have in_X3 : ∀ w ∈ wsX30, w ∈ wsX3_count := fun w hw => List.mem_cons_of_mem _ (List.mem_append_right _ hw)
  have k_102 := hts (.fieldLink RX3 102 "RingTasksModel" "posts" "I") (List.mem_of_getElem? (i := 3) rfl)
  have k_27 := hts (.fieldLink RX3 27 "RingTasksModel" "label" "[I") (List.mem_of_getElem? (i := 5) rfl)
  have k_30 := hts (.fieldLink RX3 30 "RingTasksModel" "number" "[I") (List.mem_of_getElem? (i := 4) rfl)
  have k_40 := hts (.fieldLink RX3 40 "RingTasksModel" "labels" "I") (List.mem_of_getElem? (i := 2) rfl)
  have k_7 := hts (.fieldLink RX3 7 "RingTasksModel" "may" "[Z") (List.mem_of_getElem? (i := 1) rfl)
  have B4 : ∀ (x1 : Int32) (x2 : Int32) (x3 : Int32), wp_X3_count_b4 x1 x2 x3 mk mp fMM fMB fMN post → mW p l e rm_X3_count s m args below meth c 0 0 Q A (dC, dI) 4 [oM aM aMM aML aMY aMT aMR aMB aMN mk mp, aI aMM cZ 36 fMM, aI aMB cI 60 fMB, aI aMN cI 60 fMN] [(0, .ref aM), (1, .int x1), (2, .int x2), (3, .int x3)] 4 [] := by
    intro x1 x2 x3 h
    unfold wp_X3_count_b4 at h
    refine h (fun (x2 : Int32) (x3 : Int32) => mW p l e rm_X3_count s m args below meth c 0 0 Q A (dC, dI) 4 [oM aM aMM aML aMY aMT aMR aMB aMN mk mp, aI aMM cZ 36 fMM, aI aMB cI 60 fMB, aI aMN cI 60 fMN] [(0, .ref aM), (1, .int x1), (2, .int x2), (3, .int x3)] 4 []) ?_
    intro x2 x3 h
    intro H locs ls hP hD hS hl
    refine lv_iload_n hx hb dX3_count_4 rfl (lv_at hl 3 rfl) ?_
    refine lv_bipush (v := 36) hx hb dX3_count_5 (by decide) ?_
    refine lv_icmp_ge (tgt := 33) hx hb dX3_count_7 (by decide) (fun q7 => ?_) (fun q7 => ?_)
    · have h := h.1 q7
      refine lv_iload_n hx hb dX3_count_33 rfl (lv_at hl 1 rfl) ?_
      by_cases q34 : x1.toInt < 0 ∨ 5 < x1.toInt
      · have h := h.1 q34
        refine lv_tableOut (tgt := 107) hx hb dX3_count_34 q34 (by decide) ?_
        refine lv_bipush (v := -2) hx hb dX3_count_107 (by decide) ?_
        exact ret _  H locs ls _ dX3_count_109 h hP hD hS
      · have h := h.2
        rcases m_sw6 q34 with q | q | q | q | q | q
        · have h := h.1 q
          refine lv_tableIn (off := 38) (tgt := 72) hx hb dX3_count_34 (by rw [q]; decide) (by rw [q]; decide) (by rw [q]; decide) (by decide) ?_
          refine lv_aload_n hx hb dX3_count_72 rfl (lv_at hl 0 rfl) ?_
          refine va_get (D := (dC, dI)) (ci := 3) (v := .int mk) (C := RX3) (T := TX3) (N := 9) hx hb hts in_X3 hown hK hP 0 rfl rfl 0 (by decide) k_40 (fun _ h9 => h9) rfl dX3_count_73 ?_
          exact ret _  H locs ls _ dX3_count_76 h hP hD hS
        · have h := h.2.1 q
          refine lv_tableIn (off := 43) (tgt := 77) hx hb dX3_count_34 (by rw [q]; decide) (by rw [q]; decide) (by rw [q]; decide) (by decide) ?_
          refine lv_iload_n hx hb dX3_count_77 rfl (lv_at hl 2 rfl) ?_
          exact ret _  H locs ls _ dX3_count_78 h hP hD hS
        · have h := h.2.2.1 q
          refine lv_tableIn (off := 45) (tgt := 79) hx hb dX3_count_34 (by rw [q]; decide) (by rw [q]; decide) (by rw [q]; decide) (by decide) ?_
          refine lv_aload_n hx hb dX3_count_79 rfl (lv_at hl 0 rfl) ?_
          refine va_get (D := (dC, dI)) (ci := 3) (v := .int mp) (C := RX3) (T := TX3) (N := 9) hx hb hts in_X3 hown hK hP 0 rfl rfl 6 (by decide) k_102 (fun _ h9 => h9) rfl dX3_count_80 ?_
          exact ret _  H locs ls _ dX3_count_83 h hP hD hS
        · have h := h.2.2.2.1 q
          refine lv_tableIn (off := 50) (tgt := 84) hx hb dX3_count_34 (by rw [q]; decide) (by rw [q]; decide) (by rw [q]; decide) (by decide) ?_
          refine lv_aload_n hx hb dX3_count_84 rfl (lv_at hl 0 rfl) ?_
          refine lv_aload_n hx hb dX3_count_85 rfl (lv_at hl 0 rfl) ?_
          refine va_get (D := (dC, dI)) (ci := 3) (v := .ref aMN) (C := RX3) (T := TX3) (N := 9) hx hb hts in_X3 hown hK hP 0 rfl rfl 8 (by decide) k_30 (fun _ h9 => h9) rfl dX3_count_86 ?_
          refine mVi (wr := [aI aMM cZ 36 fMM, aI aMB cI 60 fMB]) (As := [.ref aMN]) (rest := []) ⟨hx, hb, hml, hown, hts⟩ (c_X3_unlike (l := l) (dC := dC) (dI := dI) (cI := cI) (cJ := cJ) (cZ := cZ) (aM := aM) (aMM := aMM) (aML := aML) (aMY := aMY) (aMT := aMT) (aMR := aMR) (aMB := aMB) (aMN := aMN) (aA := aMN) h) (cwV 1 hts gX3_count_X3_unlike rfl rfl rfl hv_X3_unlike ⟨Nat.le_of_ble_eq_true rfl, Nat.le_of_ble_eq_true rfl⟩) hK hP hD hS hA [0, 3] [1, 2] rfl rfl rfl rfl (by decide) 3 rfl rfl rfl rfl hl.1 rfl (Nat.le_of_ble_eq_true rfl) ⟨Nat.zero_le _, Nat.zero_le _⟩ dX3_count_89 (fun r89 u89 H locs h hP hD hS => ?_)
          have hP : va_P (dC, dI) vwCl [oM aM aMM aML aMY aMT aMR aMB aMN mk mp, aI aMM cZ 36 fMM, aI aMB cI 60 fMB, aI aMN cI 60 fMN] H := hP.sub [2, 0, 1, 3] rfl
          have hD : va_D A [oM aM aMM aML aMY aMT aMR aMB aMN mk mp, aI aMM cZ 36 fMM, aI aMB cI 60 fMB, aI aMN cI 60 fMN] := hD.sub [2, 0, 1, 3] rfl rfl
          exact ret _  H locs ls _ dX3_count_92 h hP hD hS
        · have h := h.2.2.2.2.1 q
          refine lv_tableIn (off := 59) (tgt := 93) hx hb dX3_count_34 (by rw [q]; decide) (by rw [q]; decide) (by rw [q]; decide) (by decide) ?_
          refine lv_aload_n hx hb dX3_count_93 rfl (lv_at hl 0 rfl) ?_
          refine mVi (wr := [aI aMM cZ 36 fMM, aI aMB cI 60 fMB]) (As := []) (rest := []) ⟨hx, hb, hml, hown, hts⟩ (c_X3_likes (l := l) (dC := dC) (dI := dI) (cI := cI) (cJ := cJ) (cZ := cZ) (aM := aM) (aMM := aMM) (aML := aML) (aMY := aMY) (aMT := aMT) (aMR := aMR) (aMB := aMB) (aMN := aMN) h) (cwV 0 hts gX3_count_X3_likes rfl rfl rfl hv_X3_likes ⟨Nat.le_of_ble_eq_true rfl, Nat.le_of_ble_eq_true rfl⟩) hK hP hD hS hA [0, 3] [1, 2] rfl rfl rfl rfl (by decide) 3 rfl rfl rfl rfl hl.1 rfl (Nat.le_of_ble_eq_true rfl) ⟨Nat.zero_le _, Nat.zero_le _⟩ dX3_count_94 (fun r94 u94 H locs h hP hD hS => ?_)
          have hP : va_P (dC, dI) vwCl [oM aM aMM aML aMY aMT aMR aMB aMN mk mp, aI aMM cZ 36 fMM, aI aMB cI 60 fMB, aI aMN cI 60 fMN] H := hP.sub [2, 0, 1, 3] rfl
          have hD : va_D A [oM aM aMM aML aMY aMT aMR aMB aMN mk mp, aI aMM cZ 36 fMM, aI aMB cI 60 fMB, aI aMN cI 60 fMN] := hD.sub [2, 0, 1, 3] rfl rfl
          exact ret _  H locs ls _ dX3_count_97 h hP hD hS
        · have h := h.2.2.2.2.2 q
          refine lv_tableIn (off := 64) (tgt := 98) hx hb dX3_count_34 (by rw [q]; decide) (by rw [q]; decide) (by rw [q]; decide) (by decide) ?_
          refine lv_aload_n hx hb dX3_count_98 rfl (lv_at hl 0 rfl) ?_
          refine lv_aload_n hx hb dX3_count_99 rfl (lv_at hl 0 rfl) ?_
          refine va_get (D := (dC, dI)) (ci := 3) (v := .ref aMB) (C := RX3) (T := TX3) (N := 9) hx hb hts in_X3 hown hK hP 0 rfl rfl 7 (by decide) k_27 (fun _ h9 => h9) rfl dX3_count_100 ?_
          refine mVi (wr := [aI aMM cZ 36 fMM, aI aMN cI 60 fMN]) (As := [.ref aMB]) (rest := []) ⟨hx, hb, hml, hown, hts⟩ (c_X3_unlike (l := l) (dC := dC) (dI := dI) (cI := cI) (cJ := cJ) (cZ := cZ) (aM := aM) (aMM := aMM) (aML := aML) (aMY := aMY) (aMT := aMT) (aMR := aMR) (aMB := aMB) (aMN := aMN) (aA := aMB) h) (cwV 1 hts gX3_count_X3_unlike rfl rfl rfl hv_X3_unlike ⟨Nat.le_of_ble_eq_true rfl, Nat.le_of_ble_eq_true rfl⟩) hK hP hD hS hA [0, 2] [1, 3] rfl rfl rfl rfl (by decide) 3 rfl rfl rfl rfl hl.1 rfl (Nat.le_of_ble_eq_true rfl) ⟨Nat.zero_le _, Nat.zero_le _⟩ dX3_count_103 (fun r103 u103 H locs h hP hD hS => ?_)
          have hP : va_P (dC, dI) vwCl [oM aM aMM aML aMY aMT aMR aMB aMN mk mp, aI aMM cZ 36 fMM, aI aMB cI 60 fMB, aI aMN cI 60 fMN] H := hP.sub [2, 0, 3, 1] rfl
          have hD : va_D A [oM aM aMM aML aMY aMT aMR aMB aMN mk mp, aI aMM cZ 36 fMM, aI aMB cI 60 fMB, aI aMN cI 60 fMN] := hD.sub [2, 0, 3, 1] rfl rfl
          exact ret _  H locs ls _ dX3_count_106 h hP hD hS
    · have h := h.2 q7
      refine lv_iload_n hx hb dX3_count_10 rfl (lv_at hl 2 rfl) ?_
      refine lv_aload_n hx hb dX3_count_11 rfl (lv_at hl 0 rfl) ?_
      refine va_get (D := (dC, dI)) (ci := 3) (v := .ref aMM) (C := RX3) (T := TX3) (N := 9) hx hb hts in_X3 hown hK hP 0 rfl rfl 1 (by decide) k_7 (fun _ h9 => h9) rfl dX3_count_12 ?_
      refine lv_iload_n hx hb dX3_count_15 rfl (lv_at hl 3 rfl) ?_
      refine va_zald (D := (dC, dI)) hx hb hK hP 1 2 rfl rfl h.1 dX3_count_16 ?_
      have h := h.2
      refine lv_if_eq (tgt := 24) hx hb dX3_count_17 (by decide) (fun q17 => ?_) (fun q17 => ?_)
      · have h := h.1 q17
        refine lv_iconst (v := 0) hx hb dX3_count_24 (by decide) ?_
        refine lv_iadd hx hb dX3_count_25 ?_
        refine lv_topi (fun v26 ev26 => ?_)
        have h := h v26 ev26
        refine lv_istore_n (lv' := [(2, .int v26), (0, .ref aM), (1, .int x1), (3, .int x3)]) hx hb dX3_count_26 rfl hl (by decide) rfl (fun ls hl => ?_)
        obtain ⟨v27, ev27⟩ : ∃ y : Int32, y = x3 + (1 : Int32) := ⟨_, rfl⟩
        have h := h v27 ev27
        refine lv_iinc (v := v27) (lv' := [(3, .int v27), (2, .int v26), (0, .ref aM), (1, .int x1)]) hx hb dX3_count_27 hl (k := 3) rfl (by rw [ev27]; rfl) (by decide) rfl (fun ls hl => ?_)
        refine lv_goto (tgt := 4) hx hb dX3_count_30 (by decide) ?_
        exact h H locs ls hP hD hS (lv_sub hl [2, 3, 1, 0] rfl)
      · have h := h.2 q17
        refine lv_iconst (v := 1) hx hb dX3_count_20 (by decide) ?_
        refine lv_goto (tgt := 25) hx hb dX3_count_21 (by decide) ?_
        refine lv_iadd hx hb dX3_count_25 ?_
        refine lv_topi (fun v26 ev26 => ?_)
        have h := h v26 ev26
        refine lv_istore_n (lv' := [(2, .int v26), (0, .ref aM), (1, .int x1), (3, .int x3)]) hx hb dX3_count_26 rfl hl (by decide) rfl (fun ls hl => ?_)
        obtain ⟨v27, ev27⟩ : ∃ y : Int32, y = x3 + (1 : Int32) := ⟨_, rfl⟩
        have h := h v27 ev27
        refine lv_iinc (v := v27) (lv' := [(3, .int v27), (2, .int v26), (0, .ref aM), (1, .int x1)]) hx hb dX3_count_27 hl (k := 3) rfl (by rw [ev27]; rfl) (by decide) rfl (fun ls hl => ?_)
        refine lv_goto (tgt := 4) hx hb dX3_count_30 (by decide) ?_
        exact h H locs ls hP hD hS (lv_sub hl [2, 3, 1, 0] rfl)
  unfold wp_X3_count at h
  intro H locs ls hP hD hS hl
  refine lv_iconst (v := 0) hx hb dX3_count_0 (by decide) ?_
  refine lv_istore_n (lv' := [(2, .int (0 : Int32)), (0, .ref aM), (1, .int x1)]) hx hb dX3_count_1 rfl hl (by decide) rfl (fun ls hl => ?_)
  refine lv_iconst (v := 0) hx hb dX3_count_2 (by decide) ?_
  refine lv_istore_n (lv' := [(3, .int (0 : Int32)), (2, .int (0 : Int32)), (0, .ref aM), (1, .int x1)]) hx hb dX3_count_3 rfl hl (by decide) rfl (fun ls hl => ?_)
  exact B4 _ _ _ h H locs ls hP hD hS (lv_sub hl [2, 3, 1, 0] rfl)
set_option maxHeartbeats 4000000 in
set_option maxRecDepth 100000 in
theorem c_X3_count {l : Launch} {dC : Nat → ClassId} {dI : Nat → Nat → Nat} {cI cJ cZ : ClassId} {aM aMM aML aMY aMT aMR aMB aMN : Nat} {mk : Int32} {mp : Int32} {fMM : (Nat → Int32)} {fMB : (Nat → Int32)} {fMN : (Nat → Int32)} {x1 : Int32} {post : Int32 → Prop} (h : wp_X3_count x1 mk mp fMM fMB fMN post) : ∀ sz, Met l yX3_count wsX3_count rm_X3_count (mP (dC, dI) (mTy cI cJ cZ) [.ref aM, .int x1] [oM aM aMM aML aMY aMT aMR aMB aMN mk mp, aI aMM cZ 36 fMM, aI aMB cI 60 fMB, aI aMN cI 60 fMN] sz) (va_Qi (fun (r : Int32) (u : Unit) => post r ) (mB (dC, dI) (va_A [oM aM aMM aML aMY aMT aMR aMB aMN mk mp, aI aMM cZ 36 fMM, aI aMB cI 60 fMB, aI aMN cI 60 fMN] sz) (fun u => [oM aM aMM aML aMY aMT aMR aMB aMN mk mp, aI aMM cZ 36 fMM, aI aMB cI 60 fMB, aI aMN cI 60 fMN])) (va_A [oM aM aMM aML aMY aMT aMR aMB aMN mk mp, aI aMM cZ 36 fMM, aI aMB cI 60 fMB, aI aMN cI 60 fMN] sz)) 0 0 (va_A [oM aM aMM aML aMY aMT aMR aMB aMN mk mp, aI aMM cZ 36 fMM, aI aMB cI 60 fMB, aI aMN cI 60 fMN] sz) := by
  intro sz
  refine Met.ofW (cc := cX3_count) (maxL := 4) (ret := (some .int)) (by decide) rfl ?_
  intro p e s m args below meth c s₁ B hml hv
  obtain ⟨rfl, hsz, hP, hK, hD0⟩ := hv
  have hlocks := B.notSynchronized
  subst hsz
  have hD := hD0.self (sz := s.heap.size)
  have hl := lv_entry ([.ref aM, .int x1]) (n := 4) (Nat.le_of_ble_eq_true rfl)
  rw [lg_entry_eq]
  exact k_X3_count B.exec B.bytes hml (findClass_of_methodNamed B.named) (atoms_spec (ws := wsX3_count) B.pre) hK (fun q hq => Or.inr hq) (fun r H locs ls pc hd hp hP hD hS => W.iret B.exec B.bytes B.returns (fun t ht hW => ⟨⟨r, (), rfl, hp, by rw [ht]; exact hP, hD⟩, hS.F ht⟩) hS.2.2 hd) h s.heap [] _ hP hD va_S.rf hl
