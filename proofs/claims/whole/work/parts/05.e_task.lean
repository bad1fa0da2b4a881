def wp_J7_fill_53178_b5 (x1 : Int32) (x2 : Int32) (x3 : Int32) (nA : Nat) (fA : (Nat → Int32)) (post : (Nat → Int32) → Prop)  : Prop := ∀ P5 : Int32 → (Nat → Int32) → Prop, (∀ (x2 : Int32) (fA : (Nat → Int32)), ((x3 ≤ x2 → post fA) ∧ (¬ x3 ≤ x2 → (vp_in x2 nA ∧ (∀ fA_13 : (Nat → Int32), fA_13 = upd fA x2.toNatClampNeg x1 → (∀ v14 : Int32, v14 = x2 + (1 : Int32) → P5 v14 fA_13))))) → P5 x2 fA) → P5 x2 fA
def wp_J7_fill_53178 (x1 : Int32) (nA : Nat) (fA : (Nat → Int32)) (post : (Nat → Int32) → Prop) : Prop := (∀ v4 : Int32, v4 = (Int32.ofNat nA) → wp_J7_fill_53178_b5 x1 (0 : Int32) v4 nA fA post)
abbrev rm_J7_fill_53178 : Room := { frames := 0, cells := 0, slots := 0, locals := 0 }
theorem hv_J7_fill_53178 : yJ7_fill_53178.cls ≠ "java/lang/invoke/MethodHandle" ∧ yJ7_fill_53178.cls ≠ "java/lang/invoke/VarHandle" ∧ (parseMethodDescriptor yJ7_fill_53178.desc).map (fun d => d.parameters.length) = some 2 := by decide +kernel
set_option maxHeartbeats 4000000 in
set_option maxRecDepth 100000 in
theorem k_J7_fill_53178 {p : Program} {l : Launch} {e : Env} {s : State} {m : MethodId} {args : Array Value} {below : List Frame} {meth : Method} {c : Code} {Q : State → Prop} {A : Nat → Prop} {dC : Nat → ClassId} {dI : Nat → Nat → Nat} {cI cJ cZ : ClassId} (hx : p.tables.exec = Jvm.exec) (hb : c.code = cJ7_fill_53178) (hml : c.maxLocals = 4) (hown : s.vm.findClass RJ7 = some m.cls) (hts : ∀ w ∈ wsJ7_fill_53178, w.before args s = true) (hK : va_K (dC, dI) vwCl (mTy cI cJ cZ) s) (hA : ∀ q, s.heap.size ≤ q → A q) {aA : Nat} {nA : Nat} {fA : (Nat → Int32)} {x1 : Int32} {post : (Nat → Int32) → Prop} (ret : ∀ (fA' : (Nat → Int32)) (H : Heap) (locs : List Loc) (ls : Array Slot) (pc : Nat), decode cJ7_fill_53178 pc = .ok (.return_, 1) → post fA' → va_P (dC, dI) vwCl [aI aA cI nA fA'] H → va_D A [aI aA cI nA fA'] → va_S A s.heap H locs → W p l e rm_J7_fill_53178 s m args below meth c H locs 0 0 Q (F0 m pc ls [])) (h : wp_J7_fill_53178 x1 nA fA post) : mW p l e rm_J7_fill_53178 s m args below meth c 0 0 Q A (dC, dI) 4 [aI aA cI nA fA] [(0, .ref aA), (1, .int x1)] 0 [] := by
  have B5 : ∀ (x1 : Int32) (x2 : Int32) (x3 : Int32) (fA : (Nat → Int32)), wp_J7_fill_53178_b5 x1 x2 x3 nA fA post → mW p l e rm_J7_fill_53178 s m args below meth c 0 0 Q A (dC, dI) 4 [aI aA cI nA fA] [(0, .ref aA), (1, .int x1), (2, .int x2), (3, .int x3)] 5 [] := by
    intro x1 x2 x3 fA h
    unfold wp_J7_fill_53178_b5 at h
    refine h (fun (x2 : Int32) (fA : (Nat → Int32)) => mW p l e rm_J7_fill_53178 s m args below meth c 0 0 Q A (dC, dI) 4 [aI aA cI nA fA] [(0, .ref aA), (1, .int x1), (2, .int x2), (3, .int x3)] 5 []) ?_
    intro x2 fA h
    intro H locs ls hP hD hS hl
    refine lv_iload_n hx hb dJ7_fill_53178_5 rfl (lv_at hl 2 rfl) ?_
    refine lv_iload_n hx hb dJ7_fill_53178_6 rfl (lv_at hl 3 rfl) ?_
    refine lv_icmp_ge (tgt := 20) hx hb dJ7_fill_53178_7 (by decide) (fun q7 => ?_) (fun q7 => ?_)
    · have h := h.1 q7
      exact ret _ H locs ls _ dJ7_fill_53178_20 h hP hD hS
    · have h := h.2 q7
      refine lv_aload_n hx hb dJ7_fill_53178_10 rfl (lv_at hl 0 rfl) ?_
      refine lv_iload_n hx hb dJ7_fill_53178_11 rfl (lv_at hl 2 rfl) ?_
      refine lv_iload_n hx hb dJ7_fill_53178_12 rfl (lv_at hl 1 rfl) ?_
      refine va_iast (D := (dC, dI)) hx hb hK hP hD hS 0 0 rfl rfl h.1 dJ7_fill_53178_13 (fun H locs hP hD hS => ?_)
      obtain ⟨fA_13, efA_13⟩ : ∃ y, y = upd fA x2.toNatClampNeg x1 := ⟨_, rfl⟩
      have h := h.2 fA_13 efA_13
      have hP : va_P (dC, dI) vwCl [aI aA cI nA fA_13] H := by rw [efA_13]; exact hP
      have hD : va_D A [aI aA cI nA fA_13] := by rw [efA_13]; exact hD
      obtain ⟨v14, ev14⟩ : ∃ y : Int32, y = x2 + (1 : Int32) := ⟨_, rfl⟩
      have h := h v14 ev14
      refine lv_iinc (v := v14) (lv' := [(2, .int v14), (0, .ref aA), (1, .int x1), (3, .int x3)]) hx hb dJ7_fill_53178_14 hl (k := 2) rfl (by rw [ev14]; rfl) (by decide) rfl (fun ls hl => ?_)
      refine lv_goto (tgt := 5) hx hb dJ7_fill_53178_17 (by decide) ?_
      exact h H locs ls hP hD hS (lv_sub hl [1, 2, 0, 3] rfl)
  unfold wp_J7_fill_53178 at h
  intro H locs ls hP hD hS hl
  refine lv_iconst (v := 0) hx hb dJ7_fill_53178_0 (by decide) ?_
  refine lv_istore_n (lv' := [(2, .int (0 : Int32)), (0, .ref aA), (1, .int x1)]) hx hb dJ7_fill_53178_1 rfl hl (by decide) rfl (fun ls hl => ?_)
  refine lv_aload_n hx hb dJ7_fill_53178_2 rfl (lv_at hl 1 rfl) ?_
  refine va_alen (D := (dC, dI)) (v := (Int32.ofNat nA)) hx hb hK hP 0 0 rfl rfl rfl dJ7_fill_53178_3 ?_
  refine lv_topi (fun v4 ev4 => ?_)
  have h := h v4 ev4
  refine lv_istore_n (lv' := [(3, .int v4), (2, .int (0 : Int32)), (0, .ref aA), (1, .int x1)]) hx hb dJ7_fill_53178_4 rfl hl (by decide) rfl (fun ls hl => ?_)
  exact B5 _ _ _ _ h H locs ls hP hD hS (lv_sub hl [2, 3, 1, 0] rfl)
set_option maxHeartbeats 4000000 in
set_option maxRecDepth 100000 in
theorem c_J7_fill_53178 {l : Launch} {dC : Nat → ClassId} {dI : Nat → Nat → Nat} {cI cJ cZ : ClassId} {aA : Nat} {nA : Nat} {fA : (Nat → Int32)} {x1 : Int32} {post : (Nat → Int32) → Prop} (h : wp_J7_fill_53178 x1 nA fA post) : ∀ sz, Met l yJ7_fill_53178 wsJ7_fill_53178 rm_J7_fill_53178 (mP (dC, dI) (mTy cI cJ cZ) [.ref aA, .int x1] [aI aA cI nA fA] sz) (va_Qv (fun (u : (Nat → Int32)) => post u) (mB (dC, dI) (va_A [aI aA cI nA fA] sz) (fun u => [aI aA cI nA u])) (va_A [aI aA cI nA fA] sz)) 0 0 (va_A [aI aA cI nA fA] sz) := by
  intro sz
  refine Met.ofW (cc := cJ7_fill_53178) (maxL := 4) (ret := none) (by decide) rfl ?_
  intro p e s m args below meth c s₁ B hml hv
  obtain ⟨rfl, hsz, hP, hK, hD0⟩ := hv
  have hlocks := B.notSynchronized
  subst hsz
  have hD := hD0.self (sz := s.heap.size)
  have hl := lv_entry ([.ref aA, .int x1]) (n := 4) (Nat.le_of_ble_eq_true rfl)
  rw [lg_entry_eq]
  exact k_J7_fill_53178 B.exec B.bytes hml (findClass_of_methodNamed B.named) (atoms_spec (ws := wsJ7_fill_53178) B.pre) hK (fun q hq => Or.inr hq) (fun fA' H locs ls pc hd hp hP hD hS => W.vret B.exec B.bytes B.returns (fun t ht hW => ⟨⟨fA', rfl, hp, by rw [ht]; exact hP, hD⟩, hS.F ht⟩) hS.2.2 hd) h s.heap [] _ hP hD va_S.rf hl

def wp_X1_has (x1 : Int32) (tk : Int32) (post : Int32 → Prop) : Prop := ((x1 < (0 : Int32) → post (0 : Int32)) ∧ (¬ x1 < (0 : Int32) → ((tk ≤ x1 → post (0 : Int32)) ∧ (¬ tk ≤ x1 → post (1 : Int32)))))
abbrev rm_X1_has : Room := { frames := 0, cells := 0, slots := 0, locals := 0 }
theorem hv_X1_has : yX1_has.cls = RX1 ∧ yX1_has.cls ≠ "java/lang/invoke/MethodHandle" ∧ yX1_has.cls ≠ "java/lang/invoke/VarHandle" ∧ (parseMethodDescriptor yX1_has.desc).map (fun d => d.parameters.length) = some 1 := by decide +kernel
set_option maxHeartbeats 4000000 in
set_option maxRecDepth 100000 in
theorem k_X1_has {p : Program} {l : Launch} {e : Env} {s : State} {m : MethodId} {args : Array Value} {below : List Frame} {meth : Method} {c : Code} {Q : State → Prop} {A : Nat → Prop} {dC : Nat → ClassId} {dI : Nat → Nat → Nat} {cI cJ cZ : ClassId} (hx : p.tables.exec = Jvm.exec) (hb : c.code = cX1_has) (hml : c.maxLocals = 2) (hown : s.vm.findClass RX1 = some m.cls) (hts : ∀ w ∈ wsX1_has, w.before args s = true) (hK : va_K (dC, dI) vwCl (mTy cI cJ cZ) s) (hA : ∀ q, s.heap.size ≤ q → A q) {aT aB aWK aRE aY aZ : Nat} {tk : Int32} {x1 : Int32} {post : Int32 → Prop} (ret : ∀ (r : Int32) (H : Heap) (locs : List Loc) (ls : Array Slot) (pc : Nat), decode cX1_has pc = .ok (.ireturn, 1) → (r = 0 ∨ r = 1) → post r → va_P (dC, dI) vwCl [oT aT aB aWK aRE aY aZ tk] H → va_D A [oT aT aB aWK aRE aY aZ tk] → va_S A s.heap H locs → W p l e rm_X1_has s m args below meth c H locs 0 0 Q (F0 m pc ls [.int r])) (h : wp_X1_has x1 tk post) : mW p l e rm_X1_has s m args below meth c 0 0 Q A (dC, dI) 2 [oT aT aB aWK aRE aY aZ tk] [(0, .ref aT), (1, .int x1)] 0 [] := by
  have in_X1 : ∀ w ∈ wsX10, w ∈ wsX1_has := fun w hw => List.mem_cons_of_mem _ (List.mem_append_right _ hw)
  have k_38 := hts (.fieldLink RX1 38 "RingTasks$Task" "size" "I") (List.mem_of_getElem? (i := 1) rfl)
  unfold wp_X1_has at h
  intro H locs ls hP hD hS hl
  refine lv_iload_n hx hb dX1_has_0 rfl (lv_at hl 1 rfl) ?_
  refine lv_if_lt (tgt := 16) hx hb dX1_has_1 (by decide) (fun q1 => ?_) (fun q1 => ?_)
  · have h := h.1 q1
    refine lv_iconst (v := 0) hx hb dX1_has_16 (by decide) ?_
    exact ret _  H locs ls _ dX1_has_17 (Or.inl rfl) h hP hD hS
  · have h := h.2 q1
    refine lv_iload_n hx hb dX1_has_4 rfl (lv_at hl 1 rfl) ?_
    refine lv_aload_n hx hb dX1_has_5 rfl (lv_at hl 0 rfl) ?_
    refine va_get (D := (dC, dI)) (ci := 1) (v := .int tk) (C := RX1) (T := TX1) (N := 6) hx hb hts in_X1 hown hK hP 0 rfl rfl 0 (by decide) k_38 (fun _ h9 => h9) rfl dX1_has_6 ?_
    refine lv_icmp_ge (tgt := 16) hx hb dX1_has_9 (by decide) (fun q9 => ?_) (fun q9 => ?_)
    · have h := h.1 q9
      refine lv_iconst (v := 0) hx hb dX1_has_16 (by decide) ?_
      exact ret _  H locs ls _ dX1_has_17 (Or.inl rfl) h hP hD hS
    · have h := h.2 q9
      refine lv_iconst (v := 1) hx hb dX1_has_12 (by decide) ?_
      refine lv_goto (tgt := 17) hx hb dX1_has_13 (by decide) ?_
      exact ret _  H locs ls _ dX1_has_17 (Or.inr rfl) h hP hD hS
set_option maxHeartbeats 4000000 in
set_option maxRecDepth 100000 in
theorem c_X1_has {l : Launch} {dC : Nat → ClassId} {dI : Nat → Nat → Nat} {cI cJ cZ : ClassId} {aT aB aWK aRE aY aZ : Nat} {tk : Int32} {x1 : Int32} {post : Int32 → Prop} (h : wp_X1_has x1 tk post) : ∀ sz, Met l yX1_has wsX1_has rm_X1_has (mP (dC, dI) (mTy cI cJ cZ) [.ref aT, .int x1] [oT aT aB aWK aRE aY aZ tk] sz) (va_Qi (fun (r : Int32) (u : Unit) => post r ) (mB (dC, dI) (va_A [oT aT aB aWK aRE aY aZ tk] sz) (fun u => [oT aT aB aWK aRE aY aZ tk])) (va_A [oT aT aB aWK aRE aY aZ tk] sz)) 0 0 (va_A [oT aT aB aWK aRE aY aZ tk] sz) := by
  intro sz
  refine Met.ofW (cc := cX1_has) (maxL := 2) (ret := (some .boolean)) (by decide) rfl ?_
  intro p e s m args below meth c s₁ B hml hv
  obtain ⟨rfl, hsz, hP, hK, hD0⟩ := hv
  have hlocks := B.notSynchronized
  subst hsz
  have hD := hD0.self (sz := s.heap.size)
  have hl := lv_entry ([.ref aT, .int x1]) (n := 2) (Nat.le_of_ble_eq_true rfl)
  rw [lg_entry_eq]
  exact k_X1_has B.exec B.bytes hml (findClass_of_methodNamed B.named) (atoms_spec (ws := wsX1_has) B.pre) hK (fun q hq => Or.inr hq) (fun r H locs ls pc hd hz hp hP hD hS => W.zret B.exec B.bytes B.returns (m_bz hz) (fun t ht hW => ⟨⟨r, (), rfl, hp, by rw [ht]; exact hP, hD⟩, hS.F ht⟩) hS.2.2 hd) h s.heap [] _ hP hD va_S.rf hl

def wp_X1_holds (x0 : Int32) (x1 : Int32)  (post : Int32 → Prop) : Prop := ((¬ ((x0 >>> (x1 &&& 31)) &&& (1 : Int32)) = (1 : Int32) → post (0 : Int32)) ∧ (((x0 >>> (x1 &&& 31)) &&& (1 : Int32)) = (1 : Int32) → post (1 : Int32)))
abbrev rm_X1_holds : Room := { frames := 0, cells := 0, slots := 0, locals := 0 }
theorem hv_X1_holds : yX1_holds.cls ≠ "java/lang/invoke/MethodHandle" ∧ yX1_holds.cls ≠ "java/lang/invoke/VarHandle" ∧ (parseMethodDescriptor yX1_holds.desc).map (fun d => d.parameters.length) = some 2 := by decide +kernel
set_option maxHeartbeats 4000000 in
set_option maxRecDepth 100000 in
theorem k_X1_holds {p : Program} {l : Launch} {e : Env} {s : State} {m : MethodId} {args : Array Value} {below : List Frame} {meth : Method} {c : Code} {Q : State → Prop} {A : Nat → Prop} {dC : Nat → ClassId} {dI : Nat → Nat → Nat} {cI cJ cZ : ClassId} (hx : p.tables.exec = Jvm.exec) (hb : c.code = cX1_holds) (hml : c.maxLocals = 2) (hown : s.vm.findClass RX1 = some m.cls) (hts : ∀ w ∈ wsX1_holds, w.before args s = true) (hK : va_K (dC, dI) vwCl (mTy cI cJ cZ) s) (hA : ∀ q, s.heap.size ≤ q → A q)  {x0 : Int32} {x1 : Int32} {post : Int32 → Prop} (ret : ∀ (r : Int32) (H : Heap) (locs : List Loc) (ls : Array Slot) (pc : Nat), decode cX1_holds pc = .ok (.ireturn, 1) → (r = 0 ∨ r = 1) → post r → va_P (dC, dI) vwCl [] H → va_D A [] → va_S A s.heap H locs → W p l e rm_X1_holds s m args below meth c H locs 0 0 Q (F0 m pc ls [.int r])) (h : wp_X1_holds x0 x1  post) : mW p l e rm_X1_holds s m args below meth c 0 0 Q A (dC, dI) 2 [] [(0, .int x0), (1, .int x1)] 0 [] := by
  unfold wp_X1_holds at h
  intro H locs ls hP hD hS hl
  refine lv_iload_n hx hb dX1_holds_0 rfl (lv_at hl 0 rfl) ?_
  refine lv_iload_n hx hb dX1_holds_1 rfl (lv_at hl 1 rfl) ?_
  refine lv_ishr hx hb dX1_holds_2 ?_
  refine lv_iconst (v := 1) hx hb dX1_holds_3 (by decide) ?_
  refine lv_iand hx hb dX1_holds_4 ?_
  refine lv_iconst (v := 1) hx hb dX1_holds_5 (by decide) ?_
  refine lv_icmp_ne (tgt := 13) hx hb dX1_holds_6 (by decide) (fun q6 => ?_) (fun q6 => ?_)
  · have h := h.1 q6
    refine lv_iconst (v := 0) hx hb dX1_holds_13 (by decide) ?_
    exact ret _  H locs ls _ dX1_holds_14 (Or.inl rfl) h hP hD hS
  · have h := h.2 q6
    refine lv_iconst (v := 1) hx hb dX1_holds_9 (by decide) ?_
    refine lv_goto (tgt := 14) hx hb dX1_holds_10 (by decide) ?_
    exact ret _  H locs ls _ dX1_holds_14 (Or.inr rfl) h hP hD hS
set_option maxHeartbeats 4000000 in
set_option maxRecDepth 100000 in
theorem c_X1_holds {l : Launch} {dC : Nat → ClassId} {dI : Nat → Nat → Nat} {cI cJ cZ : ClassId}  {x0 : Int32} {x1 : Int32} {post : Int32 → Prop} (h : wp_X1_holds x0 x1  post) : ∀ sz, Met l yX1_holds wsX1_holds rm_X1_holds (mP (dC, dI) (mTy cI cJ cZ) [.int x0, .int x1] [] sz) (va_Qi (fun (r : Int32) (u : Unit) => post r ) (mB (dC, dI) (va_A [] sz) (fun u => [])) (va_A [] sz)) 0 0 (va_A [] sz) := by
  intro sz
  refine Met.ofW (cc := cX1_holds) (maxL := 2) (ret := (some .boolean)) (by decide) rfl ?_
  intro p e s m args below meth c s₁ B hml hv
  obtain ⟨rfl, hsz, hP, hK, hD0⟩ := hv
  have hlocks := B.notSynchronized
  subst hsz
  have hD := hD0.self (sz := s.heap.size)
  have hl := lv_entry ([.int x0, .int x1]) (n := 2) (Nat.le_of_ble_eq_true rfl)
  rw [lg_entry_eq]
  exact k_X1_holds B.exec B.bytes hml (findClass_of_methodNamed B.named) (atoms_spec (ws := wsX1_holds) B.pre) hK (fun q hq => Or.inr hq) (fun r H locs ls pc hd hz hp hP hD hS => W.zret B.exec B.bytes B.returns (m_bz hz) (fun t ht hW => ⟨⟨r, (), rfl, hp, by rw [ht]; exact hP, hD⟩, hS.F ht⟩) hS.2.2 hd) h s.heap [] _ hP hD va_S.rf hl

def wp_X1_mayFollow (x1 : Int32) (x2 : Int32) (tk : Int32) (fB : (Nat → Int32)) (post : Int32 → Prop) : Prop := wp_X1_has x1 tk (fun (r2 : Int32) => ((r2 = (0 : Int32) → post (0 : Int32)) ∧ (¬ r2 = (0 : Int32) → wp_X1_has x2 tk (fun (r10 : Int32) => ((r10 = (0 : Int32) → post (0 : Int32)) ∧ (¬ r10 = (0 : Int32) → (vp_in x1 6 ∧ wp_X1_holds (fB x1.toNatClampNeg) x2 (fun (r23 : Int32) => ((r23 = (0 : Int32) → post (0 : Int32)) ∧ (¬ r23 = (0 : Int32) → post (1 : Int32)))))))))))
abbrev rm_X1_mayFollow : Room := { frames := 1, cells := 0, slots := 0, locals := 21 }
theorem hv_X1_mayFollow : yX1_mayFollow.cls = RX1 ∧ yX1_mayFollow.cls ≠ "java/lang/invoke/MethodHandle" ∧ yX1_mayFollow.cls ≠ "java/lang/invoke/VarHandle" ∧ (parseMethodDescriptor yX1_mayFollow.desc).map (fun d => d.parameters.length) = some 2 := by decide +kernel
set_option maxHeartbeats 4000000 in
set_option maxRecDepth 100000 in
theorem k_X1_mayFollow {p : Program} {l : Launch} {e : Env} {s : State} {m : MethodId} {args : Array Value} {below : List Frame} {meth : Method} {c : Code} {Q : State → Prop} {A : Nat → Prop} {dC : Nat → ClassId} {dI : Nat → Nat → Nat} {cI cJ cZ : ClassId} (hx : p.tables.exec = Jvm.exec) (hb : c.code = cX1_mayFollow) (hml : c.maxLocals = 3) (hown : s.vm.findClass RX1 = some m.cls) (hts : ∀ w ∈ wsX1_mayFollow, w.before args s = true) (hK : va_K (dC, dI) vwCl (mTy cI cJ cZ) s) (hA : ∀ q, s.heap.size ≤ q → A q) {aT aB aWK aRE aY aZ : Nat} {tk : Int32} {fB : (Nat → Int32)} {x1 : Int32} {x2 : Int32} {post : Int32 → Prop} (ret : ∀ (r : Int32) (H : Heap) (locs : List Loc) (ls : Array Slot) (pc : Nat), decode cX1_mayFollow pc = .ok (.ireturn, 1) → (r = 0 ∨ r = 1) → post r → va_P (dC, dI) vwCl [oT aT aB aWK aRE aY aZ tk, aI aB cI 6 fB] H → va_D A [oT aT aB aWK aRE aY aZ tk, aI aB cI 6 fB] → va_S A s.heap H locs → W p l e rm_X1_mayFollow s m args below meth c H locs 0 0 Q (F0 m pc ls [.int r])) (h : wp_X1_mayFollow x1 x2 tk fB post) : mW p l e rm_X1_mayFollow s m args below meth c 0 0 Q A (dC, dI) 3 [oT aT aB aWK aRE aY aZ tk, aI aB cI 6 fB] [(0, .ref aT), (1, .int x1), (2, .int x2)] 0 [] := by
  have in_X1 : ∀ w ∈ wsX10, w ∈ wsX1_mayFollow := fun w hw => List.mem_cons_of_mem _ (List.mem_append_right _ hw)
  have k_9 := hts (.fieldLink RX1 9 "RingTasks$Task" "behind" "[I") (List.mem_of_getElem? (i := 1) rfl)
  unfold wp_X1_mayFollow at h
  intro H locs ls hP hD hS hl
  refine lv_aload_n hx hb dX1_mayFollow_0 rfl (lv_at hl 0 rfl) ?_
  refine lv_iload_n hx hb dX1_mayFollow_1 rfl (lv_at hl 1 rfl) ?_
  refine mVi (wr := [aI aB cI 6 fB]) (As := [.int x1]) (rest := []) ⟨hx, hb, hml, hown, hts⟩ (c_X1_has (l := l) (dC := dC) (dI := dI) (cI := cI) (cJ := cJ) (cZ := cZ) (aT := aT) (aB := aB) (aWK := aWK) (aRE := aRE) (aY := aY) (aZ := aZ) h) (cwV 1 hts gX1_mayFollow_X1_has rfl rfl rfl hv_X1_has ⟨Nat.le_of_ble_eq_true rfl, Nat.le_of_ble_eq_true rfl⟩) hK hP hD hS hA [0] [1] rfl rfl rfl rfl (by decide) 1 rfl rfl rfl rfl hl.1 rfl (Nat.le_of_ble_eq_true rfl) ⟨Nat.zero_le _, Nat.zero_le _⟩ dX1_mayFollow_2 (fun r2 u2 H locs h hP hD hS => ?_)
  have hP : va_P (dC, dI) vwCl [oT aT aB aWK aRE aY aZ tk, aI aB cI 6 fB] H := hP.sub [1, 0] rfl
  have hD : va_D A [oT aT aB aWK aRE aY aZ tk, aI aB cI 6 fB] := hD.sub [1, 0] rfl rfl
  refine lv_if_eq (tgt := 33) hx hb dX1_mayFollow_5 (by decide) (fun q5 => ?_) (fun q5 => ?_)
  · have h := h.1 q5
    refine lv_iconst (v := 0) hx hb dX1_mayFollow_33 (by decide) ?_
    exact ret _  H locs ls _ dX1_mayFollow_34 (Or.inl rfl) h hP hD hS
  · have h := h.2 q5
    refine lv_aload_n hx hb dX1_mayFollow_8 rfl (lv_at hl 0 rfl) ?_
    refine lv_iload_n hx hb dX1_mayFollow_9 rfl (lv_at hl 2 rfl) ?_
    refine mVi (wr := [aI aB cI 6 fB]) (As := [.int x2]) (rest := []) ⟨hx, hb, hml, hown, hts⟩ (c_X1_has (l := l) (dC := dC) (dI := dI) (cI := cI) (cJ := cJ) (cZ := cZ) (aT := aT) (aB := aB) (aWK := aWK) (aRE := aRE) (aY := aY) (aZ := aZ) h) (cwV 1 hts gX1_mayFollow_X1_has rfl rfl rfl hv_X1_has ⟨Nat.le_of_ble_eq_true rfl, Nat.le_of_ble_eq_true rfl⟩) hK hP hD hS hA [0] [1] rfl rfl rfl rfl (by decide) 1 rfl rfl rfl rfl hl.1 rfl (Nat.le_of_ble_eq_true rfl) ⟨Nat.zero_le _, Nat.zero_le _⟩ dX1_mayFollow_10 (fun r10 u10 H locs h hP hD hS => ?_)
    have hP : va_P (dC, dI) vwCl [oT aT aB aWK aRE aY aZ tk, aI aB cI 6 fB] H := hP.sub [1, 0] rfl
    have hD : va_D A [oT aT aB aWK aRE aY aZ tk, aI aB cI 6 fB] := hD.sub [1, 0] rfl rfl
    refine lv_if_eq (tgt := 33) hx hb dX1_mayFollow_13 (by decide) (fun q13 => ?_) (fun q13 => ?_)
    · have h := h.1 q13
      refine lv_iconst (v := 0) hx hb dX1_mayFollow_33 (by decide) ?_
      exact ret _  H locs ls _ dX1_mayFollow_34 (Or.inl rfl) h hP hD hS
    · have h := h.2 q13
      refine lv_aload_n hx hb dX1_mayFollow_16 rfl (lv_at hl 0 rfl) ?_
      refine va_get (D := (dC, dI)) (ci := 1) (v := .ref aB) (C := RX1) (T := TX1) (N := 6) hx hb hts in_X1 hown hK hP 0 rfl rfl 1 (by decide) k_9 (fun _ h9 => h9) rfl dX1_mayFollow_17 ?_
      refine lv_iload_n hx hb dX1_mayFollow_20 rfl (lv_at hl 1 rfl) ?_
      refine va_iald (D := (dC, dI)) hx hb hK hP 1 0 rfl rfl h.1 dX1_mayFollow_21 ?_
      have h := h.2
      refine lv_iload_n hx hb dX1_mayFollow_22 rfl (lv_at hl 2 rfl) ?_
      refine mSi (wr := [oT aT aB aWK aRE aY aZ tk, aI aB cI 6 fB]) (As := [.int (fB x1.toNatClampNeg), .int x2]) (rest := []) ⟨hx, hb, hml, hown, hts⟩ (c_X1_holds (l := l) (dC := dC) (dI := dI) (cI := cI) (cJ := cJ) (cZ := cZ)  h) (va_cwS 2 hts gX1_mayFollow_X1_holds rfl rfl rfl hv_X1_holds ⟨Nat.le_of_ble_eq_true rfl, Nat.le_of_ble_eq_true rfl⟩) hK hP hD hS hA [] [0, 1] rfl rfl rfl rfl (by decide) rfl hl.1 rfl (Nat.le_of_ble_eq_true rfl) ⟨Nat.zero_le _, Nat.zero_le _⟩ dX1_mayFollow_23 (fun r23 u23 H locs h hP hD hS => ?_)
      have hP : va_P (dC, dI) vwCl [oT aT aB aWK aRE aY aZ tk, aI aB cI 6 fB] H := hP.sub [0, 1] rfl
      have hD : va_D A [oT aT aB aWK aRE aY aZ tk, aI aB cI 6 fB] := hD.sub [0, 1] rfl rfl
      refine lv_if_eq (tgt := 33) hx hb dX1_mayFollow_26 (by decide) (fun q26 => ?_) (fun q26 => ?_)
      · have h := h.1 q26
        refine lv_iconst (v := 0) hx hb dX1_mayFollow_33 (by decide) ?_
        exact ret _  H locs ls _ dX1_mayFollow_34 (Or.inl rfl) h hP hD hS
      · have h := h.2 q26
        refine lv_iconst (v := 1) hx hb dX1_mayFollow_29 (by decide) ?_
        refine lv_goto (tgt := 34) hx hb dX1_mayFollow_30 (by decide) ?_
        exact ret _  H locs ls _ dX1_mayFollow_34 (Or.inr rfl) h hP hD hS
set_option maxHeartbeats 4000000 in
set_option maxRecDepth 100000 in
theorem c_X1_mayFollow {l : Launch} {dC : Nat → ClassId} {dI : Nat → Nat → Nat} {cI cJ cZ : ClassId} {aT aB aWK aRE aY aZ : Nat} {tk : Int32} {fB : (Nat → Int32)} {x1 : Int32} {x2 : Int32} {post : Int32 → Prop} (h : wp_X1_mayFollow x1 x2 tk fB post) : ∀ sz, Met l yX1_mayFollow wsX1_mayFollow rm_X1_mayFollow (mP (dC, dI) (mTy cI cJ cZ) [.ref aT, .int x1, .int x2] [oT aT aB aWK aRE aY aZ tk, aI aB cI 6 fB] sz) (va_Qi (fun (r : Int32) (u : Unit) => post r ) (mB (dC, dI) (va_A [oT aT aB aWK aRE aY aZ tk, aI aB cI 6 fB] sz) (fun u => [oT aT aB aWK aRE aY aZ tk, aI aB cI 6 fB])) (va_A [oT aT aB aWK aRE aY aZ tk, aI aB cI 6 fB] sz)) 0 0 (va_A [oT aT aB aWK aRE aY aZ tk, aI aB cI 6 fB] sz) := by
  intro sz
  refine Met.ofW (cc := cX1_mayFollow) (maxL := 3) (ret := (some .boolean)) (by decide) rfl ?_
  intro p e s m args below meth c s₁ B hml hv
  obtain ⟨rfl, hsz, hP, hK, hD0⟩ := hv
  have hlocks := B.notSynchronized
  subst hsz
  have hD := hD0.self (sz := s.heap.size)
  have hl := lv_entry ([.ref aT, .int x1, .int x2]) (n := 3) (Nat.le_of_ble_eq_true rfl)
  rw [lg_entry_eq]
  exact k_X1_mayFollow B.exec B.bytes hml (findClass_of_methodNamed B.named) (atoms_spec (ws := wsX1_mayFollow) B.pre) hK (fun q hq => Or.inr hq) (fun r H locs ls pc hd hz hp hP hD hS => W.zret B.exec B.bytes B.returns (m_bz hz) (fun t ht hW => ⟨⟨r, (), rfl, hp, by rw [ht]; exact hP, hD⟩, hS.F ht⟩) hS.2.2 hd) h s.heap [] _ hP hD va_S.rf hl

def wp_X1_least_b2 (x0 : Int32) (x1 : Int32)  (post : Int32 → Prop)  : Prop := ∀ P2 : Int32 → Prop, (∀ (x1 : Int32), (((5 : Int32) ≤ x1 → post x1) ∧ (¬ (5 : Int32) ≤ x1 → wp_X1_holds x0 x1 (fun (r9 : Int32) => ((¬ r9 = (0 : Int32) → post x1) ∧ (r9 = (0 : Int32) → (∀ v15 : Int32, v15 = x1 + (1 : Int32) → P2 v15)))))) → P2 x1) → P2 x1
def wp_X1_least (x0 : Int32)  (post : Int32 → Prop) : Prop := wp_X1_least_b2 x0 (0 : Int32) post
abbrev rm_X1_least : Room := { frames := 1, cells := 0, slots := 0, locals := 21 }
theorem hv_X1_least : yX1_least.cls ≠ "java/lang/invoke/MethodHandle" ∧ yX1_least.cls ≠ "java/lang/invoke/VarHandle" ∧ (parseMethodDescriptor yX1_least.desc).map (fun d => d.parameters.length) = some 1 := by decide +kernel
set_option maxHeartbeats 4000000 in
set_option maxRecDepth 100000 in
theorem k_X1_least {p : Program} {l : Launch} {e : Env} {s : State} {m : MethodId} {args : Array Value} {below : List Frame} {meth : Method} {c : Code} {Q : State → Prop} {A : Nat → Prop} {dC : Nat → ClassId} {dI : Nat → Nat → Nat} {cI cJ cZ : ClassId} (hx : p.tables.exec = Jvm.exec) (hb : c.code = cX1_least) (hml : c.maxLocals = 2) (hown : s.vm.findClass RX1 = some m.cls) (hts : ∀ w ∈ wsX1_least, w.before args s = true) (hK : va_K (dC, dI) vwCl (mTy cI cJ cZ) s) (hA : ∀ q, s.heap.size ≤ q → A q)  {x0 : Int32} {post : Int32 → Prop} (ret : ∀ (r : Int32) (H : Heap) (locs : List Loc) (ls : Array Slot) (pc : Nat), decode cX1_least pc = .ok (.ireturn, 1) → post r → va_P (dC, dI) vwCl [] H → va_D A [] → va_S A s.heap H locs → W p l e rm_X1_least s m args below meth c H locs 0 0 Q (F0 m pc ls [.int r])) (h : wp_X1_least x0  post) : mW p l e rm_X1_least s m args below meth c 0 0 Q A (dC, dI) 2 [] [(0, .int x0)] 0 [] := by
  have B2 : ∀ (x0 : Int32) (x1 : Int32), wp_X1_least_b2 x0 x1  post → mW p l e rm_X1_least s m args below meth c 0 0 Q A (dC, dI) 2 [] [(0, .int x0), (1, .int x1)] 2 [] := by
    intro x0 x1 h
    unfold wp_X1_least_b2 at h
    refine h (fun (x1 : Int32) => mW p l e rm_X1_least s m args below meth c 0 0 Q A (dC, dI) 2 [] [(0, .int x0), (1, .int x1)] 2 []) ?_
    intro x1 h
    intro H locs ls hP hD hS hl
    refine lv_iload_n hx hb dX1_least_2 rfl (lv_at hl 1 rfl) ?_
    refine lv_iconst (v := 5) hx hb dX1_least_3 (by decide) ?_
    refine lv_icmp_ge (tgt := 21) hx hb dX1_least_4 (by decide) (fun q4 => ?_) (fun q4 => ?_)
    · have h := h.1 q4
      refine lv_iload_n hx hb dX1_least_21 rfl (lv_at hl 1 rfl) ?_
      exact ret _  H locs ls _ dX1_least_22 h hP hD hS
    · have h := h.2 q4
      refine lv_iload_n hx hb dX1_least_7 rfl (lv_at hl 0 rfl) ?_
      refine lv_iload_n hx hb dX1_least_8 rfl (lv_at hl 1 rfl) ?_
      refine mSi (wr := []) (As := [.int x0, .int x1]) (rest := []) ⟨hx, hb, hml, hown, hts⟩ (c_X1_holds (l := l) (dC := dC) (dI := dI) (cI := cI) (cJ := cJ) (cZ := cZ)  h) (va_cwS 2 hts gX1_least_X1_holds rfl rfl rfl hv_X1_holds ⟨Nat.le_of_ble_eq_true rfl, Nat.le_of_ble_eq_true rfl⟩) hK hP hD hS hA [] [] rfl rfl rfl rfl (by decide) rfl hl.1 rfl (Nat.le_of_ble_eq_true rfl) ⟨Nat.zero_le _, Nat.zero_le _⟩ dX1_least_9 (fun r9 u9 H locs h hP hD hS => ?_)
      have hP : va_P (dC, dI) vwCl [] H := hP.sub [] rfl
      have hD : va_D A [] := hD.sub [] rfl rfl
      refine lv_if_ne (tgt := 21) hx hb dX1_least_12 (by decide) (fun q12 => ?_) (fun q12 => ?_)
      · have h := h.1 q12
        refine lv_iload_n hx hb dX1_least_21 rfl (lv_at hl 1 rfl) ?_
        exact ret _  H locs ls _ dX1_least_22 h hP hD hS
      · have h := h.2 q12
        obtain ⟨v15, ev15⟩ : ∃ y : Int32, y = x1 + (1 : Int32) := ⟨_, rfl⟩
        have h := h v15 ev15
        refine lv_iinc (v := v15) (lv' := [(1, .int v15), (0, .int x0)]) hx hb dX1_least_15 hl (k := 1) rfl (by rw [ev15]; rfl) (by decide) rfl (fun ls hl => ?_)
        refine lv_goto (tgt := 2) hx hb dX1_least_18 (by decide) ?_
        exact h H locs ls hP hD hS (lv_sub hl [1, 0] rfl)
  unfold wp_X1_least at h
  intro H locs ls hP hD hS hl
  refine lv_iconst (v := 0) hx hb dX1_least_0 (by decide) ?_
  refine lv_istore_n (lv' := [(1, .int (0 : Int32)), (0, .int x0)]) hx hb dX1_least_1 rfl hl (by decide) rfl (fun ls hl => ?_)
  exact B2 _ _ h H locs ls hP hD hS (lv_sub hl [1, 0] rfl)
set_option maxHeartbeats 4000000 in
set_option maxRecDepth 100000 in
theorem c_X1_least {l : Launch} {dC : Nat → ClassId} {dI : Nat → Nat → Nat} {cI cJ cZ : ClassId}  {x0 : Int32} {post : Int32 → Prop} (h : wp_X1_least x0  post) : ∀ sz, Met l yX1_least wsX1_least rm_X1_least (mP (dC, dI) (mTy cI cJ cZ) [.int x0] [] sz) (va_Qi (fun (r : Int32) (u : Unit) => post r ) (mB (dC, dI) (va_A [] sz) (fun u => [])) (va_A [] sz)) 0 0 (va_A [] sz) := by
  intro sz
  refine Met.ofW (cc := cX1_least) (maxL := 2) (ret := (some .int)) (by decide) rfl ?_
  intro p e s m args below meth c s₁ B hml hv
  obtain ⟨rfl, hsz, hP, hK, hD0⟩ := hv
  have hlocks := B.notSynchronized
  subst hsz
  have hD := hD0.self (sz := s.heap.size)
  have hl := lv_entry ([.int x0]) (n := 2) (Nat.le_of_ble_eq_true rfl)
  rw [lg_entry_eq]
  exact k_X1_least B.exec B.bytes hml (findClass_of_methodNamed B.named) (atoms_spec (ws := wsX1_least) B.pre) hK (fun q hq => Or.inr hq) (fun r H locs ls pc hd hp hP hD hS => W.iret B.exec B.bytes B.returns (fun t ht hW => ⟨⟨r, (), rfl, hp, by rw [ht]; exact hP, hD⟩, hS.F ht⟩) hS.2.2 hd) h s.heap [] _ hP hD va_S.rf hl

def wp_X1_lookBack_b28 (x2 : Int32) (x3 : Int32) (x4 : Int32) (x5 : Int32) (tk : Int32) (fB : (Nat → Int32)) (fRE : (Nat → Int32)) (post : (Nat → Int32) → Prop) (P11 : Int32 → (Nat → Int32) → Prop) : Prop := ∀ P28 : Int32 → Int32 → Prop, (∀ (x4 : Int32) (x5 : Int32), ((tk ≤ x5 → (vp_in x3 61 ∧ (∀ fRE_78 : (Nat → Int32), fRE_78 = upd fRE x3.toNatClampNeg x4 → (∀ v79 : Int32, v79 = x3 + (1 : Int32) → P11 v79 fRE_78)))) ∧ (¬ tk ≤ x5 → (vp_in x5 6 ∧ (vp_in (x3 - (1 : Int32)) 61 ∧ ((((fB x5.toNatClampNeg) &&& (fRE (x3 - (1 : Int32)).toNatClampNeg)) = (0 : Int32) → (∀ v65 : Int32, v65 = x5 + (1 : Int32) → P28 x4 v65)) ∧ (¬ ((fB x5.toNatClampNeg) &&& (fRE (x3 - (1 : Int32)).toNatClampNeg)) = (0 : Int32) → (∀ v63 : Int32, v63 = (x4 ||| ((1 : Int32) <<< (x5 &&& 31))) → (∀ v65 : Int32, v65 = x5 + (1 : Int32) → P28 v63 v65)))))))) → P28 x4 x5) → P28 x4 x5
def wp_X1_lookBack_b11 (x2 : Int32) (x3 : Int32) (tk : Int32) (fB : (Nat → Int32)) (fRE : (Nat → Int32)) (post : (Nat → Int32) → Prop)  : Prop := ∀ P11 : Int32 → (Nat → Int32) → Prop, (∀ (x3 : Int32) (fRE : (Nat → Int32)), ((x2 < x3 → post fRE) ∧ (¬ x2 < x3 → (((60 : Int32) < x3 → post fRE) ∧ (¬ (60 : Int32) < x3 → wp_X1_lookBack_b28 x2 x3 (0 : Int32) (0 : Int32) tk fB fRE post P11)))) → P11 x3 fRE) → P11 x3 fRE
def wp_X1_lookBack (x1 : Int32) (x2 : Int32) (tk : Int32) (fB : (Nat → Int32)) (fRE : (Nat → Int32)) (post : (Nat → Int32) → Prop) : Prop := (vp_in (0 : Int32) 61 ∧ (∀ fRE_8 : (Nat → Int32), fRE_8 = upd fRE (0 : Int32).toNatClampNeg ((1 : Int32) <<< (x1 &&& 31)) → wp_X1_lookBack_b11 x2 (1 : Int32) tk fB fRE_8 post))
abbrev rm_X1_lookBack : Room := { frames := 0, cells := 0, slots := 0, locals := 0 }
theorem hv_X1_lookBack : yX1_lookBack.cls = RX1 ∧ yX1_lookBack.cls ≠ "java/lang/invoke/MethodHandle" ∧ yX1_lookBack.cls ≠ "java/lang/invoke/VarHandle" ∧ (parseMethodDescriptor yX1_lookBack.desc).map (fun d => d.parameters.length) = some 2 := by decide +kernel
set_option maxHeartbeats 4000000 in
set_option maxRecDepth 100000 in
theorem k_X1_lookBack {p : Program} {l : Launch} {e : Env} {s : State} {m : MethodId} {args : Array Value} {below : List Frame} {meth : Method} {c : Code} {Q : State → Prop} {A : Nat → Prop} {dC : Nat → ClassId} {dI : Nat → Nat → Nat} {cI cJ cZ : ClassId} (hx : p.tables.exec = Jvm.exec) (hb : c.code = cX1_lookBack) (hml : c.maxLocals = 6) (hown : s.vm.findClass RX1 = some m.cls) (hts : ∀ w ∈ wsX1_lookBack, w.before args s = true) (hK : va_K (dC, dI) vwCl (mTy cI cJ cZ) s) (hA : ∀ q, s.heap.size ≤ q → A q) {aT aB aWK aRE aY aZ : Nat} {tk : Int32} {fB : (Nat → Int32)} {fRE : (Nat → Int32)} {x1 : Int32} {x2 : Int32} {post : (Nat → Int32) → Prop} (ret : ∀ (fRE' : (Nat → Int32)) (H : Heap) (locs : List Loc) (ls : Array Slot) (pc : Nat), decode cX1_lookBack pc = .ok (.return_, 1) → post fRE' → va_P (dC, dI) vwCl [oT aT aB aWK aRE aY aZ tk, aI aB cI 6 fB, aI aRE cI 61 fRE'] H → va_D A [oT aT aB aWK aRE aY aZ tk, aI aB cI 6 fB, aI aRE cI 61 fRE'] → va_S A s.heap H locs → W p l e rm_X1_lookBack s m args below meth c H locs 0 0 Q (F0 m pc ls [])) (h : wp_X1_lookBack x1 x2 tk fB fRE post) : mW p l e rm_X1_lookBack s m args below meth c 0 0 Q A (dC, dI) 6 [oT aT aB aWK aRE aY aZ tk, aI aB cI 6 fB, aI aRE cI 61 fRE] [(0, .ref aT), (1, .int x1), (2, .int x2)] 0 [] := by
  have in_X1 : ∀ w ∈ wsX10, w ∈ wsX1_lookBack := fun w hw => List.mem_cons_of_mem _ (List.mem_append_right _ hw)
  have k_18 := hts (.fieldLink RX1 18 "RingTasks$Task" "reaching" "[I") (List.mem_of_getElem? (i := 1) rfl)
  have k_38 := hts (.fieldLink RX1 38 "RingTasks$Task" "size" "I") (List.mem_of_getElem? (i := 2) rfl)
  have k_9 := hts (.fieldLink RX1 9 "RingTasks$Task" "behind" "[I") (List.mem_of_getElem? (i := 3) rfl)
  have B28 : ∀ (x2 : Int32) (x3 : Int32) (x4 : Int32) (x5 : Int32) (fRE : (Nat → Int32)), ∀ (P11 : Int32 → (Nat → Int32) → Prop) (hP11 : ∀ (x3 : Int32) (fRE : (Nat → Int32)), P11 x3 fRE → mW p l e rm_X1_lookBack s m args below meth c 0 0 Q A (dC, dI) 6 [oT aT aB aWK aRE aY aZ tk, aI aB cI 6 fB, aI aRE cI 61 fRE] [(0, .ref aT), (2, .int x2), (3, .int x3)] 11 []), wp_X1_lookBack_b28 x2 x3 x4 x5 tk fB fRE post P11 → mW p l e rm_X1_lookBack s m args below meth c 0 0 Q A (dC, dI) 6 [oT aT aB aWK aRE aY aZ tk, aI aB cI 6 fB, aI aRE cI 61 fRE] [(0, .ref aT), (2, .int x2), (3, .int x3), (4, .int x4), (5, .int x5)] 28 [] := by
    intro x2 x3 x4 x5 fRE P11 hP11 h
    unfold wp_X1_lookBack_b28 at h
    refine h (fun (x4 : Int32) (x5 : Int32) => mW p l e rm_X1_lookBack s m args below meth c 0 0 Q A (dC, dI) 6 [oT aT aB aWK aRE aY aZ tk, aI aB cI 6 fB, aI aRE cI 61 fRE] [(0, .ref aT), (2, .int x2), (3, .int x3), (4, .int x4), (5, .int x5)] 28 []) ?_
    intro x4 x5 h
    intro H locs ls hP hD hS hl
    refine lv_iload hx hb dX1_lookBack_28 (lv_at hl 4 rfl) ?_
    refine lv_aload_n hx hb dX1_lookBack_30 rfl (lv_at hl 0 rfl) ?_
    refine va_get (D := (dC, dI)) (ci := 1) (v := .int tk) (C := RX1) (T := TX1) (N := 6) hx hb hts in_X1 hown hK hP 0 rfl rfl 0 (by decide) k_38 (fun _ h9 => h9) rfl dX1_lookBack_31 ?_
    refine lv_icmp_ge (tgt := 71) hx hb dX1_lookBack_34 (by decide) (fun q34 => ?_) (fun q34 => ?_)
    · have h := h.1 q34
      refine lv_aload_n hx hb dX1_lookBack_71 rfl (lv_at hl 0 rfl) ?_
      refine va_get (D := (dC, dI)) (ci := 1) (v := .ref aRE) (C := RX1) (T := TX1) (N := 6) hx hb hts in_X1 hown hK hP 0 rfl rfl 3 (by decide) k_18 (fun _ h9 => h9) rfl dX1_lookBack_72 ?_
      refine lv_iload_n hx hb dX1_lookBack_75 rfl (lv_at hl 2 rfl) ?_
      refine lv_iload hx hb dX1_lookBack_76 (lv_at hl 3 rfl) ?_
      refine va_iast (D := (dC, dI)) hx hb hK hP hD hS 2 0 rfl rfl h.1 dX1_lookBack_78 (fun H locs hP hD hS => ?_)
      obtain ⟨fRE_78, efRE_78⟩ : ∃ y, y = upd fRE x3.toNatClampNeg x4 := ⟨_, rfl⟩
      have h := h.2 fRE_78 efRE_78
      have hP : va_P (dC, dI) vwCl [oT aT aB aWK aRE aY aZ tk, aI aB cI 6 fB, aI aRE cI 61 fRE_78] H := by rw [efRE_78]; exact hP
      have hD : va_D A [oT aT aB aWK aRE aY aZ tk, aI aB cI 6 fB, aI aRE cI 61 fRE_78] := by rw [efRE_78]; exact hD
      obtain ⟨v79, ev79⟩ : ∃ y : Int32, y = x3 + (1 : Int32) := ⟨_, rfl⟩
      have h := h v79 ev79
      refine lv_iinc (v := v79) (lv' := [(3, .int v79), (0, .ref aT), (2, .int x2), (4, .int x4), (5, .int x5)]) hx hb dX1_lookBack_79 hl (k := 2) rfl (by rw [ev79]; rfl) (by decide) rfl (fun ls hl => ?_)
      refine lv_goto (tgt := 11) hx hb dX1_lookBack_82 (by decide) ?_
      exact hP11 _ _ h H locs ls hP hD hS (lv_sub hl [1, 2, 0] rfl)
    · have h := h.2 q34
      refine lv_aload_n hx hb dX1_lookBack_37 rfl (lv_at hl 0 rfl) ?_
      refine va_get (D := (dC, dI)) (ci := 1) (v := .ref aB) (C := RX1) (T := TX1) (N := 6) hx hb hts in_X1 hown hK hP 0 rfl rfl 1 (by decide) k_9 (fun _ h9 => h9) rfl dX1_lookBack_38 ?_
      refine lv_iload hx hb dX1_lookBack_41 (lv_at hl 4 rfl) ?_
      refine va_iald (D := (dC, dI)) hx hb hK hP 1 0 rfl rfl h.1 dX1_lookBack_43 ?_
      have h := h.2
      refine lv_aload_n hx hb dX1_lookBack_44 rfl (lv_at hl 0 rfl) ?_
      refine va_get (D := (dC, dI)) (ci := 1) (v := .ref aRE) (C := RX1) (T := TX1) (N := 6) hx hb hts in_X1 hown hK hP 0 rfl rfl 3 (by decide) k_18 (fun _ h9 => h9) rfl dX1_lookBack_45 ?_
      refine lv_iload_n hx hb dX1_lookBack_48 rfl (lv_at hl 2 rfl) ?_
      refine lv_iconst (v := 1) hx hb dX1_lookBack_49 (by decide) ?_
      refine lv_isub hx hb dX1_lookBack_50 ?_
      refine va_iald (D := (dC, dI)) hx hb hK hP 2 0 rfl rfl h.1 dX1_lookBack_51 ?_
      have h := h.2
      refine lv_iand hx hb dX1_lookBack_52 ?_
      refine lv_if_eq (tgt := 65) hx hb dX1_lookBack_53 (by decide) (fun q53 => ?_) (fun q53 => ?_)
      · have h := h.1 q53
        obtain ⟨v65, ev65⟩ : ∃ y : Int32, y = x5 + (1 : Int32) := ⟨_, rfl⟩
        have h := h v65 ev65
        refine lv_iinc (v := v65) (lv' := [(5, .int v65), (0, .ref aT), (2, .int x2), (3, .int x3), (4, .int x4)]) hx hb dX1_lookBack_65 hl (k := 4) rfl (by rw [ev65]; rfl) (by decide) rfl (fun ls hl => ?_)
        refine lv_goto (tgt := 28) hx hb dX1_lookBack_68 (by decide) ?_
        exact h H locs ls hP hD hS (lv_sub hl [1, 2, 3, 4, 0] rfl)
      · have h := h.2 q53
        refine lv_iload hx hb dX1_lookBack_56 (lv_at hl 3 rfl) ?_
        refine lv_iconst (v := 1) hx hb dX1_lookBack_58 (by decide) ?_
        refine lv_iload hx hb dX1_lookBack_59 (lv_at hl 4 rfl) ?_
        refine lv_ishl hx hb dX1_lookBack_61 ?_
        refine lv_ior hx hb dX1_lookBack_62 ?_
        refine lv_topi (fun v63 ev63 => ?_)
        have h := h v63 ev63
        refine lv_istore (lv' := [(4, .int v63), (0, .ref aT), (2, .int x2), (3, .int x3), (5, .int x5)]) hx hb dX1_lookBack_63 hl (by decide) rfl (fun ls hl => ?_)
        obtain ⟨v65, ev65⟩ : ∃ y : Int32, y = x5 + (1 : Int32) := ⟨_, rfl⟩
        have h := h v65 ev65
        refine lv_iinc (v := v65) (lv' := [(5, .int v65), (4, .int v63), (0, .ref aT), (2, .int x2), (3, .int x3)]) hx hb dX1_lookBack_65 hl (k := 4) rfl (by rw [ev65]; rfl) (by decide) rfl (fun ls hl => ?_)
        refine lv_goto (tgt := 28) hx hb dX1_lookBack_68 (by decide) ?_
        exact h H locs ls hP hD hS (lv_sub hl [2, 3, 4, 1, 0] rfl)
  have B11 : ∀ (x2 : Int32) (x3 : Int32) (fRE : (Nat → Int32)), wp_X1_lookBack_b11 x2 x3 tk fB fRE post → mW p l e rm_X1_lookBack s m args below meth c 0 0 Q A (dC, dI) 6 [oT aT aB aWK aRE aY aZ tk, aI aB cI 6 fB, aI aRE cI 61 fRE] [(0, .ref aT), (2, .int x2), (3, .int x3)] 11 [] := by
    intro x2 x3 fRE h
    unfold wp_X1_lookBack_b11 at h
    refine h (fun (x3 : Int32) (fRE : (Nat → Int32)) => mW p l e rm_X1_lookBack s m args below meth c 0 0 Q A (dC, dI) 6 [oT aT aB aWK aRE aY aZ tk, aI aB cI 6 fB, aI aRE cI 61 fRE] [(0, .ref aT), (2, .int x2), (3, .int x3)] 11 []) ?_
    intro x3 fRE h
    intro H locs ls hP hD hS hl
    refine lv_iload_n hx hb dX1_lookBack_11 rfl (lv_at hl 2 rfl) ?_
    refine lv_iload_n hx hb dX1_lookBack_12 rfl (lv_at hl 1 rfl) ?_
    refine lv_icmp_gt (tgt := 85) hx hb dX1_lookBack_13 (by decide) (fun q13 => ?_) (fun q13 => ?_)
    · have h := h.1 q13
      exact ret _ H locs ls _ dX1_lookBack_85 h hP hD hS
    · have h := h.2 q13
      refine lv_iload_n hx hb dX1_lookBack_16 rfl (lv_at hl 2 rfl) ?_
      refine lv_bipush (v := 60) hx hb dX1_lookBack_17 (by decide) ?_
      refine lv_icmp_gt (tgt := 85) hx hb dX1_lookBack_19 (by decide) (fun q19 => ?_) (fun q19 => ?_)
      · have h := h.1 q19
        exact ret _ H locs ls _ dX1_lookBack_85 h hP hD hS
      · have h := h.2 q19
        refine lv_iconst (v := 0) hx hb dX1_lookBack_22 (by decide) ?_
        refine lv_istore (lv' := [(4, .int (0 : Int32)), (0, .ref aT), (2, .int x2), (3, .int x3)]) hx hb dX1_lookBack_23 hl (by decide) rfl (fun ls hl => ?_)
        refine lv_iconst (v := 0) hx hb dX1_lookBack_25 (by decide) ?_
        refine lv_istore (lv' := [(5, .int (0 : Int32)), (4, .int (0 : Int32)), (0, .ref aT), (2, .int x2), (3, .int x3)]) hx hb dX1_lookBack_26 hl (by decide) rfl (fun ls hl => ?_)
        exact B28 _ _ _ _ _ _ (fun _ _ hq => hq) h H locs ls hP hD hS (lv_sub hl [2, 3, 4, 1, 0] rfl)
  unfold wp_X1_lookBack at h
  intro H locs ls hP hD hS hl
  refine lv_aload_n hx hb dX1_lookBack_0 rfl (lv_at hl 0 rfl) ?_
  refine va_get (D := (dC, dI)) (ci := 1) (v := .ref aRE) (C := RX1) (T := TX1) (N := 6) hx hb hts in_X1 hown hK hP 0 rfl rfl 3 (by decide) k_18 (fun _ h9 => h9) rfl dX1_lookBack_1 ?_
  refine lv_iconst (v := 0) hx hb dX1_lookBack_4 (by decide) ?_
  refine lv_iconst (v := 1) hx hb dX1_lookBack_5 (by decide) ?_
  refine lv_iload_n hx hb dX1_lookBack_6 rfl (lv_at hl 1 rfl) ?_
  refine lv_ishl hx hb dX1_lookBack_7 ?_
  refine va_iast (D := (dC, dI)) hx hb hK hP hD hS 2 0 rfl rfl h.1 dX1_lookBack_8 (fun H locs hP hD hS => ?_)
  obtain ⟨fRE_8, efRE_8⟩ : ∃ y, y = upd fRE (0 : Int32).toNatClampNeg ((1 : Int32) <<< (x1 &&& 31)) := ⟨_, rfl⟩
  have h := h.2 fRE_8 efRE_8
  have hP : va_P (dC, dI) vwCl [oT aT aB aWK aRE aY aZ tk, aI aB cI 6 fB, aI aRE cI 61 fRE_8] H := by rw [efRE_8]; exact hP
  have hD : va_D A [oT aT aB aWK aRE aY aZ tk, aI aB cI 6 fB, aI aRE cI 61 fRE_8] := by rw [efRE_8]; exact hD
  refine lv_iconst (v := 1) hx hb dX1_lookBack_9 (by decide) ?_
  refine lv_istore_n (lv' := [(3, .int (1 : Int32)), (0, .ref aT), (1, .int x1), (2, .int x2)]) hx hb dX1_lookBack_10 rfl hl (by decide) rfl (fun ls hl => ?_)
  exact B11 _ _ _ h H locs ls hP hD hS (lv_sub hl [1, 3, 0] rfl)
set_option maxHeartbeats 4000000 in
set_option maxRecDepth 100000 in
theorem c_X1_lookBack {l : Launch} {dC : Nat → ClassId} {dI : Nat → Nat → Nat} {cI cJ cZ : ClassId} {aT aB aWK aRE aY aZ : Nat} {tk : Int32} {fB : (Nat → Int32)} {fRE : (Nat → Int32)} {x1 : Int32} {x2 : Int32} {post : (Nat → Int32) → Prop} (h : wp_X1_lookBack x1 x2 tk fB fRE post) : ∀ sz, Met l yX1_lookBack wsX1_lookBack rm_X1_lookBack (mP (dC, dI) (mTy cI cJ cZ) [.ref aT, .int x1, .int x2] [oT aT aB aWK aRE aY aZ tk, aI aB cI 6 fB, aI aRE cI 61 fRE] sz) (va_Qv (fun (u : (Nat → Int32)) => post u) (mB (dC, dI) (va_A [oT aT aB aWK aRE aY aZ tk, aI aB cI 6 fB, aI aRE cI 61 fRE] sz) (fun u => [oT aT aB aWK aRE aY aZ tk, aI aB cI 6 fB, aI aRE cI 61 u])) (va_A [oT aT aB aWK aRE aY aZ tk, aI aB cI 6 fB, aI aRE cI 61 fRE] sz)) 0 0 (va_A [oT aT aB aWK aRE aY aZ tk, aI aB cI 6 fB, aI aRE cI 61 fRE] sz) := by
  intro sz
  refine Met.ofW (cc := cX1_lookBack) (maxL := 6) (ret := none) (by decide) rfl ?_
  intro p e s m args below meth c s₁ B hml hv
  obtain ⟨rfl, hsz, hP, hK, hD0⟩ := hv
  have hlocks := B.notSynchronized
  subst hsz
  have hD := hD0.self (sz := s.heap.size)
  have hl := lv_entry ([.ref aT, .int x1, .int x2]) (n := 6) (Nat.le_of_ble_eq_true rfl)
  rw [lg_entry_eq]
  exact k_X1_lookBack B.exec B.bytes hml (findClass_of_methodNamed B.named) (atoms_spec (ws := wsX1_lookBack) B.pre) hK (fun q hq => Or.inr hq) (fun fRE' H locs ls pc hd hp hP hD hS => W.vret B.exec B.bytes B.returns (fun t ht hW => ⟨⟨fRE', rfl, hp, by rw [ht]; exact hP, hD⟩, hS.F ht⟩) hS.2.2 hd) h s.heap [] _ hP hD va_S.rf hl

def wp_X1_findWalk_b62 (x3 : Int32) (x4 : Int32) (x5 : Int32) (tk : Int32) (fB : (Nat → Int32)) (fWK : (Nat → Int32)) (fRE : (Nat → Int32)) (post : Int32 → (Nat → Int32) → (Nat → Int32) → Prop)  : Prop := ∀ P62 : Int32 → Int32 → (Nat → Int32) → Prop, (∀ (x4 : Int32) (x5 : Int32) (fWK : (Nat → Int32)), ((x3 < x5 → post (1 : Int32) fWK fRE) ∧ (¬ x3 < x5 → (vp_in x4 6 ∧ (vp_in (x3 - x5) 61 ∧ wp_X1_least ((fB x4.toNatClampNeg) &&& (fRE (x3 - x5).toNatClampNeg)) (fun (r85 : Int32) => (vp_in x5 61 ∧ (∀ fWK_98 : (Nat → Int32), fWK_98 = upd fWK x5.toNatClampNeg r85 → (∀ v99 : Int32, v99 = x5 + (1 : Int32) → P62 r85 v99 fWK_98)))))))) → P62 x4 x5 fWK) → P62 x4 x5 fWK
def wp_X1_findWalk (x1 : Int32) (x2 : Int32) (x3 : Int32) (tk : Int32) (fB : (Nat → Int32)) (fWK : (Nat → Int32)) (fRE : (Nat → Int32)) (post : Int32 → (Nat → Int32) → (Nat → Int32) → Prop) : Prop := wp_X1_has x1 tk (fun (r2 : Int32) => ((r2 = (0 : Int32) → post (0 : Int32) fWK fRE) ∧ (¬ r2 = (0 : Int32) → wp_X1_has x2 tk (fun (r10 : Int32) => ((r10 = (0 : Int32) → post (0 : Int32) fWK fRE) ∧ (¬ r10 = (0 : Int32) → ((x3 < (0 : Int32) → post (0 : Int32) fWK fRE) ∧ (¬ x3 < (0 : Int32) → ((x3 ≤ (60 : Int32) → wp_X1_lookBack x2 x3 tk fB fRE (fun (fRE_31 : (Nat → Int32)) => (vp_in x3 61 ∧ wp_X1_holds (fRE_31 x3.toNatClampNeg) x1 (fun (r41 : Int32) => ((¬ r41 = (0 : Int32) → (vp_in (0 : Int32) 61 ∧ (∀ fWK_55 : (Nat → Int32), fWK_55 = upd fWK (0 : Int32).toNatClampNeg x1 → wp_X1_findWalk_b62 x3 x1 (1 : Int32) tk fB fWK_55 fRE_31 post))) ∧ (r41 = (0 : Int32) → post (0 : Int32) fWK fRE_31)))))) ∧ (¬ x3 ≤ (60 : Int32) → post (0 : Int32) fWK fRE))))))))))
abbrev rm_X1_findWalk : Room := { frames := 2, cells := 0, slots := 0, locals := 42 }
theorem hv_X1_findWalk : yX1_findWalk.cls = RX1 ∧ yX1_findWalk.cls ≠ "java/lang/invoke/MethodHandle" ∧ yX1_findWalk.cls ≠ "java/lang/invoke/VarHandle" ∧ (parseMethodDescriptor yX1_findWalk.desc).map (fun d => d.parameters.length) = some 3 := by decide +kernel
set_option maxHeartbeats 4000000 in
set_option maxRecDepth 100000 in
theorem k_X1_findWalk {p : Program} {l : Launch} {e : Env} {s : State} {m : MethodId} {args : Array Value} {below : List Frame} {meth : Method} {c : Code} {Q : State → Prop} {A : Nat → Prop} {dC : Nat → ClassId} {dI : Nat → Nat → Nat} {cI cJ cZ : ClassId} (hx : p.tables.exec = Jvm.exec) (hb : c.code = cX1_findWalk) (hml : c.maxLocals = 6) (hown : s.vm.findClass RX1 = some m.cls) (hts : ∀ w ∈ wsX1_findWalk, w.before args s = true) (hK : va_K (dC, dI) vwCl (mTy cI cJ cZ) s) (hA : ∀ q, s.heap.size ≤ q → A q) {aT aB aWK aRE aY aZ : Nat} {tk : Int32} {fB : (Nat → Int32)} {fWK : (Nat → Int32)} {fRE : (Nat → Int32)} {x1 : Int32} {x2 : Int32} {x3 : Int32} {post : Int32 → (Nat → Int32) → (Nat → Int32) → Prop} (ret : ∀ (r : Int32) (fWK' : (Nat → Int32)) (fRE' : (Nat → Int32)) (H : Heap) (locs : List Loc) (ls : Array Slot) (pc : Nat), decode cX1_findWalk pc = .ok (.ireturn, 1) → (r = 0 ∨ r = 1) → post r fWK' fRE' → va_P (dC, dI) vwCl [oT aT aB aWK aRE aY aZ tk, aI aB cI 6 fB, aI aWK cI 61 fWK', aI aRE cI 61 fRE'] H → va_D A [oT aT aB aWK aRE aY aZ tk, aI aB cI 6 fB, aI aWK cI 61 fWK', aI aRE cI 61 fRE'] → va_S A s.heap H locs → W p l e rm_X1_findWalk s m args below meth c H locs 0 0 Q (F0 m pc ls [.int r])) (h : wp_X1_findWalk x1 x2 x3 tk fB fWK fRE post) : mW p l e rm_X1_findWalk s m args below meth c 0 0 Q A (dC, dI) 6 [oT aT aB aWK aRE aY aZ tk, aI aB cI 6 fB, aI aWK cI 61 fWK, aI aRE cI 61 fRE] [(0, .ref aT), (1, .int x1), (2, .int x2), (3, .int x3)] 0 [] := by
  have in_X1 : ∀ w ∈ wsX10, w ∈ wsX1_findWalk := fun w hw => List.mem_cons_of_mem _ (List.mem_append_right _ hw)
  have k_15 := hts (.fieldLink RX1 15 "RingTasks$Task" "walk" "[I") (List.mem_of_getElem? (i := 2) rfl)
  have k_18 := hts (.fieldLink RX1 18 "RingTasks$Task" "reaching" "[I") (List.mem_of_getElem? (i := 1) rfl)
  have k_9 := hts (.fieldLink RX1 9 "RingTasks$Task" "behind" "[I") (List.mem_of_getElem? (i := 3) rfl)
  have B62 : ∀ (x3 : Int32) (x4 : Int32) (x5 : Int32) (fWK : (Nat → Int32)) (fRE : (Nat → Int32)), wp_X1_findWalk_b62 x3 x4 x5 tk fB fWK fRE post → mW p l e rm_X1_findWalk s m args below meth c 0 0 Q A (dC, dI) 6 [oT aT aB aWK aRE aY aZ tk, aI aB cI 6 fB, aI aWK cI 61 fWK, aI aRE cI 61 fRE] [(0, .ref aT), (3, .int x3), (4, .int x4), (5, .int x5)] 62 [] := by
    intro x3 x4 x5 fWK fRE h
    unfold wp_X1_findWalk_b62 at h
    refine h (fun (x4 : Int32) (x5 : Int32) (fWK : (Nat → Int32)) => mW p l e rm_X1_findWalk s m args below meth c 0 0 Q A (dC, dI) 6 [oT aT aB aWK aRE aY aZ tk, aI aB cI 6 fB, aI aWK cI 61 fWK, aI aRE cI 61 fRE] [(0, .ref aT), (3, .int x3), (4, .int x4), (5, .int x5)] 62 []) ?_
    intro x4 x5 fWK h
    intro H locs ls hP hD hS hl
    refine lv_iload hx hb dX1_findWalk_62 (lv_at hl 3 rfl) ?_
    refine lv_iload_n hx hb dX1_findWalk_64 rfl (lv_at hl 1 rfl) ?_
    refine lv_icmp_gt (tgt := 105) hx hb dX1_findWalk_65 (by decide) (fun q65 => ?_) (fun q65 => ?_)
    · have h := h.1 q65
      refine lv_iconst (v := 1) hx hb dX1_findWalk_105 (by decide) ?_
      exact ret _ _ _ H locs ls _ dX1_findWalk_106 (Or.inr rfl) h hP hD hS
    · have h := h.2 q65
      refine lv_aload_n hx hb dX1_findWalk_68 rfl (lv_at hl 0 rfl) ?_
      refine va_get (D := (dC, dI)) (ci := 1) (v := .ref aB) (C := RX1) (T := TX1) (N := 6) hx hb hts in_X1 hown hK hP 0 rfl rfl 1 (by decide) k_9 (fun _ h9 => h9) rfl dX1_findWalk_69 ?_
      refine lv_iload hx hb dX1_findWalk_72 (lv_at hl 2 rfl) ?_
      refine va_iald (D := (dC, dI)) hx hb hK hP 1 0 rfl rfl h.1 dX1_findWalk_74 ?_
      have h := h.2
      refine lv_aload_n hx hb dX1_findWalk_75 rfl (lv_at hl 0 rfl) ?_
      refine va_get (D := (dC, dI)) (ci := 1) (v := .ref aRE) (C := RX1) (T := TX1) (N := 6) hx hb hts in_X1 hown hK hP 0 rfl rfl 3 (by decide) k_18 (fun _ h9 => h9) rfl dX1_findWalk_76 ?_
      refine lv_iload_n hx hb dX1_findWalk_79 rfl (lv_at hl 1 rfl) ?_
      refine lv_iload hx hb dX1_findWalk_80 (lv_at hl 3 rfl) ?_
      refine lv_isub hx hb dX1_findWalk_82 ?_
      refine va_iald (D := (dC, dI)) hx hb hK hP 3 0 rfl rfl h.1 dX1_findWalk_83 ?_
      have h := h.2
      refine lv_iand hx hb dX1_findWalk_84 ?_
      refine mSi (wr := [oT aT aB aWK aRE aY aZ tk, aI aB cI 6 fB, aI aWK cI 61 fWK, aI aRE cI 61 fRE]) (As := [.int ((fB x4.toNatClampNeg) &&& (fRE (x3 - x5).toNatClampNeg))]) (rest := []) ⟨hx, hb, hml, hown, hts⟩ (c_X1_least (l := l) (dC := dC) (dI := dI) (cI := cI) (cJ := cJ) (cZ := cZ)  h) (va_cwS 1 hts gX1_findWalk_X1_least rfl rfl rfl hv_X1_least ⟨Nat.le_of_ble_eq_true rfl, Nat.le_of_ble_eq_true rfl⟩) hK hP hD hS hA [] [0, 1, 2, 3] rfl rfl rfl rfl (by decide) rfl hl.1 rfl (Nat.le_of_ble_eq_true rfl) ⟨Nat.zero_le _, Nat.zero_le _⟩ dX1_findWalk_85 (fun r85 u85 H locs h hP hD hS => ?_)
      have hP : va_P (dC, dI) vwCl [oT aT aB aWK aRE aY aZ tk, aI aB cI 6 fB, aI aWK cI 61 fWK, aI aRE cI 61 fRE] H := hP.sub [0, 1, 2, 3] rfl
      have hD : va_D A [oT aT aB aWK aRE aY aZ tk, aI aB cI 6 fB, aI aWK cI 61 fWK, aI aRE cI 61 fRE] := hD.sub [0, 1, 2, 3] rfl rfl
      refine lv_istore (lv' := [(4, .int r85), (0, .ref aT), (3, .int x3), (5, .int x5)]) hx hb dX1_findWalk_88 hl (by decide) rfl (fun ls hl => ?_)
      refine lv_aload_n hx hb dX1_findWalk_90 rfl (lv_at hl 1 rfl) ?_
      refine va_get (D := (dC, dI)) (ci := 1) (v := .ref aWK) (C := RX1) (T := TX1) (N := 6) hx hb hts in_X1 hown hK hP 0 rfl rfl 2 (by decide) k_15 (fun _ h9 => h9) rfl dX1_findWalk_91 ?_
      refine lv_iload hx hb dX1_findWalk_94 (lv_at hl 3 rfl) ?_
      refine lv_iload hx hb dX1_findWalk_96 (lv_at hl 0 rfl) ?_
      refine va_iast (D := (dC, dI)) hx hb hK hP hD hS 2 0 rfl rfl h.1 dX1_findWalk_98 (fun H locs hP hD hS => ?_)
      obtain ⟨fWK_98, efWK_98⟩ : ∃ y, y = upd fWK x5.toNatClampNeg r85 := ⟨_, rfl⟩
      have h := h.2 fWK_98 efWK_98
      have hP : va_P (dC, dI) vwCl [oT aT aB aWK aRE aY aZ tk, aI aB cI 6 fB, aI aWK cI 61 fWK_98, aI aRE cI 61 fRE] H := by rw [efWK_98]; exact hP
      have hD : va_D A [oT aT aB aWK aRE aY aZ tk, aI aB cI 6 fB, aI aWK cI 61 fWK_98, aI aRE cI 61 fRE] := by rw [efWK_98]; exact hD
      obtain ⟨v99, ev99⟩ : ∃ y : Int32, y = x5 + (1 : Int32) := ⟨_, rfl⟩
      have h := h v99 ev99
      refine lv_iinc (v := v99) (lv' := [(5, .int v99), (4, .int r85), (0, .ref aT), (3, .int x3)]) hx hb dX1_findWalk_99 hl (k := 3) rfl (by rw [ev99]; rfl) (by decide) rfl (fun ls hl => ?_)
      refine lv_goto (tgt := 62) hx hb dX1_findWalk_102 (by decide) ?_
      exact h H locs ls hP hD hS (lv_sub hl [2, 3, 1, 0] rfl)
  unfold wp_X1_findWalk at h
  intro H locs ls hP hD hS hl
  refine lv_aload_n hx hb dX1_findWalk_0 rfl (lv_at hl 0 rfl) ?_
  refine lv_iload_n hx hb dX1_findWalk_1 rfl (lv_at hl 1 rfl) ?_
  refine mVi (wr := [aI aB cI 6 fB, aI aWK cI 61 fWK, aI aRE cI 61 fRE]) (As := [.int x1]) (rest := []) ⟨hx, hb, hml, hown, hts⟩ (c_X1_has (l := l) (dC := dC) (dI := dI) (cI := cI) (cJ := cJ) (cZ := cZ) (aT := aT) (aB := aB) (aWK := aWK) (aRE := aRE) (aY := aY) (aZ := aZ) h) (cwV 1 hts gX1_findWalk_X1_has rfl rfl rfl hv_X1_has ⟨Nat.le_of_ble_eq_true rfl, Nat.le_of_ble_eq_true rfl⟩) hK hP hD hS hA [0] [1, 2, 3] rfl rfl rfl rfl (by decide) 1 rfl rfl rfl rfl hl.1 rfl (Nat.le_of_ble_eq_true rfl) ⟨Nat.zero_le _, Nat.zero_le _⟩ dX1_findWalk_2 (fun r2 u2 H locs h hP hD hS => ?_)
  have hP : va_P (dC, dI) vwCl [oT aT aB aWK aRE aY aZ tk, aI aB cI 6 fB, aI aWK cI 61 fWK, aI aRE cI 61 fRE] H := hP.sub [3, 0, 1, 2] rfl
  have hD : va_D A [oT aT aB aWK aRE aY aZ tk, aI aB cI 6 fB, aI aWK cI 61 fWK, aI aRE cI 61 fRE] := hD.sub [3, 0, 1, 2] rfl rfl
  refine lv_if_eq (tgt := 26) hx hb dX1_findWalk_5 (by decide) (fun q5 => ?_) (fun q5 => ?_)
  · have h := h.1 q5
    refine lv_iconst (v := 0) hx hb dX1_findWalk_26 (by decide) ?_
    exact ret _ _ _ H locs ls _ dX1_findWalk_27 (Or.inl rfl) h hP hD hS
  · have h := h.2 q5
    refine lv_aload_n hx hb dX1_findWalk_8 rfl (lv_at hl 0 rfl) ?_
    refine lv_iload_n hx hb dX1_findWalk_9 rfl (lv_at hl 2 rfl) ?_
    refine mVi (wr := [aI aB cI 6 fB, aI aWK cI 61 fWK, aI aRE cI 61 fRE]) (As := [.int x2]) (rest := []) ⟨hx, hb, hml, hown, hts⟩ (c_X1_has (l := l) (dC := dC) (dI := dI) (cI := cI) (cJ := cJ) (cZ := cZ) (aT := aT) (aB := aB) (aWK := aWK) (aRE := aRE) (aY := aY) (aZ := aZ) h) (cwV 1 hts gX1_findWalk_X1_has rfl rfl rfl hv_X1_has ⟨Nat.le_of_ble_eq_true rfl, Nat.le_of_ble_eq_true rfl⟩) hK hP hD hS hA [0] [1, 2, 3] rfl rfl rfl rfl (by decide) 1 rfl rfl rfl rfl hl.1 rfl (Nat.le_of_ble_eq_true rfl) ⟨Nat.zero_le _, Nat.zero_le _⟩ dX1_findWalk_10 (fun r10 u10 H locs h hP hD hS => ?_)
    have hP : va_P (dC, dI) vwCl [oT aT aB aWK aRE aY aZ tk, aI aB cI 6 fB, aI aWK cI 61 fWK, aI aRE cI 61 fRE] H := hP.sub [3, 0, 1, 2] rfl
    have hD : va_D A [oT aT aB aWK aRE aY aZ tk, aI aB cI 6 fB, aI aWK cI 61 fWK, aI aRE cI 61 fRE] := hD.sub [3, 0, 1, 2] rfl rfl
    refine lv_if_eq (tgt := 26) hx hb dX1_findWalk_13 (by decide) (fun q13 => ?_) (fun q13 => ?_)
    · have h := h.1 q13
      refine lv_iconst (v := 0) hx hb dX1_findWalk_26 (by decide) ?_
      exact ret _ _ _ H locs ls _ dX1_findWalk_27 (Or.inl rfl) h hP hD hS
    · have h := h.2 q13
      refine lv_iload_n hx hb dX1_findWalk_16 rfl (lv_at hl 3 rfl) ?_
      refine lv_if_lt (tgt := 26) hx hb dX1_findWalk_17 (by decide) (fun q17 => ?_) (fun q17 => ?_)
      · have h := h.1 q17
        refine lv_iconst (v := 0) hx hb dX1_findWalk_26 (by decide) ?_
        exact ret _ _ _ H locs ls _ dX1_findWalk_27 (Or.inl rfl) h hP hD hS
      · have h := h.2 q17
        refine lv_iload_n hx hb dX1_findWalk_20 rfl (lv_at hl 3 rfl) ?_
        refine lv_bipush (v := 60) hx hb dX1_findWalk_21 (by decide) ?_
        refine lv_icmp_le (tgt := 28) hx hb dX1_findWalk_23 (by decide) (fun q23 => ?_) (fun q23 => ?_)
        · have h := h.1 q23
          refine lv_aload_n hx hb dX1_findWalk_28 rfl (lv_at hl 0 rfl) ?_
          refine lv_iload_n hx hb dX1_findWalk_29 rfl (lv_at hl 2 rfl) ?_
          refine lv_iload_n hx hb dX1_findWalk_30 rfl (lv_at hl 3 rfl) ?_
          refine mVv (wr := [aI aWK cI 61 fWK]) (As := [.int x2, .int x3]) (rest := []) ⟨hx, hb, hml, hown, hts⟩ (c_X1_lookBack (l := l) (dC := dC) (dI := dI) (cI := cI) (cJ := cJ) (cZ := cZ) (aT := aT) (aB := aB) (aWK := aWK) (aRE := aRE) (aY := aY) (aZ := aZ) h) (cwV 2 hts gX1_findWalk_X1_lookBack rfl rfl rfl hv_X1_lookBack ⟨Nat.le_of_ble_eq_true rfl, Nat.le_of_ble_eq_true rfl⟩) hK hP hD hS hA [0, 1, 3] [2] rfl rfl rfl rfl (by decide) 1 rfl rfl rfl rfl hl.1 rfl (Nat.le_of_ble_eq_true rfl) ⟨Nat.zero_le _, Nat.zero_le _⟩ dX1_findWalk_31 (fun fRE_31 H locs h hP hD hS => ?_)
          have hP : va_P (dC, dI) vwCl [oT aT aB aWK aRE aY aZ tk, aI aB cI 6 fB, aI aWK cI 61 fWK, aI aRE cI 61 fRE_31] H := hP.sub [1, 2, 0, 3] rfl
          have hD : va_D A [oT aT aB aWK aRE aY aZ tk, aI aB cI 6 fB, aI aWK cI 61 fWK, aI aRE cI 61 fRE_31] := hD.sub [1, 2, 0, 3] rfl rfl
          refine lv_aload_n hx hb dX1_findWalk_34 rfl (lv_at hl 0 rfl) ?_
          refine va_get (D := (dC, dI)) (ci := 1) (v := .ref aRE) (C := RX1) (T := TX1) (N := 6) hx hb hts in_X1 hown hK hP 0 rfl rfl 3 (by decide) k_18 (fun _ h9 => h9) rfl dX1_findWalk_35 ?_
          refine lv_iload_n hx hb dX1_findWalk_38 rfl (lv_at hl 3 rfl) ?_
          refine va_iald (D := (dC, dI)) hx hb hK hP 3 0 rfl rfl h.1 dX1_findWalk_39 ?_
          have h := h.2
          refine lv_iload_n hx hb dX1_findWalk_40 rfl (lv_at hl 1 rfl) ?_
          refine mSi (wr := [oT aT aB aWK aRE aY aZ tk, aI aB cI 6 fB, aI aWK cI 61 fWK, aI aRE cI 61 fRE_31]) (As := [.int (fRE_31 x3.toNatClampNeg), .int x1]) (rest := []) ⟨hx, hb, hml, hown, hts⟩ (c_X1_holds (l := l) (dC := dC) (dI := dI) (cI := cI) (cJ := cJ) (cZ := cZ)  h) (va_cwS 2 hts gX1_findWalk_X1_holds rfl rfl rfl hv_X1_holds ⟨Nat.le_of_ble_eq_true rfl, Nat.le_of_ble_eq_true rfl⟩) hK hP hD hS hA [] [0, 1, 2, 3] rfl rfl rfl rfl (by decide) rfl hl.1 rfl (Nat.le_of_ble_eq_true rfl) ⟨Nat.zero_le _, Nat.zero_le _⟩ dX1_findWalk_41 (fun r41 u41 H locs h hP hD hS => ?_)
          have hP : va_P (dC, dI) vwCl [oT aT aB aWK aRE aY aZ tk, aI aB cI 6 fB, aI aWK cI 61 fWK, aI aRE cI 61 fRE_31] H := hP.sub [0, 1, 2, 3] rfl
          have hD : va_D A [oT aT aB aWK aRE aY aZ tk, aI aB cI 6 fB, aI aWK cI 61 fWK, aI aRE cI 61 fRE_31] := hD.sub [0, 1, 2, 3] rfl rfl
          refine lv_if_ne (tgt := 49) hx hb dX1_findWalk_44 (by decide) (fun q44 => ?_) (fun q44 => ?_)
          · have h := h.1 q44
            refine lv_aload_n hx hb dX1_findWalk_49 rfl (lv_at hl 0 rfl) ?_
            refine va_get (D := (dC, dI)) (ci := 1) (v := .ref aWK) (C := RX1) (T := TX1) (N := 6) hx hb hts in_X1 hown hK hP 0 rfl rfl 2 (by decide) k_15 (fun _ h9 => h9) rfl dX1_findWalk_50 ?_
            refine lv_iconst (v := 0) hx hb dX1_findWalk_53 (by decide) ?_
            refine lv_iload_n hx hb dX1_findWalk_54 rfl (lv_at hl 1 rfl) ?_
            refine va_iast (D := (dC, dI)) hx hb hK hP hD hS 2 0 rfl rfl h.1 dX1_findWalk_55 (fun H locs hP hD hS => ?_)
            obtain ⟨fWK_55, efWK_55⟩ : ∃ y, y = upd fWK (0 : Int32).toNatClampNeg x1 := ⟨_, rfl⟩
            have h := h.2 fWK_55 efWK_55
            have hP : va_P (dC, dI) vwCl [oT aT aB aWK aRE aY aZ tk, aI aB cI 6 fB, aI aWK cI 61 fWK_55, aI aRE cI 61 fRE_31] H := by rw [efWK_55]; exact hP
            have hD : va_D A [oT aT aB aWK aRE aY aZ tk, aI aB cI 6 fB, aI aWK cI 61 fWK_55, aI aRE cI 61 fRE_31] := by rw [efWK_55]; exact hD
            refine lv_iload_n hx hb dX1_findWalk_56 rfl (lv_at hl 1 rfl) ?_
            refine lv_istore (lv' := [(4, .int x1), (0, .ref aT), (1, .int x1), (2, .int x2), (3, .int x3)]) hx hb dX1_findWalk_57 hl (by decide) rfl (fun ls hl => ?_)
            refine lv_iconst (v := 1) hx hb dX1_findWalk_59 (by decide) ?_
            refine lv_istore (lv' := [(5, .int (1 : Int32)), (4, .int x1), (0, .ref aT), (1, .int x1), (2, .int x2), (3, .int x3)]) hx hb dX1_findWalk_60 hl (by decide) rfl (fun ls hl => ?_)
            exact B62 _ _ _ _ _ h H locs ls hP hD hS (lv_sub hl [2, 5, 1, 0] rfl)
          · have h := h.2 q44
            refine lv_iconst (v := 0) hx hb dX1_findWalk_47 (by decide) ?_
            exact ret _ _ _ H locs ls _ dX1_findWalk_48 (Or.inl rfl) h hP hD hS
        · have h := h.2 q23
          refine lv_iconst (v := 0) hx hb dX1_findWalk_26 (by decide) ?_
          exact ret _ _ _ H locs ls _ dX1_findWalk_27 (Or.inl rfl) h hP hD hS
set_option maxHeartbeats 4000000 in
set_option maxRecDepth 100000 in
theorem c_X1_findWalk {l : Launch} {dC : Nat → ClassId} {dI : Nat → Nat → Nat} {cI cJ cZ : ClassId} {aT aB aWK aRE aY aZ : Nat} {tk : Int32} {fB : (Nat → Int32)} {fWK : (Nat → Int32)} {fRE : (Nat → Int32)} {x1 : Int32} {x2 : Int32} {x3 : Int32} {post : Int32 → (Nat → Int32) → (Nat → Int32) → Prop} (h : wp_X1_findWalk x1 x2 x3 tk fB fWK fRE post) : ∀ sz, Met l yX1_findWalk wsX1_findWalk rm_X1_findWalk (mP (dC, dI) (mTy cI cJ cZ) [.ref aT, .int x1, .int x2, .int x3] [oT aT aB aWK aRE aY aZ tk, aI aB cI 6 fB, aI aWK cI 61 fWK, aI aRE cI 61 fRE] sz) (va_Qi (fun (r : Int32) (u : (Nat → Int32) × (Nat → Int32)) => post r (u.1) (u.2)) (mB (dC, dI) (va_A [oT aT aB aWK aRE aY aZ tk, aI aB cI 6 fB, aI aWK cI 61 fWK, aI aRE cI 61 fRE] sz) (fun u => [oT aT aB aWK aRE aY aZ tk, aI aB cI 6 fB, aI aWK cI 61 (u.1), aI aRE cI 61 (u.2)])) (va_A [oT aT aB aWK aRE aY aZ tk, aI aB cI 6 fB, aI aWK cI 61 fWK, aI aRE cI 61 fRE] sz)) 0 0 (va_A [oT aT aB aWK aRE aY aZ tk, aI aB cI 6 fB, aI aWK cI 61 fWK, aI aRE cI 61 fRE] sz) := by
  intro sz
  refine Met.ofW (cc := cX1_findWalk) (maxL := 6) (ret := (some .boolean)) (by decide) rfl ?_
  intro p e s m args below meth c s₁ B hml hv
  obtain ⟨rfl, hsz, hP, hK, hD0⟩ := hv
  have hlocks := B.notSynchronized
  subst hsz
  have hD := hD0.self (sz := s.heap.size)
  have hl := lv_entry ([.ref aT, .int x1, .int x2, .int x3]) (n := 6) (Nat.le_of_ble_eq_true rfl)
  rw [lg_entry_eq]
  exact k_X1_findWalk B.exec B.bytes hml (findClass_of_methodNamed B.named) (atoms_spec (ws := wsX1_findWalk) B.pre) hK (fun q hq => Or.inr hq) (fun r fWK' fRE' H locs ls pc hd hz hp hP hD hS => W.zret B.exec B.bytes B.returns (m_bz hz) (fun t ht hW => ⟨⟨r, (fWK', fRE'), rfl, hp, by rw [ht]; exact hP, hD⟩, hS.F ht⟩) hS.2.2 hd) h s.heap [] _ hP hD va_S.rf hl

def wp_X1_findRing_b2 (x1 : Int32) (x2 : Int32) (tk : Int32) (fB : (Nat → Int32)) (fWK : (Nat → Int32)) (fRE : (Nat → Int32)) (post : Int32 → (Nat → Int32) → (Nat → Int32) → Prop)  : Prop := ∀ P2 : Int32 → (Nat → Int32) → (Nat → Int32) → Prop, (∀ (x2 : Int32) (fWK : (Nat → Int32)) (fRE : (Nat → Int32)), ((tk ≤ x2 → post (0 : Int32) fWK fRE) ∧ (¬ tk ≤ x2 → wp_X1_findWalk x2 x2 x1 tk fB fWK fRE (fun (r14 : Int32) (fWK_14 : (Nat → Int32)) (fRE_14 : (Nat → Int32)) => ((r14 = (0 : Int32) → (∀ v22 : Int32, v22 = x2 + (1 : Int32) → P2 v22 fWK_14 fRE_14)) ∧ (¬ r14 = (0 : Int32) → post (1 : Int32) fWK_14 fRE_14))))) → P2 x2 fWK fRE) → P2 x2 fWK fRE
def wp_X1_findRing (x1 : Int32) (tk : Int32) (fB : (Nat → Int32)) (fWK : (Nat → Int32)) (fRE : (Nat → Int32)) (post : Int32 → (Nat → Int32) → (Nat → Int32) → Prop) : Prop := wp_X1_findRing_b2 x1 (0 : Int32) tk fB fWK fRE post
abbrev rm_X1_findRing : Room := { frames := 3, cells := 0, slots := 0, locals := 67 }
theorem hv_X1_findRing : yX1_findRing.cls = RX1 ∧ yX1_findRing.cls ≠ "java/lang/invoke/MethodHandle" ∧ yX1_findRing.cls ≠ "java/lang/invoke/VarHandle" ∧ (parseMethodDescriptor yX1_findRing.desc).map (fun d => d.parameters.length) = some 1 := by decide +kernel
set_option maxHeartbeats 4000000 in
set_option maxRecDepth 100000 in
theorem k_X1_findRing {p : Program} {l : Launch} {e : Env} {s : State} {m : MethodId} {args : Array Value} {below : List Frame} {meth : Method} {c : Code} {Q : State → Prop} {A : Nat → Prop} {dC : Nat → ClassId} {dI : Nat → Nat → Nat} {cI cJ cZ : ClassId} (hx : p.tables.exec = Jvm.exec) (hb : c.code = cX1_findRing) (hml : c.maxLocals = 3) (hown : s.vm.findClass RX1 = some m.cls) (hts : ∀ w ∈ wsX1_findRing, w.before args s = true) (hK : va_K (dC, dI) vwCl (mTy cI cJ cZ) s) (hA : ∀ q, s.heap.size ≤ q → A q) {aT aB aWK aRE aY aZ : Nat} {tk : Int32} {fB : (Nat → Int32)} {fWK : (Nat → Int32)} {fRE : (Nat → Int32)} {x1 : Int32} {post : Int32 → (Nat → Int32) → (Nat → Int32) → Prop} (ret : ∀ (r : Int32) (fWK' : (Nat → Int32)) (fRE' : (Nat → Int32)) (H : Heap) (locs : List Loc) (ls : Array Slot) (pc : Nat), decode cX1_findRing pc = .ok (.ireturn, 1) → (r = 0 ∨ r = 1) → post r fWK' fRE' → va_P (dC, dI) vwCl [oT aT aB aWK aRE aY aZ tk, aI aB cI 6 fB, aI aWK cI 61 fWK', aI aRE cI 61 fRE'] H → va_D A [oT aT aB aWK aRE aY aZ tk, aI aB cI 6 fB, aI aWK cI 61 fWK', aI aRE cI 61 fRE'] → va_S A s.heap H locs → W p l e rm_X1_findRing s m args below meth c H locs 0 0 Q (F0 m pc ls [.int r])) (h : wp_X1_findRing x1 tk fB fWK fRE post) : mW p l e rm_X1_findRing s m args below meth c 0 0 Q A (dC, dI) 3 [oT aT aB aWK aRE aY aZ tk, aI aB cI 6 fB, aI aWK cI 61 fWK, aI aRE cI 61 fRE] [(0, .ref aT), (1, .int x1)] 0 [] := by
  have in_X1 : ∀ w ∈ wsX10, w ∈ wsX1_findRing := fun w hw => List.mem_cons_of_mem _ (List.mem_append_right _ hw)
  have k_38 := hts (.fieldLink RX1 38 "RingTasks$Task" "size" "I") (List.mem_of_getElem? (i := 1) rfl)
  have B2 : ∀ (x1 : Int32) (x2 : Int32) (fWK : (Nat → Int32)) (fRE : (Nat → Int32)), wp_X1_findRing_b2 x1 x2 tk fB fWK fRE post → mW p l e rm_X1_findRing s m args below meth c 0 0 Q A (dC, dI) 3 [oT aT aB aWK aRE aY aZ tk, aI aB cI 6 fB, aI aWK cI 61 fWK, aI aRE cI 61 fRE] [(0, .ref aT), (1, .int x1), (2, .int x2)] 2 [] := by
    intro x1 x2 fWK fRE h
    unfold wp_X1_findRing_b2 at h
    refine h (fun (x2 : Int32) (fWK : (Nat → Int32)) (fRE : (Nat → Int32)) => mW p l e rm_X1_findRing s m args below meth c 0 0 Q A (dC, dI) 3 [oT aT aB aWK aRE aY aZ tk, aI aB cI 6 fB, aI aWK cI 61 fWK, aI aRE cI 61 fRE] [(0, .ref aT), (1, .int x1), (2, .int x2)] 2 []) ?_
    intro x2 fWK fRE h
    intro H locs ls hP hD hS hl
    refine lv_iload_n hx hb dX1_findRing_2 rfl (lv_at hl 2 rfl) ?_
    refine lv_aload_n hx hb dX1_findRing_3 rfl (lv_at hl 0 rfl) ?_
    refine va_get (D := (dC, dI)) (ci := 1) (v := .int tk) (C := RX1) (T := TX1) (N := 6) hx hb hts in_X1 hown hK hP 0 rfl rfl 0 (by decide) k_38 (fun _ h9 => h9) rfl dX1_findRing_4 ?_
    refine lv_icmp_ge (tgt := 28) hx hb dX1_findRing_7 (by decide) (fun q7 => ?_) (fun q7 => ?_)
    · have h := h.1 q7
      refine lv_iconst (v := 0) hx hb dX1_findRing_28 (by decide) ?_
      exact ret _ _ _ H locs ls _ dX1_findRing_29 (Or.inl rfl) h hP hD hS
    · have h := h.2 q7
      refine lv_aload_n hx hb dX1_findRing_10 rfl (lv_at hl 0 rfl) ?_
      refine lv_iload_n hx hb dX1_findRing_11 rfl (lv_at hl 2 rfl) ?_
      refine lv_iload_n hx hb dX1_findRing_12 rfl (lv_at hl 2 rfl) ?_
      refine lv_iload_n hx hb dX1_findRing_13 rfl (lv_at hl 1 rfl) ?_
      refine mVi (wr := []) (As := [.int x2, .int x2, .int x1]) (rest := []) ⟨hx, hb, hml, hown, hts⟩ (c_X1_findWalk (l := l) (dC := dC) (dI := dI) (cI := cI) (cJ := cJ) (cZ := cZ) (aT := aT) (aB := aB) (aWK := aWK) (aRE := aRE) (aY := aY) (aZ := aZ) h) (cwV 3 hts gX1_findRing_X1_findWalk rfl rfl rfl hv_X1_findWalk ⟨Nat.le_of_ble_eq_true rfl, Nat.le_of_ble_eq_true rfl⟩) hK hP hD hS hA [0, 1, 2, 3] [] rfl rfl rfl rfl (by decide) 1 rfl rfl rfl rfl hl.1 rfl (Nat.le_of_ble_eq_true rfl) ⟨Nat.zero_le _, Nat.zero_le _⟩ dX1_findRing_14 (fun r14 u14 H locs h hP hD hS => ?_)
      obtain ⟨fWK_14, fRE_14⟩ := u14
      have hP : va_P (dC, dI) vwCl [oT aT aB aWK aRE aY aZ tk, aI aB cI 6 fB, aI aWK cI 61 fWK_14, aI aRE cI 61 fRE_14] H := hP.sub [0, 1, 2, 3] rfl
      have hD : va_D A [oT aT aB aWK aRE aY aZ tk, aI aB cI 6 fB, aI aWK cI 61 fWK_14, aI aRE cI 61 fRE_14] := hD.sub [0, 1, 2, 3] rfl rfl
      refine lv_if_eq (tgt := 22) hx hb dX1_findRing_17 (by decide) (fun q17 => ?_) (fun q17 => ?_)
      · have h := h.1 q17
        obtain ⟨v22, ev22⟩ : ∃ y : Int32, y = x2 + (1 : Int32) := ⟨_, rfl⟩
        have h := h v22 ev22
        refine lv_iinc (v := v22) (lv' := [(2, .int v22), (0, .ref aT), (1, .int x1)]) hx hb dX1_findRing_22 hl (k := 2) rfl (by rw [ev22]; rfl) (by decide) rfl (fun ls hl => ?_)
        refine lv_goto (tgt := 2) hx hb dX1_findRing_25 (by decide) ?_
        exact h H locs ls hP hD hS (lv_sub hl [1, 2, 0] rfl)
      · have h := h.2 q17
        refine lv_iconst (v := 1) hx hb dX1_findRing_20 (by decide) ?_
        exact ret _ _ _ H locs ls _ dX1_findRing_21 (Or.inr rfl) h hP hD hS
  unfold wp_X1_findRing at h
  intro H locs ls hP hD hS hl
  refine lv_iconst (v := 0) hx hb dX1_findRing_0 (by decide) ?_
  refine lv_istore_n (lv' := [(2, .int (0 : Int32)), (0, .ref aT), (1, .int x1)]) hx hb dX1_findRing_1 rfl hl (by decide) rfl (fun ls hl => ?_)
  exact B2 _ _ _ _ h H locs ls hP hD hS (lv_sub hl [1, 2, 0] rfl)
set_option maxHeartbeats 4000000 in
set_option maxRecDepth 100000 in
theorem c_X1_findRing {l : Launch} {dC : Nat → ClassId} {dI : Nat → Nat → Nat} {cI cJ cZ : ClassId} {aT aB aWK aRE aY aZ : Nat} {tk : Int32} {fB : (Nat → Int32)} {fWK : (Nat → Int32)} {fRE : (Nat → Int32)} {x1 : Int32} {post : Int32 → (Nat → Int32) → (Nat → Int32) → Prop} (h : wp_X1_findRing x1 tk fB fWK fRE post) : ∀ sz, Met l yX1_findRing wsX1_findRing rm_X1_findRing (mP (dC, dI) (mTy cI cJ cZ) [.ref aT, .int x1] [oT aT aB aWK aRE aY aZ tk, aI aB cI 6 fB, aI aWK cI 61 fWK, aI aRE cI 61 fRE] sz) (va_Qi (fun (r : Int32) (u : (Nat → Int32) × (Nat → Int32)) => post r (u.1) (u.2)) (mB (dC, dI) (va_A [oT aT aB aWK aRE aY aZ tk, aI aB cI 6 fB, aI aWK cI 61 fWK, aI aRE cI 61 fRE] sz) (fun u => [oT aT aB aWK aRE aY aZ tk, aI aB cI 6 fB, aI aWK cI 61 (u.1), aI aRE cI 61 (u.2)])) (va_A [oT aT aB aWK aRE aY aZ tk, aI aB cI 6 fB, aI aWK cI 61 fWK, aI aRE cI 61 fRE] sz)) 0 0 (va_A [oT aT aB aWK aRE aY aZ tk, aI aB cI 6 fB, aI aWK cI 61 fWK, aI aRE cI 61 fRE] sz) := by
  intro sz
  refine Met.ofW (cc := cX1_findRing) (maxL := 3) (ret := (some .boolean)) (by decide) rfl ?_
  intro p e s m args below meth c s₁ B hml hv
  obtain ⟨rfl, hsz, hP, hK, hD0⟩ := hv
  have hlocks := B.notSynchronized
  subst hsz
  have hD := hD0.self (sz := s.heap.size)
  have hl := lv_entry ([.ref aT, .int x1]) (n := 3) (Nat.le_of_ble_eq_true rfl)
  rw [lg_entry_eq]
  exact k_X1_findRing B.exec B.bytes hml (findClass_of_methodNamed B.named) (atoms_spec (ws := wsX1_findRing) B.pre) hK (fun q hq => Or.inr hq) (fun r fWK' fRE' H locs ls pc hd hz hp hP hD hS => W.zret B.exec B.bytes B.returns (m_bz hz) (fun t ht hW => ⟨⟨r, (fWK', fRE'), rfl, hp, by rw [ht]; exact hP, hD⟩, hS.F ht⟩) hS.2.2 hd) h s.heap [] _ hP hD va_S.rf hl

def wp_J6_bitCount_0f7a4 (x0 : Int32)  (post : Int32 → Prop) : Prop := (∀ v9 : Int32, v9 = (x0 - (((x0.toUInt32 >>> ((1 : Int32).toUInt32 &&& Int32.toUInt32 31)).toInt32) &&& (1431655765 : Int32))) → (∀ v23 : Int32, v23 = ((v9 &&& (858993459 : Int32)) + (((v9.toUInt32 >>> ((2 : Int32).toUInt32 &&& Int32.toUInt32 31)).toInt32) &&& (858993459 : Int32))) → (∀ v33 : Int32, v33 = ((v23 + ((v23.toUInt32 >>> ((4 : Int32).toUInt32 &&& Int32.toUInt32 31)).toInt32)) &&& (252645135 : Int32)) → (∀ v40 : Int32, v40 = (v33 + ((v33.toUInt32 >>> ((8 : Int32).toUInt32 &&& Int32.toUInt32 31)).toInt32)) → (∀ v47 : Int32, v47 = (v40 + ((v40.toUInt32 >>> ((16 : Int32).toUInt32 &&& Int32.toUInt32 31)).toInt32)) → post (v47 &&& (63 : Int32)))))))
abbrev rm_J6_bitCount_0f7a4 : Room := { frames := 0, cells := 0, slots := 0, locals := 0 }
theorem hv_J6_bitCount_0f7a4 : yJ6_bitCount_0f7a4.cls ≠ "java/lang/invoke/MethodHandle" ∧ yJ6_bitCount_0f7a4.cls ≠ "java/lang/invoke/VarHandle" ∧ (parseMethodDescriptor yJ6_bitCount_0f7a4.desc).map (fun d => d.parameters.length) = some 1 := by decide +kernel
set_option maxHeartbeats 4000000 in
set_option maxRecDepth 100000 in
theorem k_J6_bitCount_0f7a4 {p : Program} {l : Launch} {e : Env} {s : State} {m : MethodId} {args : Array Value} {below : List Frame} {meth : Method} {c : Code} {Q : State → Prop} {A : Nat → Prop} {dC : Nat → ClassId} {dI : Nat → Nat → Nat} {cI cJ cZ : ClassId} (hx : p.tables.exec = Jvm.exec) (hb : c.code = cJ6_bitCount_0f7a4) (hml : c.maxLocals = 1) (hown : s.vm.findClass RJ6 = some m.cls) (hts : ∀ w ∈ wsJ6_bitCount_0f7a4, w.before args s = true) (hK : va_K (dC, dI) vwCl (mTy cI cJ cZ) s) (hA : ∀ q, s.heap.size ≤ q → A q)  {x0 : Int32} {post : Int32 → Prop} (ret : ∀ (r : Int32) (H : Heap) (locs : List Loc) (ls : Array Slot) (pc : Nat), decode cJ6_bitCount_0f7a4 pc = .ok (.ireturn, 1) → post r → va_P (dC, dI) vwCl [] H → va_D A [] → va_S A s.heap H locs → W p l e rm_J6_bitCount_0f7a4 s m args below meth c H locs 0 0 Q (F0 m pc ls [.int r])) (h : wp_J6_bitCount_0f7a4 x0  post) : mW p l e rm_J6_bitCount_0f7a4 s m args below meth c 0 0 Q A (dC, dI) 1 [] [(0, .int x0)] 0 [] := by
  have k_265 := hts (.constant RJ6 265 (1431655765)) (List.mem_of_getElem? (i := 1) rfl)
  have k_266 := hts (.constant RJ6 266 (858993459)) (List.mem_of_getElem? (i := 2) rfl)
  have k_267 := hts (.constant RJ6 267 (252645135)) (List.mem_of_getElem? (i := 3) rfl)
  unfold wp_J6_bitCount_0f7a4 at h
  intro H locs ls hP hD hS hl
  refine lv_iload_n hx hb dJ6_bitCount_0f7a4_0 rfl (lv_at hl 0 rfl) ?_
  refine lv_iload_n hx hb dJ6_bitCount_0f7a4_1 rfl (lv_at hl 0 rfl) ?_
  refine lv_iconst (v := 1) hx hb dJ6_bitCount_0f7a4_2 (by decide) ?_
  refine lv_iushr hx hb dJ6_bitCount_0f7a4_3 rfl ?_
  refine lv_ldcw (v := 1431655765) hx hb hown k_265 dJ6_bitCount_0f7a4_4 ?_
  refine lv_iand hx hb dJ6_bitCount_0f7a4_7 ?_
  refine lv_isub hx hb dJ6_bitCount_0f7a4_8 ?_
  refine lv_topi (fun v9 ev9 => ?_)
  have h := h v9 ev9
  refine lv_istore_n (lv' := [(0, .int v9)]) hx hb dJ6_bitCount_0f7a4_9 rfl hl (by decide) rfl (fun ls hl => ?_)
  refine lv_iload_n hx hb dJ6_bitCount_0f7a4_10 rfl (lv_at hl 0 rfl) ?_
  refine lv_ldcw (v := 858993459) hx hb hown k_266 dJ6_bitCount_0f7a4_11 ?_
  refine lv_iand hx hb dJ6_bitCount_0f7a4_14 ?_
  refine lv_iload_n hx hb dJ6_bitCount_0f7a4_15 rfl (lv_at hl 0 rfl) ?_
  refine lv_iconst (v := 2) hx hb dJ6_bitCount_0f7a4_16 (by decide) ?_
  refine lv_iushr hx hb dJ6_bitCount_0f7a4_17 rfl ?_
  refine lv_ldcw (v := 858993459) hx hb hown k_266 dJ6_bitCount_0f7a4_18 ?_
  refine lv_iand hx hb dJ6_bitCount_0f7a4_21 ?_
  refine lv_iadd hx hb dJ6_bitCount_0f7a4_22 ?_
  refine lv_topi (fun v23 ev23 => ?_)
  have h := h v23 ev23
  refine lv_istore_n (lv' := [(0, .int v23)]) hx hb dJ6_bitCount_0f7a4_23 rfl hl (by decide) rfl (fun ls hl => ?_)
  refine lv_iload_n hx hb dJ6_bitCount_0f7a4_24 rfl (lv_at hl 0 rfl) ?_
  refine lv_iload_n hx hb dJ6_bitCount_0f7a4_25 rfl (lv_at hl 0 rfl) ?_
  refine lv_iconst (v := 4) hx hb dJ6_bitCount_0f7a4_26 (by decide) ?_
  refine lv_iushr hx hb dJ6_bitCount_0f7a4_27 rfl ?_
  refine lv_iadd hx hb dJ6_bitCount_0f7a4_28 ?_
  refine lv_ldcw (v := 252645135) hx hb hown k_267 dJ6_bitCount_0f7a4_29 ?_
  refine lv_iand hx hb dJ6_bitCount_0f7a4_32 ?_
  refine lv_topi (fun v33 ev33 => ?_)
  have h := h v33 ev33
  refine lv_istore_n (lv' := [(0, .int v33)]) hx hb dJ6_bitCount_0f7a4_33 rfl hl (by decide) rfl (fun ls hl => ?_)
  refine lv_iload_n hx hb dJ6_bitCount_0f7a4_34 rfl (lv_at hl 0 rfl) ?_
  refine lv_iload_n hx hb dJ6_bitCount_0f7a4_35 rfl (lv_at hl 0 rfl) ?_
  refine lv_bipush (v := 8) hx hb dJ6_bitCount_0f7a4_36 (by decide) ?_
  refine lv_iushr hx hb dJ6_bitCount_0f7a4_38 rfl ?_
  refine lv_iadd hx hb dJ6_bitCount_0f7a4_39 ?_
  refine lv_topi (fun v40 ev40 => ?_)
  have h := h v40 ev40
  refine lv_istore_n (lv' := [(0, .int v40)]) hx hb dJ6_bitCount_0f7a4_40 rfl hl (by decide) rfl (fun ls hl => ?_)
  refine lv_iload_n hx hb dJ6_bitCount_0f7a4_41 rfl (lv_at hl 0 rfl) ?_
  refine lv_iload_n hx hb dJ6_bitCount_0f7a4_42 rfl (lv_at hl 0 rfl) ?_
  refine lv_bipush (v := 16) hx hb dJ6_bitCount_0f7a4_43 (by decide) ?_
  refine lv_iushr hx hb dJ6_bitCount_0f7a4_45 rfl ?_
  refine lv_iadd hx hb dJ6_bitCount_0f7a4_46 ?_
  refine lv_topi (fun v47 ev47 => ?_)
  have h := h v47 ev47
  refine lv_istore_n (lv' := [(0, .int v47)]) hx hb dJ6_bitCount_0f7a4_47 rfl hl (by decide) rfl (fun ls hl => ?_)
  refine lv_iload_n hx hb dJ6_bitCount_0f7a4_48 rfl (lv_at hl 0 rfl) ?_
  refine lv_bipush (v := 63) hx hb dJ6_bitCount_0f7a4_49 (by decide) ?_
  refine lv_iand hx hb dJ6_bitCount_0f7a4_51 ?_
  exact ret _  H locs ls _ dJ6_bitCount_0f7a4_52 h hP hD hS
set_option maxHeartbeats 4000000 in
set_option maxRecDepth 100000 in
theorem c_J6_bitCount_0f7a4 {l : Launch} {dC : Nat → ClassId} {dI : Nat → Nat → Nat} {cI cJ cZ : ClassId}  {x0 : Int32} {post : Int32 → Prop} (h : wp_J6_bitCount_0f7a4 x0  post) : ∀ sz, Met l yJ6_bitCount_0f7a4 wsJ6_bitCount_0f7a4 rm_J6_bitCount_0f7a4 (mP (dC, dI) (mTy cI cJ cZ) [.int x0] [] sz) (va_Qi (fun (r : Int32) (u : Unit) => post r ) (mB (dC, dI) (va_A [] sz) (fun u => [])) (va_A [] sz)) 0 0 (va_A [] sz) := by
  intro sz
  refine Met.ofW (cc := cJ6_bitCount_0f7a4) (maxL := 1) (ret := (some .int)) (by decide) rfl ?_
  intro p e s m args below meth c s₁ B hml hv
  obtain ⟨rfl, hsz, hP, hK, hD0⟩ := hv
  have hlocks := B.notSynchronized
  subst hsz
  have hD := hD0.self (sz := s.heap.size)
  have hl := lv_entry ([.int x0]) (n := 1) (Nat.le_of_ble_eq_true rfl)
  rw [lg_entry_eq]
  exact k_J6_bitCount_0f7a4 B.exec B.bytes hml (findClass_of_methodNamed B.named) (atoms_spec (ws := wsJ6_bitCount_0f7a4) B.pre) hK (fun q hq => Or.inr hq) (fun r H locs ls pc hd hp hP hD hS => W.iret B.exec B.bytes B.returns (fun t ht hW => ⟨⟨r, (), rfl, hp, by rw [ht]; exact hP, hD⟩, hS.F ht⟩) hS.2.2 hd) h s.heap [] _ hP hD va_S.rf hl

def wp_X1_restart_b21 (x2 : Int32) (x3 : Int32) (tk : Int32) (fB : (Nat → Int32)) (post : Int32 → (Nat → Int32) → Prop)  : Prop := ∀ P21 : Int32 → (Nat → Int32) → Prop, (∀ (x3 : Int32) (fB : (Nat → Int32)), ((tk ≤ x3 → post tk fB) ∧ (¬ tk ≤ x3 → (vp_in x3 6 ∧ (∀ fB_41 : (Nat → Int32), fB_41 = upd fB x3.toNatClampNeg (x2 &&& (((1 : Int32) <<< (x3 &&& 31)) ^^^ (-1 : Int32))) → (∀ v42 : Int32, v42 = x3 + (1 : Int32) → P21 v42 fB_41))))) → P21 x3 fB) → P21 x3 fB
def wp_X1_restart (x1 : Int32) (tk : Int32) (fB : (Nat → Int32)) (post : Int32 → (Nat → Int32) → Prop) : Prop := (∀ v7 : Int32, v7 = (if (6 : Int32) < x1 then (6 : Int32) else x1) → (∀ v18 : Int32, v18 = (((1 : Int32) <<< (v7 &&& 31)) - (1 : Int32)) → wp_X1_restart_b21 v18 (0 : Int32) v7 fB post))
abbrev rm_X1_restart : Room := { frames := 1, cells := 0, slots := 0, locals := 26 }
theorem hv_X1_restart : yX1_restart.cls = RX1 ∧ yX1_restart.cls ≠ "java/lang/invoke/MethodHandle" ∧ yX1_restart.cls ≠ "java/lang/invoke/VarHandle" ∧ (parseMethodDescriptor yX1_restart.desc).map (fun d => d.parameters.length) = some 1 := by decide +kernel
set_option maxHeartbeats 4000000 in
set_option maxRecDepth 100000 in
theorem k_X1_restart {p : Program} {l : Launch} {e : Env} {s : State} {m : MethodId} {args : Array Value} {below : List Frame} {meth : Method} {c : Code} {Q : State → Prop} {A : Nat → Prop} {dC : Nat → ClassId} {dI : Nat → Nat → Nat} {cI cJ cZ : ClassId} (hx : p.tables.exec = Jvm.exec) (hb : c.code = cX1_restart) (hml : c.maxLocals = 4) (hown : s.vm.findClass RX1 = some m.cls) (hts : ∀ w ∈ wsX1_restart, w.before args s = true) (hK : va_K (dC, dI) vwCl (mTy cI cJ cZ) s) (hA : ∀ q, s.heap.size ≤ q → A q) {aT aB aWK aRE aY aZ : Nat} {tk : Int32} {fB : (Nat → Int32)} {x1 : Int32} {post : Int32 → (Nat → Int32) → Prop} (ret : ∀ (tk' : Int32) (fB' : (Nat → Int32)) (H : Heap) (locs : List Loc) (ls : Array Slot) (pc : Nat), decode cX1_restart pc = .ok (.return_, 1) → post tk' fB' → va_P (dC, dI) vwCl [oT aT aB aWK aRE aY aZ tk', aI aB cI 6 fB'] H → va_D A [oT aT aB aWK aRE aY aZ tk', aI aB cI 6 fB'] → va_S A s.heap H locs → W p l e rm_X1_restart s m args below meth c H locs 0 0 Q (F0 m pc ls [])) (h : wp_X1_restart x1 tk fB post) : mW p l e rm_X1_restart s m args below meth c 0 0 Q A (dC, dI) 4 [oT aT aB aWK aRE aY aZ tk, aI aB cI 6 fB] [(0, .ref aT), (1, .int x1)] 0 [] := by
  have in_X1 : ∀ w ∈ wsX10, w ∈ wsX1_restart := fun w hw => List.mem_cons_of_mem _ (List.mem_append_right _ hw)
  have kw_code_Lib_Math_min_name_Lib_Math_min_code_2_some_int_ := hts (.code Lib.Math.min.name Lib.Math.min.code 2 (some .int)) (List.mem_of_getElem? (i := 4) rfl)
  have k_38 := hts (.fieldLink RX1 38 "RingTasks$Task" "size" "I") (List.mem_of_getElem? (i := 5) rfl)
  have k_9 := hts (.fieldLink RX1 9 "RingTasks$Task" "behind" "[I") (List.mem_of_getElem? (i := 6) rfl)
  have kw_initialized_java_lang_Math_ := hts (.initialized "java/lang/Math") (List.mem_of_getElem? (i := 3) rfl)
  have k_32 := hts (.methodLink RX1 32 Lib.Math.min.name) (List.mem_of_getElem? (i := 1) rfl)
  have kw_static_Lib_Math_min_name := hts (.static Lib.Math.min.name) (List.mem_of_getElem? (i := 2) rfl)
  have B21 : ∀ (x2 : Int32) (x3 : Int32) (tk : Int32) (fB : (Nat → Int32)), wp_X1_restart_b21 x2 x3 tk fB post → mW p l e rm_X1_restart s m args below meth c 0 0 Q A (dC, dI) 4 [oT aT aB aWK aRE aY aZ tk, aI aB cI 6 fB] [(0, .ref aT), (2, .int x2), (3, .int x3)] 21 [] := by
    intro x2 x3 tk fB h
    unfold wp_X1_restart_b21 at h
    refine h (fun (x3 : Int32) (fB : (Nat → Int32)) => mW p l e rm_X1_restart s m args below meth c 0 0 Q A (dC, dI) 4 [oT aT aB aWK aRE aY aZ tk, aI aB cI 6 fB] [(0, .ref aT), (2, .int x2), (3, .int x3)] 21 []) ?_
    intro x3 fB h
    intro H locs ls hP hD hS hl
    refine lv_iload_n hx hb dX1_restart_21 rfl (lv_at hl 2 rfl) ?_
    refine lv_aload_n hx hb dX1_restart_22 rfl (lv_at hl 0 rfl) ?_
    refine va_get (D := (dC, dI)) (ci := 1) (v := .int tk) (C := RX1) (T := TX1) (N := 6) hx hb hts in_X1 hown hK hP 0 rfl rfl 0 (by decide) k_38 (fun _ h9 => h9) rfl dX1_restart_23 ?_
    refine lv_icmp_ge (tgt := 48) hx hb dX1_restart_26 (by decide) (fun q26 => ?_) (fun q26 => ?_)
    · have h := h.1 q26
      exact ret _ _ H locs ls _ dX1_restart_48 h hP hD hS
    · have h := h.2 q26
      refine lv_aload_n hx hb dX1_restart_29 rfl (lv_at hl 0 rfl) ?_
      refine va_get (D := (dC, dI)) (ci := 1) (v := .ref aB) (C := RX1) (T := TX1) (N := 6) hx hb hts in_X1 hown hK hP 0 rfl rfl 1 (by decide) k_9 (fun _ h9 => h9) rfl dX1_restart_30 ?_
      refine lv_iload_n hx hb dX1_restart_33 rfl (lv_at hl 2 rfl) ?_
      refine lv_iload_n hx hb dX1_restart_34 rfl (lv_at hl 1 rfl) ?_
      refine lv_iconst (v := 1) hx hb dX1_restart_35 (by decide) ?_
      refine lv_iload_n hx hb dX1_restart_36 rfl (lv_at hl 2 rfl) ?_
      refine lv_ishl hx hb dX1_restart_37 ?_
      refine lv_iconst (v := -1) hx hb dX1_restart_38 (by decide) ?_
      refine lv_ixor hx hb dX1_restart_39 ?_
      refine lv_iand hx hb dX1_restart_40 ?_
      refine va_iast (D := (dC, dI)) hx hb hK hP hD hS 1 0 rfl rfl h.1 dX1_restart_41 (fun H locs hP hD hS => ?_)
      obtain ⟨fB_41, efB_41⟩ : ∃ y, y = upd fB x3.toNatClampNeg (x2 &&& (((1 : Int32) <<< (x3 &&& 31)) ^^^ (-1 : Int32))) := ⟨_, rfl⟩
      have h := h.2 fB_41 efB_41
      have hP : va_P (dC, dI) vwCl [oT aT aB aWK aRE aY aZ tk, aI aB cI 6 fB_41] H := by rw [efB_41]; exact hP
      have hD : va_D A [oT aT aB aWK aRE aY aZ tk, aI aB cI 6 fB_41] := by rw [efB_41]; exact hD
      obtain ⟨v42, ev42⟩ : ∃ y : Int32, y = x3 + (1 : Int32) := ⟨_, rfl⟩
      have h := h v42 ev42
      refine lv_iinc (v := v42) (lv' := [(3, .int v42), (0, .ref aT), (2, .int x2)]) hx hb dX1_restart_42 hl (k := 2) rfl (by rw [ev42]; rfl) (by decide) rfl (fun ls hl => ?_)
      refine lv_goto (tgt := 21) hx hb dX1_restart_45 (by decide) ?_
      exact h H locs ls hP hD hS (lv_sub hl [1, 2, 0] rfl)
  unfold wp_X1_restart at h
  intro H locs ls hP hD hS hl
  refine lv_aload_n hx hb dX1_restart_0 rfl (lv_at hl 0 rfl) ?_
  refine lv_iload_n hx hb dX1_restart_1 rfl (lv_at hl 1 rfl) ?_
  refine lv_bipush (v := 6) hx hb dX1_restart_2 (by decide) ?_
  refine va_mmin hx hb (hml.trans hl.1.symm) hown k_32 kw_static_Lib_Math_min_name kw_initialized_java_lang_Math_ kw_code_Lib_Math_min_name_Lib_Math_min_code_2_some_int_ (Nat.le_of_ble_eq_true rfl) (Nat.le_of_ble_eq_true rfl) (Nat.le_of_ble_eq_true rfl) (Nat.le_of_ble_eq_true rfl) dX1_restart_4 ?_
  refine lv_topi (fun v7 ev7 => ?_)
  have h := h v7 ev7
  refine va_put (D := (dC, dI)) (ci := 1) (v := .int v7) (ty := .int) (C := RX1) (T := TX1) (N := 6) hx hb hts in_X1 tyX1 tyX1_ok nmX1 hown hK hP hD hS 0 rfl rfl 0 (by decide) k_38 (fun _ h9 => h9) rfl (by decide +kernel) rfl rfl (Nat.le_of_ble_eq_true rfl) dX1_restart_7 (fun H locs hP hD hS => ?_)
  have hP : va_P (dC, dI) vwCl [oT aT aB aWK aRE aY aZ v7, aI aB cI 6 fB] H := hP
  have hD : va_D A [oT aT aB aWK aRE aY aZ v7, aI aB cI 6 fB] := hD
  refine lv_iconst (v := 1) hx hb dX1_restart_10 (by decide) ?_
  refine lv_aload_n hx hb dX1_restart_11 rfl (lv_at hl 0 rfl) ?_
  refine va_get (D := (dC, dI)) (ci := 1) (v := .int v7) (C := RX1) (T := TX1) (N := 6) hx hb hts in_X1 hown hK hP 0 rfl rfl 0 (by decide) k_38 (fun _ h9 => h9) rfl dX1_restart_12 ?_
  refine lv_ishl hx hb dX1_restart_15 ?_
  refine lv_iconst (v := 1) hx hb dX1_restart_16 (by decide) ?_
  refine lv_isub hx hb dX1_restart_17 ?_
  refine lv_topi (fun v18 ev18 => ?_)
  have h := h v18 ev18
  refine lv_istore_n (lv' := [(2, .int v18), (0, .ref aT), (1, .int x1)]) hx hb dX1_restart_18 rfl hl (by decide) rfl (fun ls hl => ?_)
  refine lv_iconst (v := 0) hx hb dX1_restart_19 (by decide) ?_
  refine lv_istore_n (lv' := [(3, .int (0 : Int32)), (2, .int v18), (0, .ref aT), (1, .int x1)]) hx hb dX1_restart_20 rfl hl (by decide) rfl (fun ls hl => ?_)
  exact B21 _ _ _ _ h H locs ls hP hD hS (lv_sub hl [2, 1, 0] rfl)
set_option maxHeartbeats 4000000 in
set_option maxRecDepth 100000 in
theorem c_X1_restart {l : Launch} {dC : Nat → ClassId} {dI : Nat → Nat → Nat} {cI cJ cZ : ClassId} {aT aB aWK aRE aY aZ : Nat} {tk : Int32} {fB : (Nat → Int32)} {x1 : Int32} {post : Int32 → (Nat → Int32) → Prop} (h : wp_X1_restart x1 tk fB post) : ∀ sz, Met l yX1_restart wsX1_restart rm_X1_restart (mP (dC, dI) (mTy cI cJ cZ) [.ref aT, .int x1] [oT aT aB aWK aRE aY aZ tk, aI aB cI 6 fB] sz) (va_Qv (fun (u : Int32 × (Nat → Int32)) => post (u.1) (u.2)) (mB (dC, dI) (va_A [oT aT aB aWK aRE aY aZ tk, aI aB cI 6 fB] sz) (fun u => [oT aT aB aWK aRE aY aZ (u.1), aI aB cI 6 (u.2)])) (va_A [oT aT aB aWK aRE aY aZ tk, aI aB cI 6 fB] sz)) 0 0 (va_A [oT aT aB aWK aRE aY aZ tk, aI aB cI 6 fB] sz) := by
  intro sz
  refine Met.ofW (cc := cX1_restart) (maxL := 4) (ret := none) (by decide) rfl ?_
  intro p e s m args below meth c s₁ B hml hv
  obtain ⟨rfl, hsz, hP, hK, hD0⟩ := hv
  have hlocks := B.notSynchronized
  subst hsz
  have hD := hD0.self (sz := s.heap.size)
  have hl := lv_entry ([.ref aT, .int x1]) (n := 4) (Nat.le_of_ble_eq_true rfl)
  rw [lg_entry_eq]
  exact k_X1_restart B.exec B.bytes hml (findClass_of_methodNamed B.named) (atoms_spec (ws := wsX1_restart) B.pre) hK (fun q hq => Or.inr hq) (fun tk' fB' H locs ls pc hd hp hP hD hS => W.vret B.exec B.bytes B.returns (fun t ht hW => ⟨⟨(tk', fB'), rfl, hp, by rw [ht]; exact hP, hD⟩, hS.F ht⟩) hS.2.2 hd) h s.heap [] _ hP hD va_S.rf hl

def wp_X1_decide (x1 : Int32) (x2 : Int32) (x3 : Int32) (tk : Int32) (fB : (Nat → Int32)) (post : (Nat → Int32) → Prop) : Prop := wp_X1_has x1 tk (fun (r2 : Int32) => ((r2 = (0 : Int32) → post fB) ∧ (¬ r2 = (0 : Int32) → wp_X1_has x2 tk (fun (r10 : Int32) => ((r10 = (0 : Int32) → post fB) ∧ (¬ r10 = (0 : Int32) → ((x3 = (0 : Int32) → (vp_in x1 6 ∧ (vp_in x1 6 ∧ (∀ fB_50 : (Nat → Int32), fB_50 = upd fB x1.toNatClampNeg ((fB x1.toNatClampNeg) &&& (((1 : Int32) <<< (x2 &&& 31)) ^^^ (-1 : Int32))) → post fB_50)))) ∧ (¬ x3 = (0 : Int32) → (vp_in x1 6 ∧ (vp_in x1 6 ∧ (∀ fB_50 : (Nat → Int32), fB_50 = upd fB x1.toNatClampNeg ((fB x1.toNatClampNeg) ||| ((1 : Int32) <<< (x2 &&& 31))) → post fB_50)))))))))))
abbrev rm_X1_decide : Room := { frames := 1, cells := 0, slots := 0, locals := 21 }
theorem hv_X1_decide : yX1_decide.cls = RX1 ∧ yX1_decide.cls ≠ "java/lang/invoke/MethodHandle" ∧ yX1_decide.cls ≠ "java/lang/invoke/VarHandle" ∧ (parseMethodDescriptor yX1_decide.desc).map (fun d => d.parameters.length) = some 3 := by decide +kernel
set_option maxHeartbeats 4000000 in
set_option maxRecDepth 100000 in
theorem k_X1_decide {p : Program} {l : Launch} {e : Env} {s : State} {m : MethodId} {args : Array Value} {below : List Frame} {meth : Method} {c : Code} {Q : State → Prop} {A : Nat → Prop} {dC : Nat → ClassId} {dI : Nat → Nat → Nat} {cI cJ cZ : ClassId} (hx : p.tables.exec = Jvm.exec) (hb : c.code = cX1_decide) (hml : c.maxLocals = 4) (hown : s.vm.findClass RX1 = some m.cls) (hts : ∀ w ∈ wsX1_decide, w.before args s = true) (hK : va_K (dC, dI) vwCl (mTy cI cJ cZ) s) (hA : ∀ q, s.heap.size ≤ q → A q) {aT aB aWK aRE aY aZ : Nat} {tk : Int32} {fB : (Nat → Int32)} {x1 : Int32} {x2 : Int32} {x3 : Int32} {post : (Nat → Int32) → Prop} (ret : ∀ (fB' : (Nat → Int32)) (H : Heap) (locs : List Loc) (ls : Array Slot) (pc : Nat), decode cX1_decide pc = .ok (.return_, 1) → post fB' → va_P (dC, dI) vwCl [oT aT aB aWK aRE aY aZ tk, aI aB cI 6 fB'] H → va_D A [oT aT aB aWK aRE aY aZ tk, aI aB cI 6 fB'] → va_S A s.heap H locs → W p l e rm_X1_decide s m args below meth c H locs 0 0 Q (F0 m pc ls [])) (h : wp_X1_decide x1 x2 x3 tk fB post) : mW p l e rm_X1_decide s m args below meth c 0 0 Q A (dC, dI) 4 [oT aT aB aWK aRE aY aZ tk, aI aB cI 6 fB] [(0, .ref aT), (1, .int x1), (2, .int x2), (3, .int x3)] 0 [] := by
  have in_X1 : ∀ w ∈ wsX10, w ∈ wsX1_decide := fun w hw => List.mem_cons_of_mem _ (List.mem_append_right _ hw)
  have k_9 := hts (.fieldLink RX1 9 "RingTasks$Task" "behind" "[I") (List.mem_of_getElem? (i := 1) rfl)
  unfold wp_X1_decide at h
  intro H locs ls hP hD hS hl
  refine lv_aload_n hx hb dX1_decide_0 rfl (lv_at hl 0 rfl) ?_
  refine lv_iload_n hx hb dX1_decide_1 rfl (lv_at hl 1 rfl) ?_
  refine mVi (wr := [aI aB cI 6 fB]) (As := [.int x1]) (rest := []) ⟨hx, hb, hml, hown, hts⟩ (c_X1_has (l := l) (dC := dC) (dI := dI) (cI := cI) (cJ := cJ) (cZ := cZ) (aT := aT) (aB := aB) (aWK := aWK) (aRE := aRE) (aY := aY) (aZ := aZ) h) (cwV 1 hts gX1_decide_X1_has rfl rfl rfl hv_X1_has ⟨Nat.le_of_ble_eq_true rfl, Nat.le_of_ble_eq_true rfl⟩) hK hP hD hS hA [0] [1] rfl rfl rfl rfl (by decide) 1 rfl rfl rfl rfl hl.1 rfl (Nat.le_of_ble_eq_true rfl) ⟨Nat.zero_le _, Nat.zero_le _⟩ dX1_decide_2 (fun r2 u2 H locs h hP hD hS => ?_)
  have hP : va_P (dC, dI) vwCl [oT aT aB aWK aRE aY aZ tk, aI aB cI 6 fB] H := hP.sub [1, 0] rfl
  have hD : va_D A [oT aT aB aWK aRE aY aZ tk, aI aB cI 6 fB] := hD.sub [1, 0] rfl rfl
  refine lv_if_eq (tgt := 51) hx hb dX1_decide_5 (by decide) (fun q5 => ?_) (fun q5 => ?_)
  · have h := h.1 q5
    exact ret _ H locs ls _ dX1_decide_51 h hP hD hS
  · have h := h.2 q5
    refine lv_aload_n hx hb dX1_decide_8 rfl (lv_at hl 0 rfl) ?_
    refine lv_iload_n hx hb dX1_decide_9 rfl (lv_at hl 2 rfl) ?_
    refine mVi (wr := [aI aB cI 6 fB]) (As := [.int x2]) (rest := []) ⟨hx, hb, hml, hown, hts⟩ (c_X1_has (l := l) (dC := dC) (dI := dI) (cI := cI) (cJ := cJ) (cZ := cZ) (aT := aT) (aB := aB) (aWK := aWK) (aRE := aRE) (aY := aY) (aZ := aZ) h) (cwV 1 hts gX1_decide_X1_has rfl rfl rfl hv_X1_has ⟨Nat.le_of_ble_eq_true rfl, Nat.le_of_ble_eq_true rfl⟩) hK hP hD hS hA [0] [1] rfl rfl rfl rfl (by decide) 1 rfl rfl rfl rfl hl.1 rfl (Nat.le_of_ble_eq_true rfl) ⟨Nat.zero_le _, Nat.zero_le _⟩ dX1_decide_10 (fun r10 u10 H locs h hP hD hS => ?_)
    have hP : va_P (dC, dI) vwCl [oT aT aB aWK aRE aY aZ tk, aI aB cI 6 fB] H := hP.sub [1, 0] rfl
    have hD : va_D A [oT aT aB aWK aRE aY aZ tk, aI aB cI 6 fB] := hD.sub [1, 0] rfl rfl
    refine lv_if_eq (tgt := 51) hx hb dX1_decide_13 (by decide) (fun q13 => ?_) (fun q13 => ?_)
    · have h := h.1 q13
      exact ret _ H locs ls _ dX1_decide_51 h hP hD hS
    · have h := h.2 q13
      refine lv_aload_n hx hb dX1_decide_16 rfl (lv_at hl 0 rfl) ?_
      refine va_get (D := (dC, dI)) (ci := 1) (v := .ref aB) (C := RX1) (T := TX1) (N := 6) hx hb hts in_X1 hown hK hP 0 rfl rfl 1 (by decide) k_9 (fun _ h9 => h9) rfl dX1_decide_17 ?_
      refine lv_iload_n hx hb dX1_decide_20 rfl (lv_at hl 1 rfl) ?_
      refine lv_iload_n hx hb dX1_decide_21 rfl (lv_at hl 3 rfl) ?_
      refine lv_if_eq (tgt := 38) hx hb dX1_decide_22 (by decide) (fun q22 => ?_) (fun q22 => ?_)
      · have h := h.1 q22
        refine lv_aload_n hx hb dX1_decide_38 rfl (lv_at hl 0 rfl) ?_
        refine va_get (D := (dC, dI)) (ci := 1) (v := .ref aB) (C := RX1) (T := TX1) (N := 6) hx hb hts in_X1 hown hK hP 0 rfl rfl 1 (by decide) k_9 (fun _ h9 => h9) rfl dX1_decide_39 ?_
        refine lv_iload_n hx hb dX1_decide_42 rfl (lv_at hl 1 rfl) ?_
        refine va_iald (D := (dC, dI)) hx hb hK hP 1 0 rfl rfl h.1 dX1_decide_43 ?_
        have h := h.2
        refine lv_iconst (v := 1) hx hb dX1_decide_44 (by decide) ?_
        refine lv_iload_n hx hb dX1_decide_45 rfl (lv_at hl 2 rfl) ?_
        refine lv_ishl hx hb dX1_decide_46 ?_
        refine lv_iconst (v := -1) hx hb dX1_decide_47 (by decide) ?_
        refine lv_ixor hx hb dX1_decide_48 ?_
        refine lv_iand hx hb dX1_decide_49 ?_
        refine va_iast (D := (dC, dI)) hx hb hK hP hD hS 1 0 rfl rfl h.1 dX1_decide_50 (fun H locs hP hD hS => ?_)
        obtain ⟨fB_50, efB_50⟩ : ∃ y, y = upd fB x1.toNatClampNeg ((fB x1.toNatClampNeg) &&& (((1 : Int32) <<< (x2 &&& 31)) ^^^ (-1 : Int32))) := ⟨_, rfl⟩
        have h := h.2 fB_50 efB_50
        have hP : va_P (dC, dI) vwCl [oT aT aB aWK aRE aY aZ tk, aI aB cI 6 fB_50] H := by rw [efB_50]; exact hP
        have hD : va_D A [oT aT aB aWK aRE aY aZ tk, aI aB cI 6 fB_50] := by rw [efB_50]; exact hD
        exact ret _ H locs ls _ dX1_decide_51 h hP hD hS
      · have h := h.2 q22
        refine lv_aload_n hx hb dX1_decide_25 rfl (lv_at hl 0 rfl) ?_
        refine va_get (D := (dC, dI)) (ci := 1) (v := .ref aB) (C := RX1) (T := TX1) (N := 6) hx hb hts in_X1 hown hK hP 0 rfl rfl 1 (by decide) k_9 (fun _ h9 => h9) rfl dX1_decide_26 ?_
        refine lv_iload_n hx hb dX1_decide_29 rfl (lv_at hl 1 rfl) ?_
        refine va_iald (D := (dC, dI)) hx hb hK hP 1 0 rfl rfl h.1 dX1_decide_30 ?_
        have h := h.2
        refine lv_iconst (v := 1) hx hb dX1_decide_31 (by decide) ?_
        refine lv_iload_n hx hb dX1_decide_32 rfl (lv_at hl 2 rfl) ?_
        refine lv_ishl hx hb dX1_decide_33 ?_
        refine lv_ior hx hb dX1_decide_34 ?_
        refine lv_goto (tgt := 50) hx hb dX1_decide_35 (by decide) ?_
        refine va_iast (D := (dC, dI)) hx hb hK hP hD hS 1 0 rfl rfl h.1 dX1_decide_50 (fun H locs hP hD hS => ?_)
        obtain ⟨fB_50, efB_50⟩ : ∃ y, y = upd fB x1.toNatClampNeg ((fB x1.toNatClampNeg) ||| ((1 : Int32) <<< (x2 &&& 31))) := ⟨_, rfl⟩
        have h := h.2 fB_50 efB_50
        have hP : va_P (dC, dI) vwCl [oT aT aB aWK aRE aY aZ tk, aI aB cI 6 fB_50] H := by rw [efB_50]; exact hP
        have hD : va_D A [oT aT aB aWK aRE aY aZ tk, aI aB cI 6 fB_50] := by rw [efB_50]; exact hD
        exact ret _ H locs ls _ dX1_decide_51 h hP hD hS
set_option maxHeartbeats 4000000 in
set_option maxRecDepth 100000 in
theorem c_X1_decide {l : Launch} {dC : Nat → ClassId} {dI : Nat → Nat → Nat} {cI cJ cZ : ClassId} {aT aB aWK aRE aY aZ : Nat} {tk : Int32} {fB : (Nat → Int32)} {x1 : Int32} {x2 : Int32} {x3 : Int32} {post : (Nat → Int32) → Prop} (h : wp_X1_decide x1 x2 x3 tk fB post) : ∀ sz, Met l yX1_decide wsX1_decide rm_X1_decide (mP (dC, dI) (mTy cI cJ cZ) [.ref aT, .int x1, .int x2, .int x3] [oT aT aB aWK aRE aY aZ tk, aI aB cI 6 fB] sz) (va_Qv (fun (u : (Nat → Int32)) => post u) (mB (dC, dI) (va_A [oT aT aB aWK aRE aY aZ tk, aI aB cI 6 fB] sz) (fun u => [oT aT aB aWK aRE aY aZ tk, aI aB cI 6 u])) (va_A [oT aT aB aWK aRE aY aZ tk, aI aB cI 6 fB] sz)) 0 0 (va_A [oT aT aB aWK aRE aY aZ tk, aI aB cI 6 fB] sz) := by
  intro sz
  refine Met.ofW (cc := cX1_decide) (maxL := 4) (ret := none) (by decide) rfl ?_
  intro p e s m args below meth c s₁ B hml hv
  obtain ⟨rfl, hsz, hP, hK, hD0⟩ := hv
  have hlocks := B.notSynchronized
  subst hsz
  have hD := hD0.self (sz := s.heap.size)
  have hl := lv_entry ([.ref aT, .int x1, .int x2, .int x3]) (n := 4) (Nat.le_of_ble_eq_true rfl)
  rw [lg_entry_eq]
  exact k_X1_decide B.exec B.bytes hml (findClass_of_methodNamed B.named) (atoms_spec (ws := wsX1_decide) B.pre) hK (fun q hq => Or.inr hq) (fun fB' H locs ls pc hd hp hP hD hS => W.vret B.exec B.bytes B.returns (fun t ht hW => ⟨⟨fB', rfl, hp, by rw [ht]; exact hP, hD⟩, hS.F ht⟩) hS.2.2 hd) h s.heap [] _ hP hD va_S.rf hl

def wp_X1_pairCount_b4 (x1 : Int32) (x2 : Int32) (tk : Int32) (fB : (Nat → Int32)) (post : Int32 → Prop)  : Prop := ∀ P4 : Int32 → Int32 → Prop, (∀ (x1 : Int32) (x2 : Int32), ((tk ≤ x2 → post x1) ∧ (¬ tk ≤ x2 → (vp_in x2 6 ∧ wp_J6_bitCount_0f7a4 (fB x2.toNatClampNeg) (fun (r19 : Int32) => (∀ v23 : Int32, v23 = (x1 + r19) → (∀ v24 : Int32, v24 = x2 + (1 : Int32) → P4 v23 v24)))))) → P4 x1 x2) → P4 x1 x2
def wp_X1_pairCount  (tk : Int32) (fB : (Nat → Int32)) (post : Int32 → Prop) : Prop := wp_X1_pairCount_b4 (0 : Int32) (0 : Int32) tk fB post
abbrev rm_X1_pairCount : Room := { frames := 1, cells := 0, slots := 0, locals := 20 }
theorem hv_X1_pairCount : yX1_pairCount.cls = RX1 ∧ yX1_pairCount.cls ≠ "java/lang/invoke/MethodHandle" ∧ yX1_pairCount.cls ≠ "java/lang/invoke/VarHandle" ∧ (parseMethodDescriptor yX1_pairCount.desc).map (fun d => d.parameters.length) = some 0 := by decide +kernel
set_option maxHeartbeats 4000000 in
set_option maxRecDepth 100000 in
theorem k_X1_pairCount {p : Program} {l : Launch} {e : Env} {s : State} {m : MethodId} {args : Array Value} {below : List Frame} {meth : Method} {c : Code} {Q : State → Prop} {A : Nat → Prop} {dC : Nat → ClassId} {dI : Nat → Nat → Nat} {cI cJ cZ : ClassId} (hx : p.tables.exec = Jvm.exec) (hb : c.code = cX1_pairCount) (hml : c.maxLocals = 3) (hown : s.vm.findClass RX1 = some m.cls) (hts : ∀ w ∈ wsX1_pairCount, w.before args s = true) (hK : va_K (dC, dI) vwCl (mTy cI cJ cZ) s) (hA : ∀ q, s.heap.size ≤ q → A q) {aT aB aWK aRE aY aZ : Nat} {tk : Int32} {fB : (Nat → Int32)}  {post : Int32 → Prop} (ret : ∀ (r : Int32) (H : Heap) (locs : List Loc) (ls : Array Slot) (pc : Nat), decode cX1_pairCount pc = .ok (.ireturn, 1) → post r → va_P (dC, dI) vwCl [oT aT aB aWK aRE aY aZ tk, aI aB cI 6 fB] H → va_D A [oT aT aB aWK aRE aY aZ tk, aI aB cI 6 fB] → va_S A s.heap H locs → W p l e rm_X1_pairCount s m args below meth c H locs 0 0 Q (F0 m pc ls [.int r])) (h : wp_X1_pairCount  tk fB post) : mW p l e rm_X1_pairCount s m args below meth c 0 0 Q A (dC, dI) 3 [oT aT aB aWK aRE aY aZ tk, aI aB cI 6 fB] [(0, .ref aT)] 0 [] := by
  have in_X1 : ∀ w ∈ wsX10, w ∈ wsX1_pairCount := fun w hw => List.mem_cons_of_mem _ (List.mem_append_right _ hw)
  have k_38 := hts (.fieldLink RX1 38 "RingTasks$Task" "size" "I") (List.mem_of_getElem? (i := 1) rfl)
  have k_9 := hts (.fieldLink RX1 9 "RingTasks$Task" "behind" "[I") (List.mem_of_getElem? (i := 2) rfl)
  have B4 : ∀ (x1 : Int32) (x2 : Int32), wp_X1_pairCount_b4 x1 x2 tk fB post → mW p l e rm_X1_pairCount s m args below meth c 0 0 Q A (dC, dI) 3 [oT aT aB aWK aRE aY aZ tk, aI aB cI 6 fB] [(0, .ref aT), (1, .int x1), (2, .int x2)] 4 [] := by
    intro x1 x2 h
    unfold wp_X1_pairCount_b4 at h
    refine h (fun (x1 : Int32) (x2 : Int32) => mW p l e rm_X1_pairCount s m args below meth c 0 0 Q A (dC, dI) 3 [oT aT aB aWK aRE aY aZ tk, aI aB cI 6 fB] [(0, .ref aT), (1, .int x1), (2, .int x2)] 4 []) ?_
    intro x1 x2 h
    intro H locs ls hP hD hS hl
    refine lv_iload_n hx hb dX1_pairCount_4 rfl (lv_at hl 2 rfl) ?_
    refine lv_aload_n hx hb dX1_pairCount_5 rfl (lv_at hl 0 rfl) ?_
    refine va_get (D := (dC, dI)) (ci := 1) (v := .int tk) (C := RX1) (T := TX1) (N := 6) hx hb hts in_X1 hown hK hP 0 rfl rfl 0 (by decide) k_38 (fun _ h9 => h9) rfl dX1_pairCount_6 ?_
    refine lv_icmp_ge (tgt := 30) hx hb dX1_pairCount_9 (by decide) (fun q9 => ?_) (fun q9 => ?_)
    · have h := h.1 q9
      refine lv_iload_n hx hb dX1_pairCount_30 rfl (lv_at hl 1 rfl) ?_
      exact ret _  H locs ls _ dX1_pairCount_31 h hP hD hS
    · have h := h.2 q9
      refine lv_iload_n hx hb dX1_pairCount_12 rfl (lv_at hl 1 rfl) ?_
      refine lv_aload_n hx hb dX1_pairCount_13 rfl (lv_at hl 0 rfl) ?_
      refine va_get (D := (dC, dI)) (ci := 1) (v := .ref aB) (C := RX1) (T := TX1) (N := 6) hx hb hts in_X1 hown hK hP 0 rfl rfl 1 (by decide) k_9 (fun _ h9 => h9) rfl dX1_pairCount_14 ?_
      refine lv_iload_n hx hb dX1_pairCount_17 rfl (lv_at hl 2 rfl) ?_
      refine va_iald (D := (dC, dI)) hx hb hK hP 1 0 rfl rfl h.1 dX1_pairCount_18 ?_
      have h := h.2
      refine mSi (wr := [oT aT aB aWK aRE aY aZ tk, aI aB cI 6 fB]) (As := [.int (fB x2.toNatClampNeg)]) (rest := [.int x1]) ⟨hx, hb, hml, hown, hts⟩ (c_J6_bitCount_0f7a4 (l := l) (dC := dC) (dI := dI) (cI := cI) (cJ := cJ) (cZ := cZ)  h) (va_cwS 1 hts gX1_pairCount_J6_bitCount_0f7a4 rfl rfl rfl hv_J6_bitCount_0f7a4 ⟨Nat.le_of_ble_eq_true rfl, Nat.le_of_ble_eq_true rfl⟩) hK hP hD hS hA [] [0, 1] rfl rfl rfl rfl (by decide) rfl hl.1 rfl (Nat.le_of_ble_eq_true rfl) ⟨Nat.zero_le _, Nat.zero_le _⟩ dX1_pairCount_19 (fun r19 u19 H locs h hP hD hS => ?_)
      have hP : va_P (dC, dI) vwCl [oT aT aB aWK aRE aY aZ tk, aI aB cI 6 fB] H := hP.sub [0, 1] rfl
      have hD : va_D A [oT aT aB aWK aRE aY aZ tk, aI aB cI 6 fB] := hD.sub [0, 1] rfl rfl
      refine lv_iadd hx hb dX1_pairCount_22 ?_
      refine lv_topi (fun v23 ev23 => ?_)
      have h := h v23 ev23
      refine lv_istore_n (lv' := [(1, .int v23), (0, .ref aT), (2, .int x2)]) hx hb dX1_pairCount_23 rfl hl (by decide) rfl (fun ls hl => ?_)
      obtain ⟨v24, ev24⟩ : ∃ y : Int32, y = x2 + (1 : Int32) := ⟨_, rfl⟩
      have h := h v24 ev24
      refine lv_iinc (v := v24) (lv' := [(2, .int v24), (1, .int v23), (0, .ref aT)]) hx hb dX1_pairCount_24 hl (k := 2) rfl (by rw [ev24]; rfl) (by decide) rfl (fun ls hl => ?_)
      refine lv_goto (tgt := 4) hx hb dX1_pairCount_27 (by decide) ?_
      exact h H locs ls hP hD hS (lv_sub hl [2, 1, 0] rfl)
  unfold wp_X1_pairCount at h
  intro H locs ls hP hD hS hl
  refine lv_iconst (v := 0) hx hb dX1_pairCount_0 (by decide) ?_
  refine lv_istore_n (lv' := [(1, .int (0 : Int32)), (0, .ref aT)]) hx hb dX1_pairCount_1 rfl hl (by decide) rfl (fun ls hl => ?_)
  refine lv_iconst (v := 0) hx hb dX1_pairCount_2 (by decide) ?_
  refine lv_istore_n (lv' := [(2, .int (0 : Int32)), (1, .int (0 : Int32)), (0, .ref aT)]) hx hb dX1_pairCount_3 rfl hl (by decide) rfl (fun ls hl => ?_)
  exact B4 _ _ h H locs ls hP hD hS (lv_sub hl [2, 1, 0] rfl)
set_option maxHeartbeats 4000000 in
set_option maxRecDepth 100000 in
theorem c_X1_pairCount {l : Launch} {dC : Nat → ClassId} {dI : Nat → Nat → Nat} {cI cJ cZ : ClassId} {aT aB aWK aRE aY aZ : Nat} {tk : Int32} {fB : (Nat → Int32)}  {post : Int32 → Prop} (h : wp_X1_pairCount  tk fB post) : ∀ sz, Met l yX1_pairCount wsX1_pairCount rm_X1_pairCount (mP (dC, dI) (mTy cI cJ cZ) [.ref aT] [oT aT aB aWK aRE aY aZ tk, aI aB cI 6 fB] sz) (va_Qi (fun (r : Int32) (u : Unit) => post r ) (mB (dC, dI) (va_A [oT aT aB aWK aRE aY aZ tk, aI aB cI 6 fB] sz) (fun u => [oT aT aB aWK aRE aY aZ tk, aI aB cI 6 fB])) (va_A [oT aT aB aWK aRE aY aZ tk, aI aB cI 6 fB] sz)) 0 0 (va_A [oT aT aB aWK aRE aY aZ tk, aI aB cI 6 fB] sz) := by
  intro sz
  refine Met.ofW (cc := cX1_pairCount) (maxL := 3) (ret := (some .int)) (by decide) rfl ?_
  intro p e s m args below meth c s₁ B hml hv
  obtain ⟨rfl, hsz, hP, hK, hD0⟩ := hv
  have hlocks := B.notSynchronized
  subst hsz
  have hD := hD0.self (sz := s.heap.size)
  have hl := lv_entry ([.ref aT]) (n := 3) (Nat.le_of_ble_eq_true rfl)
  rw [lg_entry_eq]
  exact k_X1_pairCount B.exec B.bytes hml (findClass_of_methodNamed B.named) (atoms_spec (ws := wsX1_pairCount) B.pre) hK (fun q hq => Or.inr hq) (fun r H locs ls pc hd hp hP hD hS => W.iret B.exec B.bytes B.returns (fun t ht hW => ⟨⟨r, (), rfl, hp, by rw [ht]; exact hP, hD⟩, hS.F ht⟩) hS.2.2 hd) h s.heap [] _ hP hD va_S.rf hl

def wp_J7_fill_d0a16_b6 (x1 : Int64) (x3 : Int32) (x4 : Int32) (nA : Nat) (fA : (Nat → Int64)) (post : (Nat → Int64) → Prop)  : Prop := ∀ P6 : Int32 → (Nat → Int64) → Prop, (∀ (x3 : Int32) (fA : (Nat → Int64)), ((x4 ≤ x3 → post fA) ∧ (¬ x4 ≤ x3 → (vp_in x3 nA ∧ (∀ fA_15 : (Nat → Int64), fA_15 = vp_updL fA x3.toNatClampNeg x1 → (∀ v16 : Int32, v16 = x3 + (1 : Int32) → P6 v16 fA_15))))) → P6 x3 fA) → P6 x3 fA
def wp_J7_fill_d0a16 (x1 : Int64) (nA : Nat) (fA : (Nat → Int64)) (post : (Nat → Int64) → Prop) : Prop := (∀ v4 : Int32, v4 = (Int32.ofNat nA) → wp_J7_fill_d0a16_b6 x1 (0 : Int32) v4 nA fA post)
abbrev rm_J7_fill_d0a16 : Room := { frames := 0, cells := 0, slots := 0, locals := 0 }
theorem hv_J7_fill_d0a16 : yJ7_fill_d0a16.cls ≠ "java/lang/invoke/MethodHandle" ∧ yJ7_fill_d0a16.cls ≠ "java/lang/invoke/VarHandle" ∧ (parseMethodDescriptor yJ7_fill_d0a16.desc).map (fun d => d.parameters.length) = some 2 := by decide +kernel
set_option maxHeartbeats 4000000 in
set_option maxRecDepth 100000 in
theorem k_J7_fill_d0a16 {p : Program} {l : Launch} {e : Env} {s : State} {m : MethodId} {args : Array Value} {below : List Frame} {meth : Method} {c : Code} {Q : State → Prop} {A : Nat → Prop} {dC : Nat → ClassId} {dI : Nat → Nat → Nat} {cI cJ cZ : ClassId} (hx : p.tables.exec = Jvm.exec) (hb : c.code = cJ7_fill_d0a16) (hml : c.maxLocals = 5) (hown : s.vm.findClass RJ7 = some m.cls) (hts : ∀ w ∈ wsJ7_fill_d0a16, w.before args s = true) (hK : va_K (dC, dI) vwCl (mTy cI cJ cZ) s) (hA : ∀ q, s.heap.size ≤ q → A q) {aA : Nat} {nA : Nat} {fA : (Nat → Int64)} {x1 : Int64} {post : (Nat → Int64) → Prop} (ret : ∀ (fA' : (Nat → Int64)) (H : Heap) (locs : List Loc) (ls : Array Slot) (pc : Nat), decode cJ7_fill_d0a16 pc = .ok (.return_, 1) → post fA' → va_P (dC, dI) vwCl [aJ aA cJ nA fA'] H → va_D A [aJ aA cJ nA fA'] → va_S A s.heap H locs → W p l e rm_J7_fill_d0a16 s m args below meth c H locs 0 0 Q (F0 m pc ls [])) (h : wp_J7_fill_d0a16 x1 nA fA post) : mW p l e rm_J7_fill_d0a16 s m args below meth c 0 0 Q A (dC, dI) 5 [aJ aA cJ nA fA] [(0, .ref aA), (1, .long x1)] 0 [] := by
  have B6 : ∀ (x1 : Int64) (x3 : Int32) (x4 : Int32) (fA : (Nat → Int64)), wp_J7_fill_d0a16_b6 x1 x3 x4 nA fA post → mW p l e rm_J7_fill_d0a16 s m args below meth c 0 0 Q A (dC, dI) 5 [aJ aA cJ nA fA] [(0, .ref aA), (1, .long x1), (3, .int x3), (4, .int x4)] 6 [] := by
    intro x1 x3 x4 fA h
    unfold wp_J7_fill_d0a16_b6 at h
    refine h (fun (x3 : Int32) (fA : (Nat → Int64)) => mW p l e rm_J7_fill_d0a16 s m args below meth c 0 0 Q A (dC, dI) 5 [aJ aA cJ nA fA] [(0, .ref aA), (1, .long x1), (3, .int x3), (4, .int x4)] 6 []) ?_
    intro x3 fA h
    intro H locs ls hP hD hS hl
    refine lv_iload_n hx hb dJ7_fill_d0a16_6 rfl (lv_at hl 2 rfl) ?_
    refine lv_iload hx hb dJ7_fill_d0a16_7 (lv_at hl 3 rfl) ?_
    refine lv_icmp_ge (tgt := 22) hx hb dJ7_fill_d0a16_9 (by decide) (fun q9 => ?_) (fun q9 => ?_)
    · have h := h.1 q9
      exact ret _ H locs ls _ dJ7_fill_d0a16_22 h hP hD hS
    · have h := h.2 q9
      refine lv_aload_n hx hb dJ7_fill_d0a16_12 rfl (lv_at hl 0 rfl) ?_
      refine lv_iload_n hx hb dJ7_fill_d0a16_13 rfl (lv_at hl 2 rfl) ?_
      refine lv_lload_n hx hb dJ7_fill_d0a16_14 rfl (lv_at hl 1 rfl) ?_
      refine va_last (D := (dC, dI)) hx hb hK hP hD hS 0 1 rfl rfl h.1 dJ7_fill_d0a16_15 (fun H locs hP hD hS => ?_)
      obtain ⟨fA_15, efA_15⟩ : ∃ y, y = vp_updL fA x3.toNatClampNeg x1 := ⟨_, rfl⟩
      have h := h.2 fA_15 efA_15
      have hP : va_P (dC, dI) vwCl [aJ aA cJ nA fA_15] H := by rw [efA_15]; exact hP
      have hD : va_D A [aJ aA cJ nA fA_15] := by rw [efA_15]; exact hD
      obtain ⟨v16, ev16⟩ : ∃ y : Int32, y = x3 + (1 : Int32) := ⟨_, rfl⟩
      have h := h v16 ev16
      refine lv_iinc (v := v16) (lv' := [(3, .int v16), (0, .ref aA), (1, .long x1), (4, .int x4)]) hx hb dJ7_fill_d0a16_16 hl (k := 2) rfl (by rw [ev16]; rfl) (by decide) rfl (fun ls hl => ?_)
      refine lv_goto (tgt := 6) hx hb dJ7_fill_d0a16_19 (by decide) ?_
      exact h H locs ls hP hD hS (lv_sub hl [1, 2, 0, 3] rfl)
  unfold wp_J7_fill_d0a16 at h
  intro H locs ls hP hD hS hl
  refine lv_iconst (v := 0) hx hb dJ7_fill_d0a16_0 (by decide) ?_
  refine lv_istore_n (lv' := [(3, .int (0 : Int32)), (0, .ref aA), (1, .long x1)]) hx hb dJ7_fill_d0a16_1 rfl hl (by decide) rfl (fun ls hl => ?_)
  refine lv_aload_n hx hb dJ7_fill_d0a16_2 rfl (lv_at hl 1 rfl) ?_
  refine va_alen (D := (dC, dI)) (v := (Int32.ofNat nA)) hx hb hK hP 0 1 rfl rfl rfl dJ7_fill_d0a16_3 ?_
  refine lv_topi (fun v4 ev4 => ?_)
  have h := h v4 ev4
  refine lv_istore (lv' := [(4, .int v4), (3, .int (0 : Int32)), (0, .ref aA), (1, .long x1)]) hx hb dJ7_fill_d0a16_4 hl (by decide) rfl (fun ls hl => ?_)
  exact B6 _ _ _ _ h H locs ls hP hD hS (lv_sub hl [2, 3, 1, 0] rfl)
set_option maxHeartbeats 4000000 in
set_option maxRecDepth 100000 in
theorem c_J7_fill_d0a16 {l : Launch} {dC : Nat → ClassId} {dI : Nat → Nat → Nat} {cI cJ cZ : ClassId} {aA : Nat} {nA : Nat} {fA : (Nat → Int64)} {x1 : Int64} {post : (Nat → Int64) → Prop} (h : wp_J7_fill_d0a16 x1 nA fA post) : ∀ sz, Met l yJ7_fill_d0a16 wsJ7_fill_d0a16 rm_J7_fill_d0a16 (mP (dC, dI) (mTy cI cJ cZ) [.ref aA, .long x1] [aJ aA cJ nA fA] sz) (va_Qv (fun (u : (Nat → Int64)) => post u) (mB (dC, dI) (va_A [aJ aA cJ nA fA] sz) (fun u => [aJ aA cJ nA u])) (va_A [aJ aA cJ nA fA] sz)) 0 0 (va_A [aJ aA cJ nA fA] sz) := by
  intro sz
  refine Met.ofW (cc := cJ7_fill_d0a16) (maxL := 5) (ret := none) (by decide) rfl ?_
  intro p e s m args below meth c s₁ B hml hv
  obtain ⟨rfl, hsz, hP, hK, hD0⟩ := hv
  have hlocks := B.notSynchronized
  subst hsz
  have hD := hD0.self (sz := s.heap.size)
  have hl := lv_entry ([.ref aA, .long x1]) (n := 5) (Nat.le_of_ble_eq_true rfl)
  rw [lg_entry_eq]
  exact k_J7_fill_d0a16 B.exec B.bytes hml (findClass_of_methodNamed B.named) (atoms_spec (ws := wsJ7_fill_d0a16) B.pre) hK (fun q hq => Or.inr hq) (fun fA' H locs ls pc hd hp hP hD hS => W.vret B.exec B.bytes B.returns (fun t ht hW => ⟨⟨fA', rfl, hp, by rw [ht]; exact hP, hD⟩, hS.F ht⟩) hS.2.2 hd) h s.heap [] _ hP hD va_S.rf hl

def wp_X1_stepOn_b15 (x1 : Int32) (x2 : Int64) (x4 : Int32) (tk : Int32) (fB : (Nat → Int32)) (fY : (Nat → Int64)) (fZ : (Nat → Int64)) (post : (Nat → Int64) → (Nat → Int64) → Prop) (P2 : Int32 → (Nat → Int64) → Prop) : Prop := ∀ P15 : Int64 → Int32 → Prop, (∀ (x2 : Int64) (x4 : Int32), ((tk ≤ x4 → (vp_in x1 6 ∧ (∀ fZ_62 : (Nat → Int64), fZ_62 = vp_updL fZ x1.toNatClampNeg (if (1000000000000000000 : Int64) < x2 then (1000000000000000000 : Int64) else x2) → (∀ v63 : Int32, v63 = x1 + (1 : Int32) → P2 v63 fZ_62)))) ∧ (¬ tk ≤ x4 → wp_X1_mayFollow x4 x1 tk fB (fun (r28 : Int32) => ((r28 = (0 : Int32) → (∀ v44 : Int32, v44 = x4 + (1 : Int32) → P15 x2 v44)) ∧ (¬ r28 = (0 : Int32) → (vp_in x4 6 ∧ (∀ v43 : Int64, v43 = (x2 + (fY x4.toNatClampNeg)) → (∀ v44 : Int32, v44 = x4 + (1 : Int32) → P15 v43 v44)))))))) → P15 x2 x4) → P15 x2 x4
def wp_X1_stepOn_b2 (x1 : Int32) (tk : Int32) (fB : (Nat → Int32)) (fY : (Nat → Int64)) (fZ : (Nat → Int64)) (post : (Nat → Int64) → (Nat → Int64) → Prop)  : Prop := ∀ P2 : Int32 → (Nat → Int64) → Prop, (∀ (x1 : Int32) (fZ : (Nat → Int64)), ((tk ≤ x1 → (¬ (0 : Int32) < 0 ∧ ¬ (0 : Int32) < 0 ∧ ¬ tk < 0 ∧ (0 : Int32).toNatClampNeg + tk.toNatClampNeg ≤ 6 ∧ (0 : Int32).toNatClampNeg + tk.toNatClampNeg ≤ 6 ∧ (∀ fY_83 : (Nat → Int64), fY_83 = va_cpy fZ fY (0 : Int32).toNatClampNeg (0 : Int32).toNatClampNeg tk.toNatClampNeg → post fY_83 fZ))) ∧ (¬ tk ≤ x1 → wp_X1_stepOn_b15 x1 (0 : Int64) (0 : Int32) tk fB fY fZ post P2)) → P2 x1 fZ) → P2 x1 fZ
def wp_X1_stepOn  (tk : Int32) (fB : (Nat → Int32)) (fY : (Nat → Int64)) (fZ : (Nat → Int64)) (post : (Nat → Int64) → (Nat → Int64) → Prop) : Prop := wp_X1_stepOn_b2 (0 : Int32) tk fB fY fZ post
abbrev rm_X1_stepOn : Room := { frames := 2, cells := 0, slots := 0, locals := 43 }
theorem hv_X1_stepOn : yX1_stepOn.cls = RX1 ∧ yX1_stepOn.cls ≠ "java/lang/invoke/MethodHandle" ∧ yX1_stepOn.cls ≠ "java/lang/invoke/VarHandle" ∧ (parseMethodDescriptor yX1_stepOn.desc).map (fun d => d.parameters.length) = some 0 := by decide +kernel
set_option maxHeartbeats 4000000 in
set_option maxRecDepth 100000 in
theorem k_X1_stepOn {p : Program} {l : Launch} {e : Env} {s : State} {m : MethodId} {args : Array Value} {below : List Frame} {meth : Method} {c : Code} {Q : State → Prop} {A : Nat → Prop} {dC : Nat → ClassId} {dI : Nat → Nat → Nat} {cI cJ cZ : ClassId} (hx : p.tables.exec = Jvm.exec) (hb : c.code = cX1_stepOn) (hml : c.maxLocals = 5) (hown : s.vm.findClass RX1 = some m.cls) (hts : ∀ w ∈ wsX1_stepOn, w.before args s = true) (hK : va_K (dC, dI) vwCl (mTy cI cJ cZ) s) (hA : ∀ q, s.heap.size ≤ q → A q) {aT aB aWK aRE aY aZ : Nat} {tk : Int32} {fB : (Nat → Int32)} {fY : (Nat → Int64)} {fZ : (Nat → Int64)}  {post : (Nat → Int64) → (Nat → Int64) → Prop} (ret : ∀ (fY' : (Nat → Int64)) (fZ' : (Nat → Int64)) (H : Heap) (locs : List Loc) (ls : Array Slot) (pc : Nat), decode cX1_stepOn pc = .ok (.return_, 1) → post fY' fZ' → va_P (dC, dI) vwCl [oT aT aB aWK aRE aY aZ tk, aI aB cI 6 fB, aJ aY cJ 6 fY', aJ aZ cJ 6 fZ'] H → va_D A [oT aT aB aWK aRE aY aZ tk, aI aB cI 6 fB, aJ aY cJ 6 fY', aJ aZ cJ 6 fZ'] → va_S A s.heap H locs → W p l e rm_X1_stepOn s m args below meth c H locs 0 0 Q (F0 m pc ls [])) (h : wp_X1_stepOn  tk fB fY fZ post) : mW p l e rm_X1_stepOn s m args below meth c 0 0 Q A (dC, dI) 5 [oT aT aB aWK aRE aY aZ tk, aI aB cI 6 fB, aJ aY cJ 6 fY, aJ aZ cJ 6 fZ] [(0, .ref aT)] 0 [] := by
  have in_X1 : ∀ w ∈ wsX10, w ∈ wsX1_stepOn := fun w hw => List.mem_cons_of_mem _ (List.mem_append_right _ hw)
  have kw_code_Lib_MathLoose_min_long_x_Lib_MathLoose_min_long_code_4_some_long_ := hts (.code Lib.MathLoose.min_long.x Lib.MathLoose.min_long.code 4 (some .long)) (List.mem_of_getElem? (i := 8) rfl)
  have k_60 := hts (.constantLong RX1 60 (1000000000000000000)) (List.mem_of_getElem? (i := 4) rfl)
  have k_21 := hts (.fieldLink RX1 21 "RingTasks$Task" "ways" "[J") (List.mem_of_getElem? (i := 2) rfl)
  have k_25 := hts (.fieldLink RX1 25 "RingTasks$Task" "waysOn" "[J") (List.mem_of_getElem? (i := 3) rfl)
  have k_38 := hts (.fieldLink RX1 38 "RingTasks$Task" "size" "I") (List.mem_of_getElem? (i := 1) rfl)
  have kw_initialized_java_lang_Math_ := hts (.initialized "java/lang/Math") (List.mem_of_getElem? (i := 7) rfl)
  have kw_initialized_java_lang_System_ := hts (.initialized "java/lang/System") (List.mem_of_getElem? (i := 12) rfl)
  have k_62 := hts (.methodLink RX1 62 Lib.MathLoose.min_long.x) (List.mem_of_getElem? (i := 5) rfl)
  have k_77 := hts (.methodLink RX1 77 arraycopyName) (List.mem_of_getElem? (i := 9) rfl)
  have kw_native_arraycopyName := hts (.native arraycopyName) (List.mem_of_getElem? (i := 10) rfl)
  have kw_static_Lib_MathLoose_min_long_x := hts (.static Lib.MathLoose.min_long.x) (List.mem_of_getElem? (i := 6) rfl)
  have kw_static_arraycopyName := hts (.static arraycopyName) (List.mem_of_getElem? (i := 11) rfl)
  have B15 : ∀ (x1 : Int32) (x2 : Int64) (x4 : Int32) (fY : (Nat → Int64)) (fZ : (Nat → Int64)), ∀ (P2 : Int32 → (Nat → Int64) → Prop) (hP2 : ∀ (x1 : Int32) (fZ : (Nat → Int64)), P2 x1 fZ → mW p l e rm_X1_stepOn s m args below meth c 0 0 Q A (dC, dI) 5 [oT aT aB aWK aRE aY aZ tk, aI aB cI 6 fB, aJ aY cJ 6 fY, aJ aZ cJ 6 fZ] [(0, .ref aT), (1, .int x1)] 2 []), wp_X1_stepOn_b15 x1 x2 x4 tk fB fY fZ post P2 → mW p l e rm_X1_stepOn s m args below meth c 0 0 Q A (dC, dI) 5 [oT aT aB aWK aRE aY aZ tk, aI aB cI 6 fB, aJ aY cJ 6 fY, aJ aZ cJ 6 fZ] [(0, .ref aT), (1, .int x1), (2, .long x2), (4, .int x4)] 15 [] := by
    intro x1 x2 x4 fY fZ P2 hP2 h
    unfold wp_X1_stepOn_b15 at h
    refine h (fun (x2 : Int64) (x4 : Int32) => mW p l e rm_X1_stepOn s m args below meth c 0 0 Q A (dC, dI) 5 [oT aT aB aWK aRE aY aZ tk, aI aB cI 6 fB, aJ aY cJ 6 fY, aJ aZ cJ 6 fZ] [(0, .ref aT), (1, .int x1), (2, .long x2), (4, .int x4)] 15 []) ?_
    intro x2 x4 h
    intro H locs ls hP hD hS hl
    refine lv_iload hx hb dX1_stepOn_15 (lv_at hl 3 rfl) ?_
    refine lv_aload_n hx hb dX1_stepOn_17 rfl (lv_at hl 0 rfl) ?_
    refine va_get (D := (dC, dI)) (ci := 1) (v := .int tk) (C := RX1) (T := TX1) (N := 6) hx hb hts in_X1 hown hK hP 0 rfl rfl 0 (by decide) k_38 (fun _ h9 => h9) rfl dX1_stepOn_18 ?_
    refine lv_icmp_ge (tgt := 50) hx hb dX1_stepOn_21 (by decide) (fun q21 => ?_) (fun q21 => ?_)
    · have h := h.1 q21
      refine lv_aload_n hx hb dX1_stepOn_50 rfl (lv_at hl 0 rfl) ?_
      refine va_get (D := (dC, dI)) (ci := 1) (v := .ref aZ) (C := RX1) (T := TX1) (N := 6) hx hb hts in_X1 hown hK hP 0 rfl rfl 5 (by decide) k_25 (fun _ h9 => h9) rfl dX1_stepOn_51 ?_
      refine lv_iload_n hx hb dX1_stepOn_54 rfl (lv_at hl 1 rfl) ?_
      refine lv_lload_n hx hb dX1_stepOn_55 rfl (lv_at hl 2 rfl) ?_
      refine lv_ldc2 (v := 1000000000000000000) hx hb hown k_60 dX1_stepOn_56 ?_
      refine va_mmin_long hx hb (hml.trans hl.1.symm) hown k_62 kw_static_Lib_MathLoose_min_long_x kw_initialized_java_lang_Math_ kw_code_Lib_MathLoose_min_long_x_Lib_MathLoose_min_long_code_4_some_long_ (Nat.le_of_ble_eq_true rfl) (Nat.le_of_ble_eq_true rfl) (Nat.le_of_ble_eq_true rfl) (Nat.le_of_ble_eq_true rfl) dX1_stepOn_59 ?_
      refine va_last (D := (dC, dI)) hx hb hK hP hD hS 3 1 rfl rfl h.1 dX1_stepOn_62 (fun H locs hP hD hS => ?_)
      obtain ⟨fZ_62, efZ_62⟩ : ∃ y, y = vp_updL fZ x1.toNatClampNeg (if (1000000000000000000 : Int64) < x2 then (1000000000000000000 : Int64) else x2) := ⟨_, rfl⟩
      have h := h.2 fZ_62 efZ_62
      have hP : va_P (dC, dI) vwCl [oT aT aB aWK aRE aY aZ tk, aI aB cI 6 fB, aJ aY cJ 6 fY, aJ aZ cJ 6 fZ_62] H := by rw [efZ_62]; exact hP
      have hD : va_D A [oT aT aB aWK aRE aY aZ tk, aI aB cI 6 fB, aJ aY cJ 6 fY, aJ aZ cJ 6 fZ_62] := by rw [efZ_62]; exact hD
      obtain ⟨v63, ev63⟩ : ∃ y : Int32, y = x1 + (1 : Int32) := ⟨_, rfl⟩
      have h := h v63 ev63
      refine lv_iinc (v := v63) (lv' := [(1, .int v63), (0, .ref aT), (2, .long x2), (4, .int x4)]) hx hb dX1_stepOn_63 hl (k := 1) rfl (by rw [ev63]; rfl) (by decide) rfl (fun ls hl => ?_)
      refine lv_goto (tgt := 2) hx hb dX1_stepOn_66 (by decide) ?_
      exact hP2 _ _ h H locs ls hP hD hS (lv_sub hl [1, 0] rfl)
    · have h := h.2 q21
      refine lv_aload_n hx hb dX1_stepOn_24 rfl (lv_at hl 0 rfl) ?_
      refine lv_iload hx hb dX1_stepOn_25 (lv_at hl 3 rfl) ?_
      refine lv_iload_n hx hb dX1_stepOn_27 rfl (lv_at hl 1 rfl) ?_
      refine mVi (wr := [aJ aY cJ 6 fY, aJ aZ cJ 6 fZ]) (As := [.int x4, .int x1]) (rest := []) ⟨hx, hb, hml, hown, hts⟩ (c_X1_mayFollow (l := l) (dC := dC) (dI := dI) (cI := cI) (cJ := cJ) (cZ := cZ) (aT := aT) (aB := aB) (aWK := aWK) (aRE := aRE) (aY := aY) (aZ := aZ) h) (cwV 2 hts gX1_stepOn_X1_mayFollow rfl rfl rfl hv_X1_mayFollow ⟨Nat.le_of_ble_eq_true rfl, Nat.le_of_ble_eq_true rfl⟩) hK hP hD hS hA [0, 1] [2, 3] rfl rfl rfl rfl (by decide) 1 rfl rfl rfl rfl hl.1 rfl (Nat.le_of_ble_eq_true rfl) ⟨Nat.zero_le _, Nat.zero_le _⟩ dX1_stepOn_28 (fun r28 u28 H locs h hP hD hS => ?_)
      have hP : va_P (dC, dI) vwCl [oT aT aB aWK aRE aY aZ tk, aI aB cI 6 fB, aJ aY cJ 6 fY, aJ aZ cJ 6 fZ] H := hP.sub [2, 3, 0, 1] rfl
      have hD : va_D A [oT aT aB aWK aRE aY aZ tk, aI aB cI 6 fB, aJ aY cJ 6 fY, aJ aZ cJ 6 fZ] := hD.sub [2, 3, 0, 1] rfl rfl
      refine lv_if_eq (tgt := 44) hx hb dX1_stepOn_31 (by decide) (fun q31 => ?_) (fun q31 => ?_)
      · have h := h.1 q31
        obtain ⟨v44, ev44⟩ : ∃ y : Int32, y = x4 + (1 : Int32) := ⟨_, rfl⟩
        have h := h v44 ev44
        refine lv_iinc (v := v44) (lv' := [(4, .int v44), (0, .ref aT), (1, .int x1), (2, .long x2)]) hx hb dX1_stepOn_44 hl (k := 3) rfl (by rw [ev44]; rfl) (by decide) rfl (fun ls hl => ?_)
        refine lv_goto (tgt := 15) hx hb dX1_stepOn_47 (by decide) ?_
        exact h H locs ls hP hD hS (lv_sub hl [1, 2, 3, 0] rfl)
      · have h := h.2 q31
        refine lv_lload_n hx hb dX1_stepOn_34 rfl (lv_at hl 2 rfl) ?_
        refine lv_aload_n hx hb dX1_stepOn_35 rfl (lv_at hl 0 rfl) ?_
        refine va_get (D := (dC, dI)) (ci := 1) (v := .ref aY) (C := RX1) (T := TX1) (N := 6) hx hb hts in_X1 hown hK hP 0 rfl rfl 4 (by decide) k_21 (fun _ h9 => h9) rfl dX1_stepOn_36 ?_
        refine lv_iload hx hb dX1_stepOn_39 (lv_at hl 3 rfl) ?_
        refine va_lald (D := (dC, dI)) hx hb hK hP 2 1 rfl rfl h.1 dX1_stepOn_41 ?_
        have h := h.2
        refine lv_ladd hx hb dX1_stepOn_42 ?_
        refine lv_topl (fun v43 ev43 => ?_)
        have h := h v43 ev43
        refine lv_lstore_n (lv' := [(2, .long v43), (0, .ref aT), (1, .int x1), (4, .int x4)]) hx hb dX1_stepOn_43 rfl hl (by decide) rfl (fun ls hl => ?_)
        obtain ⟨v44, ev44⟩ : ∃ y : Int32, y = x4 + (1 : Int32) := ⟨_, rfl⟩
        have h := h v44 ev44
        refine lv_iinc (v := v44) (lv' := [(4, .int v44), (2, .long v43), (0, .ref aT), (1, .int x1)]) hx hb dX1_stepOn_44 hl (k := 3) rfl (by rw [ev44]; rfl) (by decide) rfl (fun ls hl => ?_)
        refine lv_goto (tgt := 15) hx hb dX1_stepOn_47 (by decide) ?_
        exact h H locs ls hP hD hS (lv_sub hl [2, 3, 1, 0] rfl)
  have B2 : ∀ (x1 : Int32) (fY : (Nat → Int64)) (fZ : (Nat → Int64)), wp_X1_stepOn_b2 x1 tk fB fY fZ post → mW p l e rm_X1_stepOn s m args below meth c 0 0 Q A (dC, dI) 5 [oT aT aB aWK aRE aY aZ tk, aI aB cI 6 fB, aJ aY cJ 6 fY, aJ aZ cJ 6 fZ] [(0, .ref aT), (1, .int x1)] 2 [] := by
    intro x1 fY fZ h
    unfold wp_X1_stepOn_b2 at h
    refine h (fun (x1 : Int32) (fZ : (Nat → Int64)) => mW p l e rm_X1_stepOn s m args below meth c 0 0 Q A (dC, dI) 5 [oT aT aB aWK aRE aY aZ tk, aI aB cI 6 fB, aJ aY cJ 6 fY, aJ aZ cJ 6 fZ] [(0, .ref aT), (1, .int x1)] 2 []) ?_
    intro x1 fZ h
    intro H locs ls hP hD hS hl
    refine lv_iload_n hx hb dX1_stepOn_2 rfl (lv_at hl 1 rfl) ?_
    refine lv_aload_n hx hb dX1_stepOn_3 rfl (lv_at hl 0 rfl) ?_
    refine va_get (D := (dC, dI)) (ci := 1) (v := .int tk) (C := RX1) (T := TX1) (N := 6) hx hb hts in_X1 hown hK hP 0 rfl rfl 0 (by decide) k_38 (fun _ h9 => h9) rfl dX1_stepOn_4 ?_
    refine lv_icmp_ge (tgt := 69) hx hb dX1_stepOn_7 (by decide) (fun q7 => ?_) (fun q7 => ?_)
    · have h := h.1 q7
      refine lv_aload_n hx hb dX1_stepOn_69 rfl (lv_at hl 0 rfl) ?_
      refine va_get (D := (dC, dI)) (ci := 1) (v := .ref aZ) (C := RX1) (T := TX1) (N := 6) hx hb hts in_X1 hown hK hP 0 rfl rfl 5 (by decide) k_25 (fun _ h9 => h9) rfl dX1_stepOn_70 ?_
      refine lv_iconst (v := 0) hx hb dX1_stepOn_73 (by decide) ?_
      refine lv_aload_n hx hb dX1_stepOn_74 rfl (lv_at hl 0 rfl) ?_
      refine va_get (D := (dC, dI)) (ci := 1) (v := .ref aY) (C := RX1) (T := TX1) (N := 6) hx hb hts in_X1 hown hK hP 0 rfl rfl 4 (by decide) k_21 (fun _ h9 => h9) rfl dX1_stepOn_75 ?_
      refine lv_iconst (v := 0) hx hb dX1_stepOn_78 (by decide) ?_
      refine lv_aload_n hx hb dX1_stepOn_79 rfl (lv_at hl 0 rfl) ?_
      refine va_get (D := (dC, dI)) (ci := 1) (v := .int tk) (C := RX1) (T := TX1) (N := 6) hx hb hts in_X1 hown hK hP 0 rfl rfl 0 (by decide) k_38 (fun _ h9 => h9) rfl dX1_stepOn_80 ?_
      refine va_copyl (D := (dC, dI)) hx hb (hml.trans hl.1.symm) hown k_77 kw_native_arraycopyName kw_static_arraycopyName kw_initialized_java_lang_System_ hK hP hD hS 3 2 1 1 rfl rfl rfl rfl rfl h.1 h.2.1 h.2.2.1 h.2.2.2.1 h.2.2.2.2.1 (fun _ _ => rfl) (Nat.le_of_ble_eq_true rfl) (Nat.le_of_ble_eq_true rfl) dX1_stepOn_83 (fun H locs hP hD hS => ?_)
      obtain ⟨fY_83, efY_83⟩ : ∃ y, y = va_cpy fZ fY (0 : Int32).toNatClampNeg (0 : Int32).toNatClampNeg tk.toNatClampNeg := ⟨_, rfl⟩
      have h := h.2.2.2.2.2 fY_83 efY_83
      have hP : va_P (dC, dI) vwCl [oT aT aB aWK aRE aY aZ tk, aI aB cI 6 fB, aJ aY cJ 6 fY_83, aJ aZ cJ 6 fZ] H := by rw [efY_83]; exact hP
      have hD : va_D A [oT aT aB aWK aRE aY aZ tk, aI aB cI 6 fB, aJ aY cJ 6 fY_83, aJ aZ cJ 6 fZ] := by rw [efY_83]; exact hD
      exact ret _ _ H locs ls _ dX1_stepOn_86 h hP hD hS
    · have h := h.2 q7
      refine lv_lconst (v := 0) hx hb dX1_stepOn_10 (by decide) ?_
      refine lv_lstore_n (lv' := [(2, .long (0 : Int64)), (0, .ref aT), (1, .int x1)]) hx hb dX1_stepOn_11 rfl hl (by decide) rfl (fun ls hl => ?_)
      refine lv_iconst (v := 0) hx hb dX1_stepOn_12 (by decide) ?_
      refine lv_istore (lv' := [(4, .int (0 : Int32)), (2, .long (0 : Int64)), (0, .ref aT), (1, .int x1)]) hx hb dX1_stepOn_13 hl (by decide) rfl (fun ls hl => ?_)
      exact B15 _ _ _ _ _ _ (fun _ _ hq => hq) h H locs ls hP hD hS (lv_sub hl [2, 3, 1, 0] rfl)
  unfold wp_X1_stepOn at h
  intro H locs ls hP hD hS hl
  refine lv_iconst (v := 0) hx hb dX1_stepOn_0 (by decide) ?_
  refine lv_istore_n (lv' := [(1, .int (0 : Int32)), (0, .ref aT)]) hx hb dX1_stepOn_1 rfl hl (by decide) rfl (fun ls hl => ?_)
  exact B2 _ _ _ h H locs ls hP hD hS (lv_sub hl [1, 0] rfl)
set_option maxHeartbeats 4000000 in
set_option maxRecDepth 100000 in
theorem c_X1_stepOn {l : Launch} {dC : Nat → ClassId} {dI : Nat → Nat → Nat} {cI cJ cZ : ClassId} {aT aB aWK aRE aY aZ : Nat} {tk : Int32} {fB : (Nat → Int32)} {fY : (Nat → Int64)} {fZ : (Nat → Int64)}  {post : (Nat → Int64) → (Nat → Int64) → Prop} (h : wp_X1_stepOn  tk fB fY fZ post) : ∀ sz, Met l yX1_stepOn wsX1_stepOn rm_X1_stepOn (mP (dC, dI) (mTy cI cJ cZ) [.ref aT] [oT aT aB aWK aRE aY aZ tk, aI aB cI 6 fB, aJ aY cJ 6 fY, aJ aZ cJ 6 fZ] sz) (va_Qv (fun (u : (Nat → Int64) × (Nat → Int64)) => post (u.1) (u.2)) (mB (dC, dI) (va_A [oT aT aB aWK aRE aY aZ tk, aI aB cI 6 fB, aJ aY cJ 6 fY, aJ aZ cJ 6 fZ] sz) (fun u => [oT aT aB aWK aRE aY aZ tk, aI aB cI 6 fB, aJ aY cJ 6 (u.1), aJ aZ cJ 6 (u.2)])) (va_A [oT aT aB aWK aRE aY aZ tk, aI aB cI 6 fB, aJ aY cJ 6 fY, aJ aZ cJ 6 fZ] sz)) 0 0 (va_A [oT aT aB aWK aRE aY aZ tk, aI aB cI 6 fB, aJ aY cJ 6 fY, aJ aZ cJ 6 fZ] sz) := by
  intro sz
  refine Met.ofW (cc := cX1_stepOn) (maxL := 5) (ret := none) (by decide) rfl ?_
  intro p e s m args below meth c s₁ B hml hv
  obtain ⟨rfl, hsz, hP, hK, hD0⟩ := hv
  have hlocks := B.notSynchronized
  subst hsz
  have hD := hD0.self (sz := s.heap.size)
  have hl := lv_entry ([.ref aT]) (n := 5) (Nat.le_of_ble_eq_true rfl)
  rw [lg_entry_eq]
  exact k_X1_stepOn B.exec B.bytes hml (findClass_of_methodNamed B.named) (atoms_spec (ws := wsX1_stepOn) B.pre) hK (fun q hq => Or.inr hq) (fun fY' fZ' H locs ls pc hd hp hP hD hS => W.vret B.exec B.bytes B.returns (fun t ht hW => ⟨⟨(fY', fZ'), rfl, hp, by rw [ht]; exact hP, hD⟩, hS.F ht⟩) hS.2.2 hd) h s.heap [] _ hP hD va_S.rf hl

def wp_X1_walkCount_b36 (x2 : Int32) (x3 : Int32) (x4 : Int32) (tk : Int32) (fB : (Nat → Int32)) (fY : (Nat → Int64)) (fZ : (Nat → Int64)) (post : Int64 → (Nat → Int64) → (Nat → Int64) → Prop)  : Prop := ∀ P36 : Int32 → (Nat → Int64) → (Nat → Int64) → Prop, (∀ (x4 : Int32) (fY : (Nat → Int64)) (fZ : (Nat → Int64)), ((x3 ≤ x4 → (vp_in x2 6 ∧ post (fY x2.toNatClampNeg) fY fZ)) ∧ (¬ x3 ≤ x4 → wp_X1_stepOn tk fB fY fZ (fun (fY_43 : (Nat → Int64)) (fZ_43 : (Nat → Int64)) => (∀ v46 : Int32, v46 = x4 + (1 : Int32) → P36 v46 fY_43 fZ_43)))) → P36 x4 fY fZ) → P36 x4 fY fZ
def wp_X1_walkCount (x1 : Int32) (x2 : Int32) (x3 : Int32) (tk : Int32) (fB : (Nat → Int32)) (fY : (Nat → Int64)) (fZ : (Nat → Int64)) (post : Int64 → (Nat → Int64) → (Nat → Int64) → Prop) : Prop := wp_X1_has x1 tk (fun (r2 : Int32) => ((r2 = (0 : Int32) → post (0 : Int64) fY fZ) ∧ (¬ r2 = (0 : Int32) → wp_X1_has x2 tk (fun (r10 : Int32) => ((¬ r10 = (0 : Int32) → wp_J7_fill_d0a16 (0 : Int64) 6 fY (fun (fY_23 : (Nat → Int64)) => (vp_in x1 6 ∧ (∀ fY_32 : (Nat → Int64), fY_32 = vp_updL fY_23 x1.toNatClampNeg (1 : Int64) → wp_X1_walkCount_b36 x2 x3 (0 : Int32) tk fB fY_32 fZ post)))) ∧ (r10 = (0 : Int32) → post (0 : Int64) fY fZ))))))
abbrev rm_X1_walkCount : Room := { frames := 3, cells := 0, slots := 0, locals := 67 }
theorem hv_X1_walkCount : yX1_walkCount.cls = RX1 ∧ yX1_walkCount.cls ≠ "java/lang/invoke/MethodHandle" ∧ yX1_walkCount.cls ≠ "java/lang/invoke/VarHandle" ∧ (parseMethodDescriptor yX1_walkCount.desc).map (fun d => d.parameters.length) = some 3 := by decide +kernel
set_option maxHeartbeats 4000000 in
set_option maxRecDepth 100000 in
theorem k_X1_walkCount {p : Program} {l : Launch} {e : Env} {s : State} {m : MethodId} {args : Array Value} {below : List Frame} {meth : Method} {c : Code} {Q : State → Prop} {A : Nat → Prop} {dC : Nat → ClassId} {dI : Nat → Nat → Nat} {cI cJ cZ : ClassId} (hx : p.tables.exec = Jvm.exec) (hb : c.code = cX1_walkCount) (hml : c.maxLocals = 5) (hown : s.vm.findClass RX1 = some m.cls) (hts : ∀ w ∈ wsX1_walkCount, w.before args s = true) (hK : va_K (dC, dI) vwCl (mTy cI cJ cZ) s) (hA : ∀ q, s.heap.size ≤ q → A q) {aT aB aWK aRE aY aZ : Nat} {tk : Int32} {fB : (Nat → Int32)} {fY : (Nat → Int64)} {fZ : (Nat → Int64)} {x1 : Int32} {x2 : Int32} {x3 : Int32} {post : Int64 → (Nat → Int64) → (Nat → Int64) → Prop} (ret : ∀ (r : Int64) (fY' : (Nat → Int64)) (fZ' : (Nat → Int64)) (H : Heap) (locs : List Loc) (ls : Array Slot) (pc : Nat), decode cX1_walkCount pc = .ok (.lreturn, 1) → post r fY' fZ' → va_P (dC, dI) vwCl [oT aT aB aWK aRE aY aZ tk, aI aB cI 6 fB, aJ aY cJ 6 fY', aJ aZ cJ 6 fZ'] H → va_D A [oT aT aB aWK aRE aY aZ tk, aI aB cI 6 fB, aJ aY cJ 6 fY', aJ aZ cJ 6 fZ'] → va_S A s.heap H locs → W p l e rm_X1_walkCount s m args below meth c H locs 0 0 Q (F0 m pc ls [.long r])) (h : wp_X1_walkCount x1 x2 x3 tk fB fY fZ post) : mW p l e rm_X1_walkCount s m args below meth c 0 0 Q A (dC, dI) 5 [oT aT aB aWK aRE aY aZ tk, aI aB cI 6 fB, aJ aY cJ 6 fY, aJ aZ cJ 6 fZ] [(0, .ref aT), (1, .int x1), (2, .int x2), (3, .int x3)] 0 [] := by
  have in_X1 : ∀ w ∈ wsX10, w ∈ wsX1_walkCount := fun w hw => List.mem_cons_of_mem _ (List.mem_append_right _ hw)
  have k_21 := hts (.fieldLink RX1 21 "RingTasks$Task" "ways" "[J") (List.mem_of_getElem? (i := 1) rfl)
  have B36 : ∀ (x2 : Int32) (x3 : Int32) (x4 : Int32) (fY : (Nat → Int64)) (fZ : (Nat → Int64)), wp_X1_walkCount_b36 x2 x3 x4 tk fB fY fZ post → mW p l e rm_X1_walkCount s m args below meth c 0 0 Q A (dC, dI) 5 [oT aT aB aWK aRE aY aZ tk, aI aB cI 6 fB, aJ aY cJ 6 fY, aJ aZ cJ 6 fZ] [(0, .ref aT), (2, .int x2), (3, .int x3), (4, .int x4)] 36 [] := by
    intro x2 x3 x4 fY fZ h
    unfold wp_X1_walkCount_b36 at h
    refine h (fun (x4 : Int32) (fY : (Nat → Int64)) (fZ : (Nat → Int64)) => mW p l e rm_X1_walkCount s m args below meth c 0 0 Q A (dC, dI) 5 [oT aT aB aWK aRE aY aZ tk, aI aB cI 6 fB, aJ aY cJ 6 fY, aJ aZ cJ 6 fZ] [(0, .ref aT), (2, .int x2), (3, .int x3), (4, .int x4)] 36 []) ?_
    intro x4 fY fZ h
    intro H locs ls hP hD hS hl
    refine lv_iload hx hb dX1_walkCount_36 (lv_at hl 3 rfl) ?_
    refine lv_iload_n hx hb dX1_walkCount_38 rfl (lv_at hl 2 rfl) ?_
    refine lv_icmp_ge (tgt := 52) hx hb dX1_walkCount_39 (by decide) (fun q39 => ?_) (fun q39 => ?_)
    · have h := h.1 q39
      refine lv_aload_n hx hb dX1_walkCount_52 rfl (lv_at hl 0 rfl) ?_
      refine va_get (D := (dC, dI)) (ci := 1) (v := .ref aY) (C := RX1) (T := TX1) (N := 6) hx hb hts in_X1 hown hK hP 0 rfl rfl 4 (by decide) k_21 (fun _ h9 => h9) rfl dX1_walkCount_53 ?_
      refine lv_iload_n hx hb dX1_walkCount_56 rfl (lv_at hl 1 rfl) ?_
      refine va_lald (D := (dC, dI)) hx hb hK hP 2 1 rfl rfl h.1 dX1_walkCount_57 ?_
      have h := h.2
      exact ret _ _ _ H locs ls _ dX1_walkCount_58 h hP hD hS
    · have h := h.2 q39
      refine lv_aload_n hx hb dX1_walkCount_42 rfl (lv_at hl 0 rfl) ?_
      refine mVv (wr := []) (As := []) (rest := []) ⟨hx, hb, hml, hown, hts⟩ (c_X1_stepOn (l := l) (dC := dC) (dI := dI) (cI := cI) (cJ := cJ) (cZ := cZ) (aT := aT) (aB := aB) (aWK := aWK) (aRE := aRE) (aY := aY) (aZ := aZ) h) (cwV 0 hts gX1_walkCount_X1_stepOn rfl rfl rfl hv_X1_stepOn ⟨Nat.le_of_ble_eq_true rfl, Nat.le_of_ble_eq_true rfl⟩) hK hP hD hS hA [0, 1, 2, 3] [] rfl rfl rfl rfl (by decide) 1 rfl rfl rfl rfl hl.1 rfl (Nat.le_of_ble_eq_true rfl) ⟨Nat.zero_le _, Nat.zero_le _⟩ dX1_walkCount_43 (fun u43 H locs h hP hD hS => ?_)
      obtain ⟨fY_43, fZ_43⟩ := u43
      have hP : va_P (dC, dI) vwCl [oT aT aB aWK aRE aY aZ tk, aI aB cI 6 fB, aJ aY cJ 6 fY_43, aJ aZ cJ 6 fZ_43] H := hP.sub [0, 1, 2, 3] rfl
      have hD : va_D A [oT aT aB aWK aRE aY aZ tk, aI aB cI 6 fB, aJ aY cJ 6 fY_43, aJ aZ cJ 6 fZ_43] := hD.sub [0, 1, 2, 3] rfl rfl
      obtain ⟨v46, ev46⟩ : ∃ y : Int32, y = x4 + (1 : Int32) := ⟨_, rfl⟩
      have h := h v46 ev46
      refine lv_iinc (v := v46) (lv' := [(4, .int v46), (0, .ref aT), (2, .int x2), (3, .int x3)]) hx hb dX1_walkCount_46 hl (k := 3) rfl (by rw [ev46]; rfl) (by decide) rfl (fun ls hl => ?_)
      refine lv_goto (tgt := 36) hx hb dX1_walkCount_49 (by decide) ?_
      exact h H locs ls hP hD hS (lv_sub hl [1, 2, 3, 0] rfl)
  unfold wp_X1_walkCount at h
  intro H locs ls hP hD hS hl
  refine lv_aload_n hx hb dX1_walkCount_0 rfl (lv_at hl 0 rfl) ?_
  refine lv_iload_n hx hb dX1_walkCount_1 rfl (lv_at hl 1 rfl) ?_
  refine mVi (wr := [aI aB cI 6 fB, aJ aY cJ 6 fY, aJ aZ cJ 6 fZ]) (As := [.int x1]) (rest := []) ⟨hx, hb, hml, hown, hts⟩ (c_X1_has (l := l) (dC := dC) (dI := dI) (cI := cI) (cJ := cJ) (cZ := cZ) (aT := aT) (aB := aB) (aWK := aWK) (aRE := aRE) (aY := aY) (aZ := aZ) h) (cwV 1 hts gX1_walkCount_X1_has rfl rfl rfl hv_X1_has ⟨Nat.le_of_ble_eq_true rfl, Nat.le_of_ble_eq_true rfl⟩) hK hP hD hS hA [0] [1, 2, 3] rfl rfl rfl rfl (by decide) 1 rfl rfl rfl rfl hl.1 rfl (Nat.le_of_ble_eq_true rfl) ⟨Nat.zero_le _, Nat.zero_le _⟩ dX1_walkCount_2 (fun r2 u2 H locs h hP hD hS => ?_)
  have hP : va_P (dC, dI) vwCl [oT aT aB aWK aRE aY aZ tk, aI aB cI 6 fB, aJ aY cJ 6 fY, aJ aZ cJ 6 fZ] H := hP.sub [3, 0, 1, 2] rfl
  have hD : va_D A [oT aT aB aWK aRE aY aZ tk, aI aB cI 6 fB, aJ aY cJ 6 fY, aJ aZ cJ 6 fZ] := hD.sub [3, 0, 1, 2] rfl rfl
  refine lv_if_eq (tgt := 16) hx hb dX1_walkCount_5 (by decide) (fun q5 => ?_) (fun q5 => ?_)
  · have h := h.1 q5
    refine lv_lconst (v := 0) hx hb dX1_walkCount_16 (by decide) ?_
    exact ret _ _ _ H locs ls _ dX1_walkCount_17 h hP hD hS
  · have h := h.2 q5
    refine lv_aload_n hx hb dX1_walkCount_8 rfl (lv_at hl 0 rfl) ?_
    refine lv_iload_n hx hb dX1_walkCount_9 rfl (lv_at hl 2 rfl) ?_
    refine mVi (wr := [aI aB cI 6 fB, aJ aY cJ 6 fY, aJ aZ cJ 6 fZ]) (As := [.int x2]) (rest := []) ⟨hx, hb, hml, hown, hts⟩ (c_X1_has (l := l) (dC := dC) (dI := dI) (cI := cI) (cJ := cJ) (cZ := cZ) (aT := aT) (aB := aB) (aWK := aWK) (aRE := aRE) (aY := aY) (aZ := aZ) h) (cwV 1 hts gX1_walkCount_X1_has rfl rfl rfl hv_X1_has ⟨Nat.le_of_ble_eq_true rfl, Nat.le_of_ble_eq_true rfl⟩) hK hP hD hS hA [0] [1, 2, 3] rfl rfl rfl rfl (by decide) 1 rfl rfl rfl rfl hl.1 rfl (Nat.le_of_ble_eq_true rfl) ⟨Nat.zero_le _, Nat.zero_le _⟩ dX1_walkCount_10 (fun r10 u10 H locs h hP hD hS => ?_)
    have hP : va_P (dC, dI) vwCl [oT aT aB aWK aRE aY aZ tk, aI aB cI 6 fB, aJ aY cJ 6 fY, aJ aZ cJ 6 fZ] H := hP.sub [3, 0, 1, 2] rfl
    have hD : va_D A [oT aT aB aWK aRE aY aZ tk, aI aB cI 6 fB, aJ aY cJ 6 fY, aJ aZ cJ 6 fZ] := hD.sub [3, 0, 1, 2] rfl rfl
    refine lv_if_ne (tgt := 18) hx hb dX1_walkCount_13 (by decide) (fun q13 => ?_) (fun q13 => ?_)
    · have h := h.1 q13
      refine lv_aload_n hx hb dX1_walkCount_18 rfl (lv_at hl 0 rfl) ?_
      refine va_get (D := (dC, dI)) (ci := 1) (v := .ref aY) (C := RX1) (T := TX1) (N := 6) hx hb hts in_X1 hown hK hP 0 rfl rfl 4 (by decide) k_21 (fun _ h9 => h9) rfl dX1_walkCount_19 ?_
      refine lv_lconst (v := 0) hx hb dX1_walkCount_22 (by decide) ?_
      refine mSv (wr := [oT aT aB aWK aRE aY aZ tk, aI aB cI 6 fB, aJ aZ cJ 6 fZ]) (As := [.ref aY, .long (0 : Int64)]) (rest := []) ⟨hx, hb, hml, hown, hts⟩ (c_J7_fill_d0a16 (l := l) (dC := dC) (dI := dI) (cI := cI) (cJ := cJ) (cZ := cZ) (aA := aY) h) (va_cwS 2 hts gX1_walkCount_J7_fill_d0a16 rfl rfl rfl hv_J7_fill_d0a16 ⟨Nat.le_of_ble_eq_true rfl, Nat.le_of_ble_eq_true rfl⟩) hK hP hD hS hA [2] [0, 1, 3] rfl rfl rfl rfl (by decide) rfl hl.1 rfl (Nat.le_of_ble_eq_true rfl) ⟨Nat.zero_le _, Nat.zero_le _⟩ dX1_walkCount_23 (fun fY_23 H locs h hP hD hS => ?_)
      have hP : va_P (dC, dI) vwCl [oT aT aB aWK aRE aY aZ tk, aI aB cI 6 fB, aJ aY cJ 6 fY_23, aJ aZ cJ 6 fZ] H := hP.sub [0, 1, 3, 2] rfl
      have hD : va_D A [oT aT aB aWK aRE aY aZ tk, aI aB cI 6 fB, aJ aY cJ 6 fY_23, aJ aZ cJ 6 fZ] := hD.sub [0, 1, 3, 2] rfl rfl
      refine lv_aload_n hx hb dX1_walkCount_26 rfl (lv_at hl 0 rfl) ?_
      refine va_get (D := (dC, dI)) (ci := 1) (v := .ref aY) (C := RX1) (T := TX1) (N := 6) hx hb hts in_X1 hown hK hP 0 rfl rfl 4 (by decide) k_21 (fun _ h9 => h9) rfl dX1_walkCount_27 ?_
      refine lv_iload_n hx hb dX1_walkCount_30 rfl (lv_at hl 1 rfl) ?_
      refine lv_lconst (v := 1) hx hb dX1_walkCount_31 (by decide) ?_
      refine va_last (D := (dC, dI)) hx hb hK hP hD hS 2 1 rfl rfl h.1 dX1_walkCount_32 (fun H locs hP hD hS => ?_)
      obtain ⟨fY_32, efY_32⟩ : ∃ y, y = vp_updL fY_23 x1.toNatClampNeg (1 : Int64) := ⟨_, rfl⟩
      have h := h.2 fY_32 efY_32
      have hP : va_P (dC, dI) vwCl [oT aT aB aWK aRE aY aZ tk, aI aB cI 6 fB, aJ aY cJ 6 fY_32, aJ aZ cJ 6 fZ] H := by rw [efY_32]; exact hP
      have hD : va_D A [oT aT aB aWK aRE aY aZ tk, aI aB cI 6 fB, aJ aY cJ 6 fY_32, aJ aZ cJ 6 fZ] := by rw [efY_32]; exact hD
      refine lv_iconst (v := 0) hx hb dX1_walkCount_33 (by decide) ?_
      refine lv_istore (lv' := [(4, .int (0 : Int32)), (0, .ref aT), (1, .int x1), (2, .int x2), (3, .int x3)]) hx hb dX1_walkCount_34 hl (by decide) rfl (fun ls hl => ?_)
      exact B36 _ _ _ _ _ h H locs ls hP hD hS (lv_sub hl [1, 3, 4, 0] rfl)
    · have h := h.2 q13
      refine lv_lconst (v := 0) hx hb dX1_walkCount_16 (by decide) ?_
      exact ret _ _ _ H locs ls _ dX1_walkCount_17 h hP hD hS
set_option maxHeartbeats 4000000 in
set_option maxRecDepth 100000 in
theorem c_X1_walkCount {l : Launch} {dC : Nat → ClassId} {dI : Nat → Nat → Nat} {cI cJ cZ : ClassId} {aT aB aWK aRE aY aZ : Nat} {tk : Int32} {fB : (Nat → Int32)} {fY : (Nat → Int64)} {fZ : (Nat → Int64)} {x1 : Int32} {x2 : Int32} {x3 : Int32} {post : Int64 → (Nat → Int64) → (Nat → Int64) → Prop} (h : wp_X1_walkCount x1 x2 x3 tk fB fY fZ post) : ∀ sz, Met l yX1_walkCount wsX1_walkCount rm_X1_walkCount (mP (dC, dI) (mTy cI cJ cZ) [.ref aT, .int x1, .int x2, .int x3] [oT aT aB aWK aRE aY aZ tk, aI aB cI 6 fB, aJ aY cJ 6 fY, aJ aZ cJ 6 fZ] sz) (va_Ql (fun (r : Int64) (u : (Nat → Int64) × (Nat → Int64)) => post r (u.1) (u.2)) (mB (dC, dI) (va_A [oT aT aB aWK aRE aY aZ tk, aI aB cI 6 fB, aJ aY cJ 6 fY, aJ aZ cJ 6 fZ] sz) (fun u => [oT aT aB aWK aRE aY aZ tk, aI aB cI 6 fB, aJ aY cJ 6 (u.1), aJ aZ cJ 6 (u.2)])) (va_A [oT aT aB aWK aRE aY aZ tk, aI aB cI 6 fB, aJ aY cJ 6 fY, aJ aZ cJ 6 fZ] sz)) 0 0 (va_A [oT aT aB aWK aRE aY aZ tk, aI aB cI 6 fB, aJ aY cJ 6 fY, aJ aZ cJ 6 fZ] sz) := by
  intro sz
  refine Met.ofW (cc := cX1_walkCount) (maxL := 5) (ret := (some .long)) (by decide) rfl ?_
  intro p e s m args below meth c s₁ B hml hv
  obtain ⟨rfl, hsz, hP, hK, hD0⟩ := hv
  have hlocks := B.notSynchronized
  subst hsz
  have hD := hD0.self (sz := s.heap.size)
  have hl := lv_entry ([.ref aT, .int x1, .int x2, .int x3]) (n := 5) (Nat.le_of_ble_eq_true rfl)
  rw [lg_entry_eq]
  exact k_X1_walkCount B.exec B.bytes hml (findClass_of_methodNamed B.named) (atoms_spec (ws := wsX1_walkCount) B.pre) hK (fun q hq => Or.inr hq) (fun r fY' fZ' H locs ls pc hd hp hP hD hS => W.lret B.exec B.bytes B.returns (fun t ht hW => ⟨⟨r, (fY', fZ'), rfl, hp, by rw [ht]; exact hP, hD⟩, hS.F ht⟩) hS.2.2 hd) h s.heap [] _ hP hD va_S.rf hl

def wp_X1_ringCount_b5 (x1 : Int32) (x2 : Int64) (x4 : Int32) (tk : Int32) (fB : (Nat → Int32)) (fY : (Nat → Int64)) (fZ : (Nat → Int64)) (post : Int64 → (Nat → Int64) → (Nat → Int64) → Prop)  : Prop := ∀ P5 : Int64 → Int32 → (Nat → Int64) → (Nat → Int64) → Prop, (∀ (x2 : Int64) (x4 : Int32) (fY : (Nat → Int64)) (fZ : (Nat → Int64)), ((tk ≤ x4 → post (if (1000000000000000000 : Int64) < x2 then (1000000000000000000 : Int64) else x2) fY fZ) ∧ (¬ tk ≤ x4 → wp_X1_walkCount x4 x4 x1 tk fB fY fZ (fun (r21 : Int64) (fY_21 : (Nat → Int64)) (fZ_21 : (Nat → Int64)) => (∀ v25 : Int64, v25 = (x2 + r21) → (∀ v26 : Int32, v26 = x4 + (1 : Int32) → P5 v25 v26 fY_21 fZ_21))))) → P5 x2 x4 fY fZ) → P5 x2 x4 fY fZ
def wp_X1_ringCount (x1 : Int32) (tk : Int32) (fB : (Nat → Int32)) (fY : (Nat → Int64)) (fZ : (Nat → Int64)) (post : Int64 → (Nat → Int64) → (Nat → Int64) → Prop) : Prop := wp_X1_ringCount_b5 x1 (0 : Int64) (0 : Int32) tk fB fY fZ post
abbrev rm_X1_ringCount : Room := { frames := 4, cells := 0, slots := 0, locals := 91 }
theorem hv_X1_ringCount : yX1_ringCount.cls = RX1 ∧ yX1_ringCount.cls ≠ "java/lang/invoke/MethodHandle" ∧ yX1_ringCount.cls ≠ "java/lang/invoke/VarHandle" ∧ (parseMethodDescriptor yX1_ringCount.desc).map (fun d => d.parameters.length) = some 1 := by decide +kernel
set_option maxHeartbeats 4000000 in
set_option maxRecDepth 100000 in
theorem k_X1_ringCount {p : Program} {l : Launch} {e : Env} {s : State} {m : MethodId} {args : Array Value} {below : List Frame} {meth : Method} {c : Code} {Q : State → Prop} {A : Nat → Prop} {dC : Nat → ClassId} {dI : Nat → Nat → Nat} {cI cJ cZ : ClassId} (hx : p.tables.exec = Jvm.exec) (hb : c.code = cX1_ringCount) (hml : c.maxLocals = 5) (hown : s.vm.findClass RX1 = some m.cls) (hts : ∀ w ∈ wsX1_ringCount, w.before args s = true) (hK : va_K (dC, dI) vwCl (mTy cI cJ cZ) s) (hA : ∀ q, s.heap.size ≤ q → A q) {aT aB aWK aRE aY aZ : Nat} {tk : Int32} {fB : (Nat → Int32)} {fY : (Nat → Int64)} {fZ : (Nat → Int64)} {x1 : Int32} {post : Int64 → (Nat → Int64) → (Nat → Int64) → Prop} (ret : ∀ (r : Int64) (fY' : (Nat → Int64)) (fZ' : (Nat → Int64)) (H : Heap) (locs : List Loc) (ls : Array Slot) (pc : Nat), decode cX1_ringCount pc = .ok (.lreturn, 1) → post r fY' fZ' → va_P (dC, dI) vwCl [oT aT aB aWK aRE aY aZ tk, aI aB cI 6 fB, aJ aY cJ 6 fY', aJ aZ cJ 6 fZ'] H → va_D A [oT aT aB aWK aRE aY aZ tk, aI aB cI 6 fB, aJ aY cJ 6 fY', aJ aZ cJ 6 fZ'] → va_S A s.heap H locs → W p l e rm_X1_ringCount s m args below meth c H locs 0 0 Q (F0 m pc ls [.long r])) (h : wp_X1_ringCount x1 tk fB fY fZ post) : mW p l e rm_X1_ringCount s m args below meth c 0 0 Q A (dC, dI) 5 [oT aT aB aWK aRE aY aZ tk, aI aB cI 6 fB, aJ aY cJ 6 fY, aJ aZ cJ 6 fZ] [(0, .ref aT), (1, .int x1)] 0 [] := by
  have in_X1 : ∀ w ∈ wsX10, w ∈ wsX1_ringCount := fun w hw => List.mem_cons_of_mem _ (List.mem_append_right _ hw)
  have kw_code_Lib_MathLoose_min_long_x_Lib_MathLoose_min_long_code_4_some_long_ := hts (.code Lib.MathLoose.min_long.x Lib.MathLoose.min_long.code 4 (some .long)) (List.mem_of_getElem? (i := 6) rfl)
  have k_60 := hts (.constantLong RX1 60 (1000000000000000000)) (List.mem_of_getElem? (i := 2) rfl)
  have k_38 := hts (.fieldLink RX1 38 "RingTasks$Task" "size" "I") (List.mem_of_getElem? (i := 1) rfl)
  have kw_initialized_java_lang_Math_ := hts (.initialized "java/lang/Math") (List.mem_of_getElem? (i := 5) rfl)
  have k_62 := hts (.methodLink RX1 62 Lib.MathLoose.min_long.x) (List.mem_of_getElem? (i := 3) rfl)
  have kw_static_Lib_MathLoose_min_long_x := hts (.static Lib.MathLoose.min_long.x) (List.mem_of_getElem? (i := 4) rfl)
  have B5 : ∀ (x1 : Int32) (x2 : Int64) (x4 : Int32) (fY : (Nat → Int64)) (fZ : (Nat → Int64)), wp_X1_ringCount_b5 x1 x2 x4 tk fB fY fZ post → mW p l e rm_X1_ringCount s m args below meth c 0 0 Q A (dC, dI) 5 [oT aT aB aWK aRE aY aZ tk, aI aB cI 6 fB, aJ aY cJ 6 fY, aJ aZ cJ 6 fZ] [(0, .ref aT), (1, .int x1), (2, .long x2), (4, .int x4)] 5 [] := by
    intro x1 x2 x4 fY fZ h
    unfold wp_X1_ringCount_b5 at h
    refine h (fun (x2 : Int64) (x4 : Int32) (fY : (Nat → Int64)) (fZ : (Nat → Int64)) => mW p l e rm_X1_ringCount s m args below meth c 0 0 Q A (dC, dI) 5 [oT aT aB aWK aRE aY aZ tk, aI aB cI 6 fB, aJ aY cJ 6 fY, aJ aZ cJ 6 fZ] [(0, .ref aT), (1, .int x1), (2, .long x2), (4, .int x4)] 5 []) ?_
    intro x2 x4 fY fZ h
    intro H locs ls hP hD hS hl
    refine lv_iload hx hb dX1_ringCount_5 (lv_at hl 3 rfl) ?_
    refine lv_aload_n hx hb dX1_ringCount_7 rfl (lv_at hl 0 rfl) ?_
    refine va_get (D := (dC, dI)) (ci := 1) (v := .int tk) (C := RX1) (T := TX1) (N := 6) hx hb hts in_X1 hown hK hP 0 rfl rfl 0 (by decide) k_38 (fun _ h9 => h9) rfl dX1_ringCount_8 ?_
    refine lv_icmp_ge (tgt := 32) hx hb dX1_ringCount_11 (by decide) (fun q11 => ?_) (fun q11 => ?_)
    · have h := h.1 q11
      refine lv_lload_n hx hb dX1_ringCount_32 rfl (lv_at hl 2 rfl) ?_
      refine lv_ldc2 (v := 1000000000000000000) hx hb hown k_60 dX1_ringCount_33 ?_
      refine va_mmin_long hx hb (hml.trans hl.1.symm) hown k_62 kw_static_Lib_MathLoose_min_long_x kw_initialized_java_lang_Math_ kw_code_Lib_MathLoose_min_long_x_Lib_MathLoose_min_long_code_4_some_long_ (Nat.le_of_ble_eq_true rfl) (Nat.le_of_ble_eq_true rfl) (Nat.le_of_ble_eq_true rfl) (Nat.le_of_ble_eq_true rfl) dX1_ringCount_36 ?_
      exact ret _ _ _ H locs ls _ dX1_ringCount_39 h hP hD hS
    · have h := h.2 q11
      refine lv_lload_n hx hb dX1_ringCount_14 rfl (lv_at hl 2 rfl) ?_
      refine lv_aload_n hx hb dX1_ringCount_15 rfl (lv_at hl 0 rfl) ?_
      refine lv_iload hx hb dX1_ringCount_16 (lv_at hl 3 rfl) ?_
      refine lv_iload hx hb dX1_ringCount_18 (lv_at hl 3 rfl) ?_
      refine lv_iload_n hx hb dX1_ringCount_20 rfl (lv_at hl 1 rfl) ?_
      refine mVl (wr := []) (As := [.int x4, .int x4, .int x1]) (rest := [.long x2]) ⟨hx, hb, hml, hown, hts⟩ (c_X1_walkCount (l := l) (dC := dC) (dI := dI) (cI := cI) (cJ := cJ) (cZ := cZ) (aT := aT) (aB := aB) (aWK := aWK) (aRE := aRE) (aY := aY) (aZ := aZ) h) (cwV 3 hts gX1_ringCount_X1_walkCount rfl rfl rfl hv_X1_walkCount ⟨Nat.le_of_ble_eq_true rfl, Nat.le_of_ble_eq_true rfl⟩) hK hP hD hS hA [0, 1, 2, 3] [] rfl rfl rfl rfl (by decide) 1 rfl rfl rfl rfl hl.1 rfl (Nat.le_of_ble_eq_true rfl) ⟨Nat.zero_le _, Nat.zero_le _⟩ dX1_ringCount_21 (fun r21 u21 H locs h hP hD hS => ?_)
      obtain ⟨fY_21, fZ_21⟩ := u21
      have hP : va_P (dC, dI) vwCl [oT aT aB aWK aRE aY aZ tk, aI aB cI 6 fB, aJ aY cJ 6 fY_21, aJ aZ cJ 6 fZ_21] H := hP.sub [0, 1, 2, 3] rfl
      have hD : va_D A [oT aT aB aWK aRE aY aZ tk, aI aB cI 6 fB, aJ aY cJ 6 fY_21, aJ aZ cJ 6 fZ_21] := hD.sub [0, 1, 2, 3] rfl rfl
      refine lv_ladd hx hb dX1_ringCount_24 ?_
      refine lv_topl (fun v25 ev25 => ?_)
      have h := h v25 ev25
      refine lv_lstore_n (lv' := [(2, .long v25), (0, .ref aT), (1, .int x1), (4, .int x4)]) hx hb dX1_ringCount_25 rfl hl (by decide) rfl (fun ls hl => ?_)
      obtain ⟨v26, ev26⟩ : ∃ y : Int32, y = x4 + (1 : Int32) := ⟨_, rfl⟩
      have h := h v26 ev26
      refine lv_iinc (v := v26) (lv' := [(4, .int v26), (2, .long v25), (0, .ref aT), (1, .int x1)]) hx hb dX1_ringCount_26 hl (k := 3) rfl (by rw [ev26]; rfl) (by decide) rfl (fun ls hl => ?_)
      refine lv_goto (tgt := 5) hx hb dX1_ringCount_29 (by decide) ?_
      exact h H locs ls hP hD hS (lv_sub hl [2, 3, 1, 0] rfl)
  unfold wp_X1_ringCount at h
  intro H locs ls hP hD hS hl
  refine lv_lconst (v := 0) hx hb dX1_ringCount_0 (by decide) ?_
  refine lv_lstore_n (lv' := [(2, .long (0 : Int64)), (0, .ref aT), (1, .int x1)]) hx hb dX1_ringCount_1 rfl hl (by decide) rfl (fun ls hl => ?_)
  refine lv_iconst (v := 0) hx hb dX1_ringCount_2 (by decide) ?_
  refine lv_istore (lv' := [(4, .int (0 : Int32)), (2, .long (0 : Int64)), (0, .ref aT), (1, .int x1)]) hx hb dX1_ringCount_3 hl (by decide) rfl (fun ls hl => ?_)
  exact B5 _ _ _ _ _ h H locs ls hP hD hS (lv_sub hl [2, 3, 1, 0] rfl)
set_option maxHeartbeats 4000000 in
set_option maxRecDepth 100000 in
theorem c_X1_ringCount {l : Launch} {dC : Nat → ClassId} {dI : Nat → Nat → Nat} {cI cJ cZ : ClassId} {aT aB aWK aRE aY aZ : Nat} {tk : Int32} {fB : (Nat → Int32)} {fY : (Nat → Int64)} {fZ : (Nat → Int64)} {x1 : Int32} {post : Int64 → (Nat → Int64) → (Nat → Int64) → Prop} (h : wp_X1_ringCount x1 tk fB fY fZ post) : ∀ sz, Met l yX1_ringCount wsX1_ringCount rm_X1_ringCount (mP (dC, dI) (mTy cI cJ cZ) [.ref aT, .int x1] [oT aT aB aWK aRE aY aZ tk, aI aB cI 6 fB, aJ aY cJ 6 fY, aJ aZ cJ 6 fZ] sz) (va_Ql (fun (r : Int64) (u : (Nat → Int64) × (Nat → Int64)) => post r (u.1) (u.2)) (mB (dC, dI) (va_A [oT aT aB aWK aRE aY aZ tk, aI aB cI 6 fB, aJ aY cJ 6 fY, aJ aZ cJ 6 fZ] sz) (fun u => [oT aT aB aWK aRE aY aZ tk, aI aB cI 6 fB, aJ aY cJ 6 (u.1), aJ aZ cJ 6 (u.2)])) (va_A [oT aT aB aWK aRE aY aZ tk, aI aB cI 6 fB, aJ aY cJ 6 fY, aJ aZ cJ 6 fZ] sz)) 0 0 (va_A [oT aT aB aWK aRE aY aZ tk, aI aB cI 6 fB, aJ aY cJ 6 fY, aJ aZ cJ 6 fZ] sz) := by
  intro sz
  refine Met.ofW (cc := cX1_ringCount) (maxL := 5) (ret := (some .long)) (by decide) rfl ?_
  intro p e s m args below meth c s₁ B hml hv
  obtain ⟨rfl, hsz, hP, hK, hD0⟩ := hv
  have hlocks := B.notSynchronized
  subst hsz
  have hD := hD0.self (sz := s.heap.size)
  have hl := lv_entry ([.ref aT, .int x1]) (n := 5) (Nat.le_of_ble_eq_true rfl)
  rw [lg_entry_eq]
  exact k_X1_ringCount B.exec B.bytes hml (findClass_of_methodNamed B.named) (atoms_spec (ws := wsX1_ringCount) B.pre) hK (fun q hq => Or.inr hq) (fun r fY' fZ' H locs ls pc hd hp hP hD hS => W.lret B.exec B.bytes B.returns (fun t ht hW => ⟨⟨r, (fY', fZ'), rfl, hp, by rw [ht]; exact hP, hD⟩, hS.F ht⟩) hS.2.2 hd) h s.heap [] _ hP hD va_S.rf hl

def wp_X1_reachedFrom_b20 (x2 : Int32) (x3 : Int32) (x4 : Int32) (x5 : Int32) (tk : Int32) (fB : (Nat → Int32)) (post : Int32 → Prop) (P6 : Int32 → Int32 → Prop) : Prop := ∀ P20 : Int32 → Int32 → Prop, (∀ (x4 : Int32) (x5 : Int32), ((tk ≤ x5 → (∀ v59 : Int32, v59 = x3 + (1 : Int32) → P6 x4 v59)) ∧ (¬ tk ≤ x5 → wp_X1_holds x2 x5 (fun (r32 : Int32) => ((r32 = (0 : Int32) → (∀ v50 : Int32, v50 = x5 + (1 : Int32) → P20 x4 v50)) ∧ (¬ r32 = (0 : Int32) → (vp_in x5 6 ∧ (∀ v48 : Int32, v48 = (x4 ||| (fB x5.toNatClampNeg)) → (∀ v50 : Int32, v50 = x5 + (1 : Int32) → P20 v48 v50)))))))) → P20 x4 x5) → P20 x4 x5
def wp_X1_reachedFrom_b6 (x2 : Int32) (x3 : Int32) (tk : Int32) (fB : (Nat → Int32)) (post : Int32 → Prop)  : Prop := ∀ P6 : Int32 → Int32 → Prop, (∀ (x2 : Int32) (x3 : Int32), ((tk ≤ x3 → post x2) ∧ (¬ tk ≤ x3 → wp_X1_reachedFrom_b20 x2 x3 x2 (0 : Int32) tk fB post P6)) → P6 x2 x3) → P6 x2 x3
def wp_X1_reachedFrom (x1 : Int32) (tk : Int32) (fB : (Nat → Int32)) (post : Int32 → Prop) : Prop := (∀ v3 : Int32, v3 = ((1 : Int32) <<< (x1 &&& 31)) → wp_X1_reachedFrom_b6 v3 (1 : Int32) tk fB post)
abbrev rm_X1_reachedFrom : Room := { frames := 1, cells := 0, slots := 0, locals := 21 }
theorem hv_X1_reachedFrom : yX1_reachedFrom.cls = RX1 ∧ yX1_reachedFrom.cls ≠ "java/lang/invoke/MethodHandle" ∧ yX1_reachedFrom.cls ≠ "java/lang/invoke/VarHandle" ∧ (parseMethodDescriptor yX1_reachedFrom.desc).map (fun d => d.parameters.length) = some 1 := by decide +kernel
set_option maxHeartbeats 4000000 in
set_option maxRecDepth 100000 in
theorem k_X1_reachedFrom {p : Program} {l : Launch} {e : Env} {s : State} {m : MethodId} {args : Array Value} {below : List Frame} {meth : Method} {c : Code} {Q : State → Prop} {A : Nat → Prop} {dC : Nat → ClassId} {dI : Nat → Nat → Nat} {cI cJ cZ : ClassId} (hx : p.tables.exec = Jvm.exec) (hb : c.code = cX1_reachedFrom) (hml : c.maxLocals = 6) (hown : s.vm.findClass RX1 = some m.cls) (hts : ∀ w ∈ wsX1_reachedFrom, w.before args s = true) (hK : va_K (dC, dI) vwCl (mTy cI cJ cZ) s) (hA : ∀ q, s.heap.size ≤ q → A q) {aT aB aWK aRE aY aZ : Nat} {tk : Int32} {fB : (Nat → Int32)} {x1 : Int32} {post : Int32 → Prop} (ret : ∀ (r : Int32) (H : Heap) (locs : List Loc) (ls : Array Slot) (pc : Nat), decode cX1_reachedFrom pc = .ok (.ireturn, 1) → post r → va_P (dC, dI) vwCl [oT aT aB aWK aRE aY aZ tk, aI aB cI 6 fB] H → va_D A [oT aT aB aWK aRE aY aZ tk, aI aB cI 6 fB] → va_S A s.heap H locs → W p l e rm_X1_reachedFrom s m args below meth c H locs 0 0 Q (F0 m pc ls [.int r])) (h : wp_X1_reachedFrom x1 tk fB post) : mW p l e rm_X1_reachedFrom s m args below meth c 0 0 Q A (dC, dI) 6 [oT aT aB aWK aRE aY aZ tk, aI aB cI 6 fB] [(0, .ref aT), (1, .int x1)] 0 [] := by
  have in_X1 : ∀ w ∈ wsX10, w ∈ wsX1_reachedFrom := fun w hw => List.mem_cons_of_mem _ (List.mem_append_right _ hw)
  have k_38 := hts (.fieldLink RX1 38 "RingTasks$Task" "size" "I") (List.mem_of_getElem? (i := 1) rfl)
  have k_9 := hts (.fieldLink RX1 9 "RingTasks$Task" "behind" "[I") (List.mem_of_getElem? (i := 2) rfl)
  have B20 : ∀ (x2 : Int32) (x3 : Int32) (x4 : Int32) (x5 : Int32), ∀ (P6 : Int32 → Int32 → Prop) (hP6 : ∀ (x2 : Int32) (x3 : Int32), P6 x2 x3 → mW p l e rm_X1_reachedFrom s m args below meth c 0 0 Q A (dC, dI) 6 [oT aT aB aWK aRE aY aZ tk, aI aB cI 6 fB] [(0, .ref aT), (2, .int x2), (3, .int x3)] 6 []), wp_X1_reachedFrom_b20 x2 x3 x4 x5 tk fB post P6 → mW p l e rm_X1_reachedFrom s m args below meth c 0 0 Q A (dC, dI) 6 [oT aT aB aWK aRE aY aZ tk, aI aB cI 6 fB] [(0, .ref aT), (2, .int x2), (3, .int x3), (4, .int x4), (5, .int x5)] 20 [] := by
    intro x2 x3 x4 x5 P6 hP6 h
    unfold wp_X1_reachedFrom_b20 at h
    refine h (fun (x4 : Int32) (x5 : Int32) => mW p l e rm_X1_reachedFrom s m args below meth c 0 0 Q A (dC, dI) 6 [oT aT aB aWK aRE aY aZ tk, aI aB cI 6 fB] [(0, .ref aT), (2, .int x2), (3, .int x3), (4, .int x4), (5, .int x5)] 20 []) ?_
    intro x4 x5 h
    intro H locs ls hP hD hS hl
    refine lv_iload hx hb dX1_reachedFrom_20 (lv_at hl 4 rfl) ?_
    refine lv_aload_n hx hb dX1_reachedFrom_22 rfl (lv_at hl 0 rfl) ?_
    refine va_get (D := (dC, dI)) (ci := 1) (v := .int tk) (C := RX1) (T := TX1) (N := 6) hx hb hts in_X1 hown hK hP 0 rfl rfl 0 (by decide) k_38 (fun _ h9 => h9) rfl dX1_reachedFrom_23 ?_
    refine lv_icmp_ge (tgt := 56) hx hb dX1_reachedFrom_26 (by decide) (fun q26 => ?_) (fun q26 => ?_)
    · have h := h.1 q26
      refine lv_iload hx hb dX1_reachedFrom_56 (lv_at hl 3 rfl) ?_
      refine lv_istore_n (lv' := [(2, .int x4), (0, .ref aT), (3, .int x3), (4, .int x4), (5, .int x5)]) hx hb dX1_reachedFrom_58 rfl hl (by decide) rfl (fun ls hl => ?_)
      obtain ⟨v59, ev59⟩ : ∃ y : Int32, y = x3 + (1 : Int32) := ⟨_, rfl⟩
      have h := h v59 ev59
      refine lv_iinc (v := v59) (lv' := [(3, .int v59), (2, .int x4), (0, .ref aT), (4, .int x4), (5, .int x5)]) hx hb dX1_reachedFrom_59 hl (k := 2) rfl (by rw [ev59]; rfl) (by decide) rfl (fun ls hl => ?_)
      refine lv_goto (tgt := 6) hx hb dX1_reachedFrom_62 (by decide) ?_
      exact hP6 _ _ h H locs ls hP hD hS (lv_sub hl [2, 1, 0] rfl)
    · have h := h.2 q26
      refine lv_iload_n hx hb dX1_reachedFrom_29 rfl (lv_at hl 1 rfl) ?_
      refine lv_iload hx hb dX1_reachedFrom_30 (lv_at hl 4 rfl) ?_
      refine mSi (wr := [oT aT aB aWK aRE aY aZ tk, aI aB cI 6 fB]) (As := [.int x2, .int x5]) (rest := []) ⟨hx, hb, hml, hown, hts⟩ (c_X1_holds (l := l) (dC := dC) (dI := dI) (cI := cI) (cJ := cJ) (cZ := cZ)  h) (va_cwS 2 hts gX1_reachedFrom_X1_holds rfl rfl rfl hv_X1_holds ⟨Nat.le_of_ble_eq_true rfl, Nat.le_of_ble_eq_true rfl⟩) hK hP hD hS hA [] [0, 1] rfl rfl rfl rfl (by decide) rfl hl.1 rfl (Nat.le_of_ble_eq_true rfl) ⟨Nat.zero_le _, Nat.zero_le _⟩ dX1_reachedFrom_32 (fun r32 u32 H locs h hP hD hS => ?_)
      have hP : va_P (dC, dI) vwCl [oT aT aB aWK aRE aY aZ tk, aI aB cI 6 fB] H := hP.sub [0, 1] rfl
      have hD : va_D A [oT aT aB aWK aRE aY aZ tk, aI aB cI 6 fB] := hD.sub [0, 1] rfl rfl
      refine lv_if_eq (tgt := 50) hx hb dX1_reachedFrom_35 (by decide) (fun q35 => ?_) (fun q35 => ?_)
      · have h := h.1 q35
        obtain ⟨v50, ev50⟩ : ∃ y : Int32, y = x5 + (1 : Int32) := ⟨_, rfl⟩
        have h := h v50 ev50
        refine lv_iinc (v := v50) (lv' := [(5, .int v50), (0, .ref aT), (2, .int x2), (3, .int x3), (4, .int x4)]) hx hb dX1_reachedFrom_50 hl (k := 4) rfl (by rw [ev50]; rfl) (by decide) rfl (fun ls hl => ?_)
        refine lv_goto (tgt := 20) hx hb dX1_reachedFrom_53 (by decide) ?_
        exact h H locs ls hP hD hS (lv_sub hl [1, 2, 3, 4, 0] rfl)
      · have h := h.2 q35
        refine lv_iload hx hb dX1_reachedFrom_38 (lv_at hl 3 rfl) ?_
        refine lv_aload_n hx hb dX1_reachedFrom_40 rfl (lv_at hl 0 rfl) ?_
        refine va_get (D := (dC, dI)) (ci := 1) (v := .ref aB) (C := RX1) (T := TX1) (N := 6) hx hb hts in_X1 hown hK hP 0 rfl rfl 1 (by decide) k_9 (fun _ h9 => h9) rfl dX1_reachedFrom_41 ?_
        refine lv_iload hx hb dX1_reachedFrom_44 (lv_at hl 4 rfl) ?_
        refine va_iald (D := (dC, dI)) hx hb hK hP 1 0 rfl rfl h.1 dX1_reachedFrom_46 ?_
        have h := h.2
        refine lv_ior hx hb dX1_reachedFrom_47 ?_
        refine lv_topi (fun v48 ev48 => ?_)
        have h := h v48 ev48
        refine lv_istore (lv' := [(4, .int v48), (0, .ref aT), (2, .int x2), (3, .int x3), (5, .int x5)]) hx hb dX1_reachedFrom_48 hl (by decide) rfl (fun ls hl => ?_)
        obtain ⟨v50, ev50⟩ : ∃ y : Int32, y = x5 + (1 : Int32) := ⟨_, rfl⟩
        have h := h v50 ev50
        refine lv_iinc (v := v50) (lv' := [(5, .int v50), (4, .int v48), (0, .ref aT), (2, .int x2), (3, .int x3)]) hx hb dX1_reachedFrom_50 hl (k := 4) rfl (by rw [ev50]; rfl) (by decide) rfl (fun ls hl => ?_)
        refine lv_goto (tgt := 20) hx hb dX1_reachedFrom_53 (by decide) ?_
        exact h H locs ls hP hD hS (lv_sub hl [2, 3, 4, 1, 0] rfl)
  have B6 : ∀ (x2 : Int32) (x3 : Int32), wp_X1_reachedFrom_b6 x2 x3 tk fB post → mW p l e rm_X1_reachedFrom s m args below meth c 0 0 Q A (dC, dI) 6 [oT aT aB aWK aRE aY aZ tk, aI aB cI 6 fB] [(0, .ref aT), (2, .int x2), (3, .int x3)] 6 [] := by
    intro x2 x3 h
    unfold wp_X1_reachedFrom_b6 at h
    refine h (fun (x2 : Int32) (x3 : Int32) => mW p l e rm_X1_reachedFrom s m args below meth c 0 0 Q A (dC, dI) 6 [oT aT aB aWK aRE aY aZ tk, aI aB cI 6 fB] [(0, .ref aT), (2, .int x2), (3, .int x3)] 6 []) ?_
    intro x2 x3 h
    intro H locs ls hP hD hS hl
    refine lv_iload_n hx hb dX1_reachedFrom_6 rfl (lv_at hl 2 rfl) ?_
    refine lv_aload_n hx hb dX1_reachedFrom_7 rfl (lv_at hl 0 rfl) ?_
    refine va_get (D := (dC, dI)) (ci := 1) (v := .int tk) (C := RX1) (T := TX1) (N := 6) hx hb hts in_X1 hown hK hP 0 rfl rfl 0 (by decide) k_38 (fun _ h9 => h9) rfl dX1_reachedFrom_8 ?_
    refine lv_icmp_ge (tgt := 65) hx hb dX1_reachedFrom_11 (by decide) (fun q11 => ?_) (fun q11 => ?_)
    · have h := h.1 q11
      refine lv_iload_n hx hb dX1_reachedFrom_65 rfl (lv_at hl 1 rfl) ?_
      exact ret _  H locs ls _ dX1_reachedFrom_66 h hP hD hS
    · have h := h.2 q11
      refine lv_iload_n hx hb dX1_reachedFrom_14 rfl (lv_at hl 1 rfl) ?_
      refine lv_istore (lv' := [(4, .int x2), (0, .ref aT), (2, .int x2), (3, .int x3)]) hx hb dX1_reachedFrom_15 hl (by decide) rfl (fun ls hl => ?_)
      refine lv_iconst (v := 0) hx hb dX1_reachedFrom_17 (by decide) ?_
      refine lv_istore (lv' := [(5, .int (0 : Int32)), (4, .int x2), (0, .ref aT), (2, .int x2), (3, .int x3)]) hx hb dX1_reachedFrom_18 hl (by decide) rfl (fun ls hl => ?_)
      exact B20 _ _ _ _ _ (fun _ _ hq => hq) h H locs ls hP hD hS (lv_sub hl [2, 3, 4, 1, 0] rfl)
  unfold wp_X1_reachedFrom at h
  intro H locs ls hP hD hS hl
  refine lv_iconst (v := 1) hx hb dX1_reachedFrom_0 (by decide) ?_
  refine lv_iload_n hx hb dX1_reachedFrom_1 rfl (lv_at hl 1 rfl) ?_
  refine lv_ishl hx hb dX1_reachedFrom_2 ?_
  refine lv_topi (fun v3 ev3 => ?_)
  have h := h v3 ev3
  refine lv_istore_n (lv' := [(2, .int v3), (0, .ref aT), (1, .int x1)]) hx hb dX1_reachedFrom_3 rfl hl (by decide) rfl (fun ls hl => ?_)
  refine lv_iconst (v := 1) hx hb dX1_reachedFrom_4 (by decide) ?_
  refine lv_istore_n (lv' := [(3, .int (1 : Int32)), (2, .int v3), (0, .ref aT), (1, .int x1)]) hx hb dX1_reachedFrom_5 rfl hl (by decide) rfl (fun ls hl => ?_)
  exact B6 _ _ h H locs ls hP hD hS (lv_sub hl [2, 1, 0] rfl)
set_option maxHeartbeats 4000000 in
set_option maxRecDepth 100000 in
theorem c_X1_reachedFrom {l : Launch} {dC : Nat → ClassId} {dI : Nat → Nat → Nat} {cI cJ cZ : ClassId} {aT aB aWK aRE aY aZ : Nat} {tk : Int32} {fB : (Nat → Int32)} {x1 : Int32} {post : Int32 → Prop} (h : wp_X1_reachedFrom x1 tk fB post) : ∀ sz, Met l yX1_reachedFrom wsX1_reachedFrom rm_X1_reachedFrom (mP (dC, dI) (mTy cI cJ cZ) [.ref aT, .int x1] [oT aT aB aWK aRE aY aZ tk, aI aB cI 6 fB] sz) (va_Qi (fun (r : Int32) (u : Unit) => post r ) (mB (dC, dI) (va_A [oT aT aB aWK aRE aY aZ tk, aI aB cI 6 fB] sz) (fun u => [oT aT aB aWK aRE aY aZ tk, aI aB cI 6 fB])) (va_A [oT aT aB aWK aRE aY aZ tk, aI aB cI 6 fB] sz)) 0 0 (va_A [oT aT aB aWK aRE aY aZ tk, aI aB cI 6 fB] sz) := by
  intro sz
  refine Met.ofW (cc := cX1_reachedFrom) (maxL := 6) (ret := (some .int)) (by decide) rfl ?_
  intro p e s m args below meth c s₁ B hml hv
  obtain ⟨rfl, hsz, hP, hK, hD0⟩ := hv
  have hlocks := B.notSynchronized
  subst hsz
  have hD := hD0.self (sz := s.heap.size)
  have hl := lv_entry ([.ref aT, .int x1]) (n := 6) (Nat.le_of_ble_eq_true rfl)
  rw [lg_entry_eq]
  exact k_X1_reachedFrom B.exec B.bytes hml (findClass_of_methodNamed B.named) (atoms_spec (ws := wsX1_reachedFrom) B.pre) hK (fun q hq => Or.inr hq) (fun r H locs ls pc hd hp hP hD hS => W.iret B.exec B.bytes B.returns (fun t ht hW => ⟨⟨r, (), rfl, hp, by rw [ht]; exact hP, hD⟩, hS.F ht⟩) hS.2.2 hd) h s.heap [] _ hP hD va_S.rf hl

def wp_X1_leastOfBlock_b8 (x1 : Int32) (x2 : Int32) (x3 : Int32) (tk : Int32) (fB : (Nat → Int32)) (post : Int32 → Prop)  : Prop := ∀ P8 : Int32 → Prop, (∀ (x3 : Int32), ((x1 ≤ x3 → post x1) ∧ (¬ x1 ≤ x3 → wp_X1_holds x2 x3 (fun (r15 : Int32) => ((r15 = (0 : Int32) → (∀ v35 : Int32, v35 = x3 + (1 : Int32) → P8 v35)) ∧ (¬ r15 = (0 : Int32) → wp_X1_reachedFrom x3 tk fB (fun (r23 : Int32) => wp_X1_holds r23 x1 (fun (r27 : Int32) => ((r27 = (0 : Int32) → (∀ v35 : Int32, v35 = x3 + (1 : Int32) → P8 v35)) ∧ (¬ r27 = (0 : Int32) → post x3))))))))) → P8 x3) → P8 x3
def wp_X1_leastOfBlock (x1 : Int32) (tk : Int32) (fB : (Nat → Int32)) (post : Int32 → Prop) : Prop := wp_X1_reachedFrom x1 tk fB (fun (r2 : Int32) => wp_X1_leastOfBlock_b8 x1 r2 (0 : Int32) tk fB post)
abbrev rm_X1_leastOfBlock : Room := { frames := 2, cells := 0, slots := 0, locals := 46 }
theorem hv_X1_leastOfBlock : yX1_leastOfBlock.cls = RX1 ∧ yX1_leastOfBlock.cls ≠ "java/lang/invoke/MethodHandle" ∧ yX1_leastOfBlock.cls ≠ "java/lang/invoke/VarHandle" ∧ (parseMethodDescriptor yX1_leastOfBlock.desc).map (fun d => d.parameters.length) = some 1 := by decide +kernel
set_option maxHeartbeats 4000000 in
set_option maxRecDepth 100000 in
theorem k_X1_leastOfBlock {p : Program} {l : Launch} {e : Env} {s : State} {m : MethodId} {args : Array Value} {below : List Frame} {meth : Method} {c : Code} {Q : State → Prop} {A : Nat → Prop} {dC : Nat → ClassId} {dI : Nat → Nat → Nat} {cI cJ cZ : ClassId} (hx : p.tables.exec = Jvm.exec) (hb : c.code = cX1_leastOfBlock) (hml : c.maxLocals = 4) (hown : s.vm.findClass RX1 = some m.cls) (hts : ∀ w ∈ wsX1_leastOfBlock, w.before args s = true) (hK : va_K (dC, dI) vwCl (mTy cI cJ cZ) s) (hA : ∀ q, s.heap.size ≤ q → A q) {aT aB aWK aRE aY aZ : Nat} {tk : Int32} {fB : (Nat → Int32)} {x1 : Int32} {post : Int32 → Prop} (ret : ∀ (r : Int32) (H : Heap) (locs : List Loc) (ls : Array Slot) (pc : Nat), decode cX1_leastOfBlock pc = .ok (.ireturn, 1) → post r → va_P (dC, dI) vwCl [oT aT aB aWK aRE aY aZ tk, aI aB cI 6 fB] H → va_D A [oT aT aB aWK aRE aY aZ tk, aI aB cI 6 fB] → va_S A s.heap H locs → W p l e rm_X1_leastOfBlock s m args below meth c H locs 0 0 Q (F0 m pc ls [.int r])) (h : wp_X1_leastOfBlock x1 tk fB post) : mW p l e rm_X1_leastOfBlock s m args below meth c 0 0 Q A (dC, dI) 4 [oT aT aB aWK aRE aY aZ tk, aI aB cI 6 fB] [(0, .ref aT), (1, .int x1)] 0 [] := by
  have B8 : ∀ (x1 : Int32) (x2 : Int32) (x3 : Int32), wp_X1_leastOfBlock_b8 x1 x2 x3 tk fB post → mW p l e rm_X1_leastOfBlock s m args below meth c 0 0 Q A (dC, dI) 4 [oT aT aB aWK aRE aY aZ tk, aI aB cI 6 fB] [(0, .ref aT), (1, .int x1), (2, .int x2), (3, .int x3)] 8 [] := by
    intro x1 x2 x3 h
    unfold wp_X1_leastOfBlock_b8 at h
    refine h (fun (x3 : Int32) => mW p l e rm_X1_leastOfBlock s m args below meth c 0 0 Q A (dC, dI) 4 [oT aT aB aWK aRE aY aZ tk, aI aB cI 6 fB] [(0, .ref aT), (1, .int x1), (2, .int x2), (3, .int x3)] 8 []) ?_
    intro x3 h
    intro H locs ls hP hD hS hl
    refine lv_iload_n hx hb dX1_leastOfBlock_8 rfl (lv_at hl 3 rfl) ?_
    refine lv_iload_n hx hb dX1_leastOfBlock_9 rfl (lv_at hl 1 rfl) ?_
    refine lv_icmp_ge (tgt := 41) hx hb dX1_leastOfBlock_10 (by decide) (fun q10 => ?_) (fun q10 => ?_)
    · have h := h.1 q10
      refine lv_iload_n hx hb dX1_leastOfBlock_41 rfl (lv_at hl 1 rfl) ?_
      exact ret _  H locs ls _ dX1_leastOfBlock_42 h hP hD hS
    · have h := h.2 q10
      refine lv_iload_n hx hb dX1_leastOfBlock_13 rfl (lv_at hl 2 rfl) ?_
      refine lv_iload_n hx hb dX1_leastOfBlock_14 rfl (lv_at hl 3 rfl) ?_
      refine mSi (wr := [oT aT aB aWK aRE aY aZ tk, aI aB cI 6 fB]) (As := [.int x2, .int x3]) (rest := []) ⟨hx, hb, hml, hown, hts⟩ (c_X1_holds (l := l) (dC := dC) (dI := dI) (cI := cI) (cJ := cJ) (cZ := cZ)  h) (va_cwS 2 hts gX1_leastOfBlock_X1_holds rfl rfl rfl hv_X1_holds ⟨Nat.le_of_ble_eq_true rfl, Nat.le_of_ble_eq_true rfl⟩) hK hP hD hS hA [] [0, 1] rfl rfl rfl rfl (by decide) rfl hl.1 rfl (Nat.le_of_ble_eq_true rfl) ⟨Nat.zero_le _, Nat.zero_le _⟩ dX1_leastOfBlock_15 (fun r15 u15 H locs h hP hD hS => ?_)
      have hP : va_P (dC, dI) vwCl [oT aT aB aWK aRE aY aZ tk, aI aB cI 6 fB] H := hP.sub [0, 1] rfl
      have hD : va_D A [oT aT aB aWK aRE aY aZ tk, aI aB cI 6 fB] := hD.sub [0, 1] rfl rfl
      refine lv_if_eq (tgt := 35) hx hb dX1_leastOfBlock_18 (by decide) (fun q18 => ?_) (fun q18 => ?_)
      · have h := h.1 q18
        obtain ⟨v35, ev35⟩ : ∃ y : Int32, y = x3 + (1 : Int32) := ⟨_, rfl⟩
        have h := h v35 ev35
        refine lv_iinc (v := v35) (lv' := [(3, .int v35), (0, .ref aT), (1, .int x1), (2, .int x2)]) hx hb dX1_leastOfBlock_35 hl (k := 3) rfl (by rw [ev35]; rfl) (by decide) rfl (fun ls hl => ?_)
        refine lv_goto (tgt := 8) hx hb dX1_leastOfBlock_38 (by decide) ?_
        exact h H locs ls hP hD hS (lv_sub hl [1, 2, 3, 0] rfl)
      · have h := h.2 q18
        refine lv_aload_n hx hb dX1_leastOfBlock_21 rfl (lv_at hl 0 rfl) ?_
        refine lv_iload_n hx hb dX1_leastOfBlock_22 rfl (lv_at hl 3 rfl) ?_
        refine mVi (wr := []) (As := [.int x3]) (rest := []) ⟨hx, hb, hml, hown, hts⟩ (c_X1_reachedFrom (l := l) (dC := dC) (dI := dI) (cI := cI) (cJ := cJ) (cZ := cZ) (aT := aT) (aB := aB) (aWK := aWK) (aRE := aRE) (aY := aY) (aZ := aZ) h) (cwV 1 hts gX1_leastOfBlock_X1_reachedFrom rfl rfl rfl hv_X1_reachedFrom ⟨Nat.le_of_ble_eq_true rfl, Nat.le_of_ble_eq_true rfl⟩) hK hP hD hS hA [0, 1] [] rfl rfl rfl rfl (by decide) 1 rfl rfl rfl rfl hl.1 rfl (Nat.le_of_ble_eq_true rfl) ⟨Nat.zero_le _, Nat.zero_le _⟩ dX1_leastOfBlock_23 (fun r23 u23 H locs h hP hD hS => ?_)
        have hP : va_P (dC, dI) vwCl [oT aT aB aWK aRE aY aZ tk, aI aB cI 6 fB] H := hP.sub [0, 1] rfl
        have hD : va_D A [oT aT aB aWK aRE aY aZ tk, aI aB cI 6 fB] := hD.sub [0, 1] rfl rfl
        refine lv_iload_n hx hb dX1_leastOfBlock_26 rfl (lv_at hl 1 rfl) ?_
        refine mSi (wr := [oT aT aB aWK aRE aY aZ tk, aI aB cI 6 fB]) (As := [.int r23, .int x1]) (rest := []) ⟨hx, hb, hml, hown, hts⟩ (c_X1_holds (l := l) (dC := dC) (dI := dI) (cI := cI) (cJ := cJ) (cZ := cZ)  h) (va_cwS 2 hts gX1_leastOfBlock_X1_holds rfl rfl rfl hv_X1_holds ⟨Nat.le_of_ble_eq_true rfl, Nat.le_of_ble_eq_true rfl⟩) hK hP hD hS hA [] [0, 1] rfl rfl rfl rfl (by decide) rfl hl.1 rfl (Nat.le_of_ble_eq_true rfl) ⟨Nat.zero_le _, Nat.zero_le _⟩ dX1_leastOfBlock_27 (fun r27 u27 H locs h hP hD hS => ?_)
        have hP : va_P (dC, dI) vwCl [oT aT aB aWK aRE aY aZ tk, aI aB cI 6 fB] H := hP.sub [0, 1] rfl
        have hD : va_D A [oT aT aB aWK aRE aY aZ tk, aI aB cI 6 fB] := hD.sub [0, 1] rfl rfl
        refine lv_if_eq (tgt := 35) hx hb dX1_leastOfBlock_30 (by decide) (fun q30 => ?_) (fun q30 => ?_)
        · have h := h.1 q30
          obtain ⟨v35, ev35⟩ : ∃ y : Int32, y = x3 + (1 : Int32) := ⟨_, rfl⟩
          have h := h v35 ev35
          refine lv_iinc (v := v35) (lv' := [(3, .int v35), (0, .ref aT), (1, .int x1), (2, .int x2)]) hx hb dX1_leastOfBlock_35 hl (k := 3) rfl (by rw [ev35]; rfl) (by decide) rfl (fun ls hl => ?_)
          refine lv_goto (tgt := 8) hx hb dX1_leastOfBlock_38 (by decide) ?_
          exact h H locs ls hP hD hS (lv_sub hl [1, 2, 3, 0] rfl)
        · have h := h.2 q30
          refine lv_iload_n hx hb dX1_leastOfBlock_33 rfl (lv_at hl 3 rfl) ?_
          exact ret _  H locs ls _ dX1_leastOfBlock_34 h hP hD hS
  unfold wp_X1_leastOfBlock at h
  intro H locs ls hP hD hS hl
  refine lv_aload_n hx hb dX1_leastOfBlock_0 rfl (lv_at hl 0 rfl) ?_
  refine lv_iload_n hx hb dX1_leastOfBlock_1 rfl (lv_at hl 1 rfl) ?_
  refine mVi (wr := []) (As := [.int x1]) (rest := []) ⟨hx, hb, hml, hown, hts⟩ (c_X1_reachedFrom (l := l) (dC := dC) (dI := dI) (cI := cI) (cJ := cJ) (cZ := cZ) (aT := aT) (aB := aB) (aWK := aWK) (aRE := aRE) (aY := aY) (aZ := aZ) h) (cwV 1 hts gX1_leastOfBlock_X1_reachedFrom rfl rfl rfl hv_X1_reachedFrom ⟨Nat.le_of_ble_eq_true rfl, Nat.le_of_ble_eq_true rfl⟩) hK hP hD hS hA [0, 1] [] rfl rfl rfl rfl (by decide) 1 rfl rfl rfl rfl hl.1 rfl (Nat.le_of_ble_eq_true rfl) ⟨Nat.zero_le _, Nat.zero_le _⟩ dX1_leastOfBlock_2 (fun r2 u2 H locs h hP hD hS => ?_)
  have hP : va_P (dC, dI) vwCl [oT aT aB aWK aRE aY aZ tk, aI aB cI 6 fB] H := hP.sub [0, 1] rfl
  have hD : va_D A [oT aT aB aWK aRE aY aZ tk, aI aB cI 6 fB] := hD.sub [0, 1] rfl rfl
  refine lv_istore_n (lv' := [(2, .int r2), (0, .ref aT), (1, .int x1)]) hx hb dX1_leastOfBlock_5 rfl hl (by decide) rfl (fun ls hl => ?_)
  refine lv_iconst (v := 0) hx hb dX1_leastOfBlock_6 (by decide) ?_
  refine lv_istore_n (lv' := [(3, .int (0 : Int32)), (2, .int r2), (0, .ref aT), (1, .int x1)]) hx hb dX1_leastOfBlock_7 rfl hl (by decide) rfl (fun ls hl => ?_)
  exact B8 _ _ _ h H locs ls hP hD hS (lv_sub hl [2, 3, 1, 0] rfl)
set_option maxHeartbeats 4000000 in
set_option maxRecDepth 100000 in
theorem c_X1_leastOfBlock {l : Launch} {dC : Nat → ClassId} {dI : Nat → Nat → Nat} {cI cJ cZ : ClassId} {aT aB aWK aRE aY aZ : Nat} {tk : Int32} {fB : (Nat → Int32)} {x1 : Int32} {post : Int32 → Prop} (h : wp_X1_leastOfBlock x1 tk fB post) : ∀ sz, Met l yX1_leastOfBlock wsX1_leastOfBlock rm_X1_leastOfBlock (mP (dC, dI) (mTy cI cJ cZ) [.ref aT, .int x1] [oT aT aB aWK aRE aY aZ tk, aI aB cI 6 fB] sz) (va_Qi (fun (r : Int32) (u : Unit) => post r ) (mB (dC, dI) (va_A [oT aT aB aWK aRE aY aZ tk, aI aB cI 6 fB] sz) (fun u => [oT aT aB aWK aRE aY aZ tk, aI aB cI 6 fB])) (va_A [oT aT aB aWK aRE aY aZ tk, aI aB cI 6 fB] sz)) 0 0 (va_A [oT aT aB aWK aRE aY aZ tk, aI aB cI 6 fB] sz) := by
  intro sz
  refine Met.ofW (cc := cX1_leastOfBlock) (maxL := 4) (ret := (some .int)) (by decide) rfl ?_
  intro p e s m args below meth c s₁ B hml hv
  obtain ⟨rfl, hsz, hP, hK, hD0⟩ := hv
  have hlocks := B.notSynchronized
  subst hsz
  have hD := hD0.self (sz := s.heap.size)
  have hl := lv_entry ([.ref aT, .int x1]) (n := 4) (Nat.le_of_ble_eq_true rfl)
  rw [lg_entry_eq]
  exact k_X1_leastOfBlock B.exec B.bytes hml (findClass_of_methodNamed B.named) (atoms_spec (ws := wsX1_leastOfBlock) B.pre) hK (fun q hq => Or.inr hq) (fun r H locs ls pc hd hp hP hD hS => W.iret B.exec B.bytes B.returns (fun t ht hW => ⟨⟨r, (), rfl, hp, by rw [ht]; exact hP, hD⟩, hS.F ht⟩) hS.2.2 hd) h s.heap [] _ hP hD va_S.rf hl

def wp_X1_dividesAll_b2 (x0 : Int32) (x1 : Int64) (x3 : Int32)  (post : Int32 → Prop)  : Prop := ∀ P2 : Int32 → Prop, (∀ (x3 : Int32), (((60 : Int32) < x3 → post (1 : Int32)) ∧ (¬ (60 : Int32) < x3 → ((¬ (lg_cmp ((x1 >>> ((x3 : Int32).toInt64 &&& 63)) &&& (1 : Int64)) (1 : Int64)) = (0 : Int32) → (∀ v31 : Int32, v31 = x3 + (1 : Int32) → P2 v31)) ∧ ((lg_cmp ((x1 >>> ((x3 : Int32).toInt64 &&& 63)) &&& (1 : Int64)) (1 : Int64)) = (0 : Int32) → ((x0 < (1 : Int32) → post (0 : Int32)) ∧ (¬ x0 < (1 : Int32) → (¬ x0 = (0 : Int32) ∧ (((x3 - x3 / x0 * x0) = (0 : Int32) → (∀ v31 : Int32, v31 = x3 + (1 : Int32) → P2 v31)) ∧ (¬ (x3 - x3 / x0 * x0) = (0 : Int32) → post (0 : Int32)))))))))) → P2 x3) → P2 x3
def wp_X1_dividesAll (x0 : Int32) (x1 : Int64)  (post : Int32 → Prop) : Prop := wp_X1_dividesAll_b2 x0 x1 (0 : Int32) post
abbrev rm_X1_dividesAll : Room := { frames := 0, cells := 0, slots := 0, locals := 0 }
theorem hv_X1_dividesAll : yX1_dividesAll.cls ≠ "java/lang/invoke/MethodHandle" ∧ yX1_dividesAll.cls ≠ "java/lang/invoke/VarHandle" ∧ (parseMethodDescriptor yX1_dividesAll.desc).map (fun d => d.parameters.length) = some 2 := by decide +kernel
set_option maxHeartbeats 4000000 in
set_option maxRecDepth 100000 in
theorem k_X1_dividesAll {p : Program} {l : Launch} {e : Env} {s : State} {m : MethodId} {args : Array Value} {below : List Frame} {meth : Method} {c : Code} {Q : State → Prop} {A : Nat → Prop} {dC : Nat → ClassId} {dI : Nat → Nat → Nat} {cI cJ cZ : ClassId} (hx : p.tables.exec = Jvm.exec) (hb : c.code = cX1_dividesAll) (hml : c.maxLocals = 4) (hown : s.vm.findClass RX1 = some m.cls) (hts : ∀ w ∈ wsX1_dividesAll, w.before args s = true) (hK : va_K (dC, dI) vwCl (mTy cI cJ cZ) s) (hA : ∀ q, s.heap.size ≤ q → A q)  {x0 : Int32} {x1 : Int64} {post : Int32 → Prop} (ret : ∀ (r : Int32) (H : Heap) (locs : List Loc) (ls : Array Slot) (pc : Nat), decode cX1_dividesAll pc = .ok (.ireturn, 1) → (r = 0 ∨ r = 1) → post r → va_P (dC, dI) vwCl [] H → va_D A [] → va_S A s.heap H locs → W p l e rm_X1_dividesAll s m args below meth c H locs 0 0 Q (F0 m pc ls [.int r])) (h : wp_X1_dividesAll x0 x1  post) : mW p l e rm_X1_dividesAll s m args below meth c 0 0 Q A (dC, dI) 4 [] [(0, .int x0), (1, .long x1)] 0 [] := by
  have B2 : ∀ (x0 : Int32) (x1 : Int64) (x3 : Int32), wp_X1_dividesAll_b2 x0 x1 x3  post → mW p l e rm_X1_dividesAll s m args below meth c 0 0 Q A (dC, dI) 4 [] [(0, .int x0), (1, .long x1), (3, .int x3)] 2 [] := by
    intro x0 x1 x3 h
    unfold wp_X1_dividesAll_b2 at h
    refine h (fun (x3 : Int32) => mW p l e rm_X1_dividesAll s m args below meth c 0 0 Q A (dC, dI) 4 [] [(0, .int x0), (1, .long x1), (3, .int x3)] 2 []) ?_
    intro x3 h
    intro H locs ls hP hD hS hl
    refine lv_iload_n hx hb dX1_dividesAll_2 rfl (lv_at hl 2 rfl) ?_
    refine lv_bipush (v := 60) hx hb dX1_dividesAll_3 (by decide) ?_
    refine lv_icmp_gt (tgt := 37) hx hb dX1_dividesAll_5 (by decide) (fun q5 => ?_) (fun q5 => ?_)
    · have h := h.1 q5
      refine lv_iconst (v := 1) hx hb dX1_dividesAll_37 (by decide) ?_
      exact ret _  H locs ls _ dX1_dividesAll_38 (Or.inr rfl) h hP hD hS
    · have h := h.2 q5
      refine lv_lload_n hx hb dX1_dividesAll_8 rfl (lv_at hl 1 rfl) ?_
      refine lv_iload_n hx hb dX1_dividesAll_9 rfl (lv_at hl 2 rfl) ?_
      refine lv_lshr hx hb dX1_dividesAll_10 rfl ?_
      refine lv_lconst (v := 1) hx hb dX1_dividesAll_11 (by decide) ?_
      refine lv_land hx hb dX1_dividesAll_12 ?_
      refine lv_lconst (v := 1) hx hb dX1_dividesAll_13 (by decide) ?_
      refine W.lcmp hx hb dX1_dividesAll_14 ?_
      refine lv_if_ne (tgt := 31) hx hb dX1_dividesAll_15 (by decide) (fun q15 => ?_) (fun q15 => ?_)
      · have h := h.1 q15
        obtain ⟨v31, ev31⟩ : ∃ y : Int32, y = x3 + (1 : Int32) := ⟨_, rfl⟩
        have h := h v31 ev31
        refine lv_iinc (v := v31) (lv' := [(3, .int v31), (0, .int x0), (1, .long x1)]) hx hb dX1_dividesAll_31 hl (k := 2) rfl (by rw [ev31]; rfl) (by decide) rfl (fun ls hl => ?_)
        refine lv_goto (tgt := 2) hx hb dX1_dividesAll_34 (by decide) ?_
        exact h H locs ls hP hD hS (lv_sub hl [1, 2, 0] rfl)
      · have h := h.2 q15
        refine lv_iload_n hx hb dX1_dividesAll_18 rfl (lv_at hl 0 rfl) ?_
        refine lv_iconst (v := 1) hx hb dX1_dividesAll_19 (by decide) ?_
        refine lv_icmp_lt (tgt := 29) hx hb dX1_dividesAll_20 (by decide) (fun q20 => ?_) (fun q20 => ?_)
        · have h := h.1 q20
          refine lv_iconst (v := 0) hx hb dX1_dividesAll_29 (by decide) ?_
          exact ret _  H locs ls _ dX1_dividesAll_30 (Or.inl rfl) h hP hD hS
        · have h := h.2 q20
          refine lv_iload_n hx hb dX1_dividesAll_23 rfl (lv_at hl 2 rfl) ?_
          refine lv_iload_n hx hb dX1_dividesAll_24 rfl (lv_at hl 0 rfl) ?_
          refine lv_irem hx hb dX1_dividesAll_25 h.1 ?_
          have h := h.2
          refine lv_if_eq (tgt := 31) hx hb dX1_dividesAll_26 (by decide) (fun q26 => ?_) (fun q26 => ?_)
          · have h := h.1 q26
            obtain ⟨v31, ev31⟩ : ∃ y : Int32, y = x3 + (1 : Int32) := ⟨_, rfl⟩
            have h := h v31 ev31
            refine lv_iinc (v := v31) (lv' := [(3, .int v31), (0, .int x0), (1, .long x1)]) hx hb dX1_dividesAll_31 hl (k := 2) rfl (by rw [ev31]; rfl) (by decide) rfl (fun ls hl => ?_)
            refine lv_goto (tgt := 2) hx hb dX1_dividesAll_34 (by decide) ?_
            exact h H locs ls hP hD hS (lv_sub hl [1, 2, 0] rfl)
          · have h := h.2 q26
            refine lv_iconst (v := 0) hx hb dX1_dividesAll_29 (by decide) ?_
            exact ret _  H locs ls _ dX1_dividesAll_30 (Or.inl rfl) h hP hD hS
  unfold wp_X1_dividesAll at h
  intro H locs ls hP hD hS hl
  refine lv_iconst (v := 0) hx hb dX1_dividesAll_0 (by decide) ?_
  refine lv_istore_n (lv' := [(3, .int (0 : Int32)), (0, .int x0), (1, .long x1)]) hx hb dX1_dividesAll_1 rfl hl (by decide) rfl (fun ls hl => ?_)
  exact B2 _ _ _ h H locs ls hP hD hS (lv_sub hl [1, 2, 0] rfl)
set_option maxHeartbeats 4000000 in
set_option maxRecDepth 100000 in
theorem c_X1_dividesAll {l : Launch} {dC : Nat → ClassId} {dI : Nat → Nat → Nat} {cI cJ cZ : ClassId}  {x0 : Int32} {x1 : Int64} {post : Int32 → Prop} (h : wp_X1_dividesAll x0 x1  post) : ∀ sz, Met l yX1_dividesAll wsX1_dividesAll rm_X1_dividesAll (mP (dC, dI) (mTy cI cJ cZ) [.int x0, .long x1] [] sz) (va_Qi (fun (r : Int32) (u : Unit) => post r ) (mB (dC, dI) (va_A [] sz) (fun u => [])) (va_A [] sz)) 0 0 (va_A [] sz) := by
  intro sz
  refine Met.ofW (cc := cX1_dividesAll) (maxL := 4) (ret := (some .boolean)) (by decide) rfl ?_
  intro p e s m args below meth c s₁ B hml hv
  obtain ⟨rfl, hsz, hP, hK, hD0⟩ := hv
  have hlocks := B.notSynchronized
  subst hsz
  have hD := hD0.self (sz := s.heap.size)
  have hl := lv_entry ([.int x0, .long x1]) (n := 4) (Nat.le_of_ble_eq_true rfl)
  rw [lg_entry_eq]
  exact k_X1_dividesAll B.exec B.bytes hml (findClass_of_methodNamed B.named) (atoms_spec (ws := wsX1_dividesAll) B.pre) hK (fun q hq => Or.inr hq) (fun r H locs ls pc hd hz hp hP hD hS => W.zret B.exec B.bytes B.returns (m_bz hz) (fun t ht hW => ⟨⟨r, (), rfl, hp, by rw [ht]; exact hP, hD⟩, hS.F ht⟩) hS.2.2 hd) h s.heap [] _ hP hD va_S.rf hl

def wp_X1_returnLengths_b12 (x1 : Int32) (x2 : Int64) (x4 : Int32) (tk : Int32) (fB : (Nat → Int32)) (fRE : (Nat → Int32)) (post : Int64 → (Nat → Int32) → Prop)  : Prop := ∀ P12 : Int64 → Int32 → Prop, (∀ (x2 : Int64) (x4 : Int32), (((60 : Int32) < x4 → post x2 fRE) ∧ (¬ (60 : Int32) < x4 → (vp_in x4 61 ∧ wp_X1_holds (fRE x4.toNatClampNeg) x1 (fun (r27 : Int32) => ((r27 = (0 : Int32) → (∀ v40 : Int32, v40 = x4 + (1 : Int32) → P12 x2 v40)) ∧ (¬ r27 = (0 : Int32) → (∀ v39 : Int64, v39 = (x2 ||| ((1 : Int64) <<< ((x4 : Int32).toInt64 &&& 63))) → (∀ v40 : Int32, v40 = x4 + (1 : Int32) → P12 v39 v40)))))))) → P12 x2 x4) → P12 x2 x4
def wp_X1_returnLengths (x1 : Int32) (tk : Int32) (fB : (Nat → Int32)) (fRE : (Nat → Int32)) (post : Int64 → (Nat → Int32) → Prop) : Prop := wp_X1_lookBack x1 (60 : Int32) tk fB fRE (fun (fRE_4 : (Nat → Int32)) => wp_X1_returnLengths_b12 x1 (0 : Int64) (0 : Int32) tk fB fRE_4 post)
abbrev rm_X1_returnLengths : Room := { frames := 1, cells := 0, slots := 0, locals := 25 }
theorem hv_X1_returnLengths : yX1_returnLengths.cls = RX1 ∧ yX1_returnLengths.cls ≠ "java/lang/invoke/MethodHandle" ∧ yX1_returnLengths.cls ≠ "java/lang/invoke/VarHandle" ∧ (parseMethodDescriptor yX1_returnLengths.desc).map (fun d => d.parameters.length) = some 1 := by decide +kernel
set_option maxHeartbeats 4000000 in
set_option maxRecDepth 100000 in
theorem k_X1_returnLengths {p : Program} {l : Launch} {e : Env} {s : State} {m : MethodId} {args : Array Value} {below : List Frame} {meth : Method} {c : Code} {Q : State → Prop} {A : Nat → Prop} {dC : Nat → ClassId} {dI : Nat → Nat → Nat} {cI cJ cZ : ClassId} (hx : p.tables.exec = Jvm.exec) (hb : c.code = cX1_returnLengths) (hml : c.maxLocals = 5) (hown : s.vm.findClass RX1 = some m.cls) (hts : ∀ w ∈ wsX1_returnLengths, w.before args s = true) (hK : va_K (dC, dI) vwCl (mTy cI cJ cZ) s) (hA : ∀ q, s.heap.size ≤ q → A q) {aT aB aWK aRE aY aZ : Nat} {tk : Int32} {fB : (Nat → Int32)} {fRE : (Nat → Int32)} {x1 : Int32} {post : Int64 → (Nat → Int32) → Prop} (ret : ∀ (r : Int64) (fRE' : (Nat → Int32)) (H : Heap) (locs : List Loc) (ls : Array Slot) (pc : Nat), decode cX1_returnLengths pc = .ok (.lreturn, 1) → post r fRE' → va_P (dC, dI) vwCl [oT aT aB aWK aRE aY aZ tk, aI aB cI 6 fB, aI aRE cI 61 fRE'] H → va_D A [oT aT aB aWK aRE aY aZ tk, aI aB cI 6 fB, aI aRE cI 61 fRE'] → va_S A s.heap H locs → W p l e rm_X1_returnLengths s m args below meth c H locs 0 0 Q (F0 m pc ls [.long r])) (h : wp_X1_returnLengths x1 tk fB fRE post) : mW p l e rm_X1_returnLengths s m args below meth c 0 0 Q A (dC, dI) 5 [oT aT aB aWK aRE aY aZ tk, aI aB cI 6 fB, aI aRE cI 61 fRE] [(0, .ref aT), (1, .int x1)] 0 [] := by
  have in_X1 : ∀ w ∈ wsX10, w ∈ wsX1_returnLengths := fun w hw => List.mem_cons_of_mem _ (List.mem_append_right _ hw)
  have k_18 := hts (.fieldLink RX1 18 "RingTasks$Task" "reaching" "[I") (List.mem_of_getElem? (i := 1) rfl)
  have B12 : ∀ (x1 : Int32) (x2 : Int64) (x4 : Int32) (fRE : (Nat → Int32)), wp_X1_returnLengths_b12 x1 x2 x4 tk fB fRE post → mW p l e rm_X1_returnLengths s m args below meth c 0 0 Q A (dC, dI) 5 [oT aT aB aWK aRE aY aZ tk, aI aB cI 6 fB, aI aRE cI 61 fRE] [(0, .ref aT), (1, .int x1), (2, .long x2), (4, .int x4)] 12 [] := by
    intro x1 x2 x4 fRE h
    unfold wp_X1_returnLengths_b12 at h
    refine h (fun (x2 : Int64) (x4 : Int32) => mW p l e rm_X1_returnLengths s m args below meth c 0 0 Q A (dC, dI) 5 [oT aT aB aWK aRE aY aZ tk, aI aB cI 6 fB, aI aRE cI 61 fRE] [(0, .ref aT), (1, .int x1), (2, .long x2), (4, .int x4)] 12 []) ?_
    intro x2 x4 h
    intro H locs ls hP hD hS hl
    refine lv_iload hx hb dX1_returnLengths_12 (lv_at hl 3 rfl) ?_
    refine lv_bipush (v := 60) hx hb dX1_returnLengths_14 (by decide) ?_
    refine lv_icmp_gt (tgt := 46) hx hb dX1_returnLengths_16 (by decide) (fun q16 => ?_) (fun q16 => ?_)
    · have h := h.1 q16
      refine lv_lload_n hx hb dX1_returnLengths_46 rfl (lv_at hl 2 rfl) ?_
      exact ret _ _ H locs ls _ dX1_returnLengths_47 h hP hD hS
    · have h := h.2 q16
      refine lv_aload_n hx hb dX1_returnLengths_19 rfl (lv_at hl 0 rfl) ?_
      refine va_get (D := (dC, dI)) (ci := 1) (v := .ref aRE) (C := RX1) (T := TX1) (N := 6) hx hb hts in_X1 hown hK hP 0 rfl rfl 3 (by decide) k_18 (fun _ h9 => h9) rfl dX1_returnLengths_20 ?_
      refine lv_iload hx hb dX1_returnLengths_23 (lv_at hl 3 rfl) ?_
      refine va_iald (D := (dC, dI)) hx hb hK hP 2 0 rfl rfl h.1 dX1_returnLengths_25 ?_
      have h := h.2
      refine lv_iload_n hx hb dX1_returnLengths_26 rfl (lv_at hl 1 rfl) ?_
      refine mSi (wr := [oT aT aB aWK aRE aY aZ tk, aI aB cI 6 fB, aI aRE cI 61 fRE]) (As := [.int (fRE x4.toNatClampNeg), .int x1]) (rest := []) ⟨hx, hb, hml, hown, hts⟩ (c_X1_holds (l := l) (dC := dC) (dI := dI) (cI := cI) (cJ := cJ) (cZ := cZ)  h) (va_cwS 2 hts gX1_returnLengths_X1_holds rfl rfl rfl hv_X1_holds ⟨Nat.le_of_ble_eq_true rfl, Nat.le_of_ble_eq_true rfl⟩) hK hP hD hS hA [] [0, 1, 2] rfl rfl rfl rfl (by decide) rfl hl.1 rfl (Nat.le_of_ble_eq_true rfl) ⟨Nat.zero_le _, Nat.zero_le _⟩ dX1_returnLengths_27 (fun r27 u27 H locs h hP hD hS => ?_)
      have hP : va_P (dC, dI) vwCl [oT aT aB aWK aRE aY aZ tk, aI aB cI 6 fB, aI aRE cI 61 fRE] H := hP.sub [0, 1, 2] rfl
      have hD : va_D A [oT aT aB aWK aRE aY aZ tk, aI aB cI 6 fB, aI aRE cI 61 fRE] := hD.sub [0, 1, 2] rfl rfl
      refine lv_if_eq (tgt := 40) hx hb dX1_returnLengths_30 (by decide) (fun q30 => ?_) (fun q30 => ?_)
      · have h := h.1 q30
        obtain ⟨v40, ev40⟩ : ∃ y : Int32, y = x4 + (1 : Int32) := ⟨_, rfl⟩
        have h := h v40 ev40
        refine lv_iinc (v := v40) (lv' := [(4, .int v40), (0, .ref aT), (1, .int x1), (2, .long x2)]) hx hb dX1_returnLengths_40 hl (k := 3) rfl (by rw [ev40]; rfl) (by decide) rfl (fun ls hl => ?_)
        refine lv_goto (tgt := 12) hx hb dX1_returnLengths_43 (by decide) ?_
        exact h H locs ls hP hD hS (lv_sub hl [1, 2, 3, 0] rfl)
      · have h := h.2 q30
        refine lv_lload_n hx hb dX1_returnLengths_33 rfl (lv_at hl 2 rfl) ?_
        refine lv_lconst (v := 1) hx hb dX1_returnLengths_34 (by decide) ?_
        refine lv_iload hx hb dX1_returnLengths_35 (lv_at hl 3 rfl) ?_
        refine lv_lshl hx hb dX1_returnLengths_37 rfl ?_
        refine lv_lor hx hb dX1_returnLengths_38 ?_
        refine lv_topl (fun v39 ev39 => ?_)
        have h := h v39 ev39
        refine lv_lstore_n (lv' := [(2, .long v39), (0, .ref aT), (1, .int x1), (4, .int x4)]) hx hb dX1_returnLengths_39 rfl hl (by decide) rfl (fun ls hl => ?_)
        obtain ⟨v40, ev40⟩ : ∃ y : Int32, y = x4 + (1 : Int32) := ⟨_, rfl⟩
        have h := h v40 ev40
        refine lv_iinc (v := v40) (lv' := [(4, .int v40), (2, .long v39), (0, .ref aT), (1, .int x1)]) hx hb dX1_returnLengths_40 hl (k := 3) rfl (by rw [ev40]; rfl) (by decide) rfl (fun ls hl => ?_)
        refine lv_goto (tgt := 12) hx hb dX1_returnLengths_43 (by decide) ?_
        exact h H locs ls hP hD hS (lv_sub hl [2, 3, 1, 0] rfl)
  unfold wp_X1_returnLengths at h
  intro H locs ls hP hD hS hl
  refine lv_aload_n hx hb dX1_returnLengths_0 rfl (lv_at hl 0 rfl) ?_
  refine lv_iload_n hx hb dX1_returnLengths_1 rfl (lv_at hl 1 rfl) ?_
  refine lv_bipush (v := 60) hx hb dX1_returnLengths_2 (by decide) ?_
  refine mVv (wr := []) (As := [.int x1, .int (60 : Int32)]) (rest := []) ⟨hx, hb, hml, hown, hts⟩ (c_X1_lookBack (l := l) (dC := dC) (dI := dI) (cI := cI) (cJ := cJ) (cZ := cZ) (aT := aT) (aB := aB) (aWK := aWK) (aRE := aRE) (aY := aY) (aZ := aZ) h) (cwV 2 hts gX1_returnLengths_X1_lookBack rfl rfl rfl hv_X1_lookBack ⟨Nat.le_of_ble_eq_true rfl, Nat.le_of_ble_eq_true rfl⟩) hK hP hD hS hA [0, 1, 2] [] rfl rfl rfl rfl (by decide) 1 rfl rfl rfl rfl hl.1 rfl (Nat.le_of_ble_eq_true rfl) ⟨Nat.zero_le _, Nat.zero_le _⟩ dX1_returnLengths_4 (fun fRE_4 H locs h hP hD hS => ?_)
  have hP : va_P (dC, dI) vwCl [oT aT aB aWK aRE aY aZ tk, aI aB cI 6 fB, aI aRE cI 61 fRE_4] H := hP.sub [0, 1, 2] rfl
  have hD : va_D A [oT aT aB aWK aRE aY aZ tk, aI aB cI 6 fB, aI aRE cI 61 fRE_4] := hD.sub [0, 1, 2] rfl rfl
  refine lv_lconst (v := 0) hx hb dX1_returnLengths_7 (by decide) ?_
  refine lv_lstore_n (lv' := [(2, .long (0 : Int64)), (0, .ref aT), (1, .int x1)]) hx hb dX1_returnLengths_8 rfl hl (by decide) rfl (fun ls hl => ?_)
  refine lv_iconst (v := 0) hx hb dX1_returnLengths_9 (by decide) ?_
  refine lv_istore (lv' := [(4, .int (0 : Int32)), (2, .long (0 : Int64)), (0, .ref aT), (1, .int x1)]) hx hb dX1_returnLengths_10 hl (by decide) rfl (fun ls hl => ?_)
  exact B12 _ _ _ _ h H locs ls hP hD hS (lv_sub hl [2, 3, 1, 0] rfl)
set_option maxHeartbeats 4000000 in
set_option maxRecDepth 100000 in
theorem c_X1_returnLengths {l : Launch} {dC : Nat → ClassId} {dI : Nat → Nat → Nat} {cI cJ cZ : ClassId} {aT aB aWK aRE aY aZ : Nat} {tk : Int32} {fB : (Nat → Int32)} {fRE : (Nat → Int32)} {x1 : Int32} {post : Int64 → (Nat → Int32) → Prop} (h : wp_X1_returnLengths x1 tk fB fRE post) : ∀ sz, Met l yX1_returnLengths wsX1_returnLengths rm_X1_returnLengths (mP (dC, dI) (mTy cI cJ cZ) [.ref aT, .int x1] [oT aT aB aWK aRE aY aZ tk, aI aB cI 6 fB, aI aRE cI 61 fRE] sz) (va_Ql (fun (r : Int64) (u : (Nat → Int32)) => post r u) (mB (dC, dI) (va_A [oT aT aB aWK aRE aY aZ tk, aI aB cI 6 fB, aI aRE cI 61 fRE] sz) (fun u => [oT aT aB aWK aRE aY aZ tk, aI aB cI 6 fB, aI aRE cI 61 u])) (va_A [oT aT aB aWK aRE aY aZ tk, aI aB cI 6 fB, aI aRE cI 61 fRE] sz)) 0 0 (va_A [oT aT aB aWK aRE aY aZ tk, aI aB cI 6 fB, aI aRE cI 61 fRE] sz) := by
  intro sz
  refine Met.ofW (cc := cX1_returnLengths) (maxL := 5) (ret := (some .long)) (by decide) rfl ?_
  intro p e s m args below meth c s₁ B hml hv
  obtain ⟨rfl, hsz, hP, hK, hD0⟩ := hv
  have hlocks := B.notSynchronized
  subst hsz
  have hD := hD0.self (sz := s.heap.size)
  have hl := lv_entry ([.ref aT, .int x1]) (n := 5) (Nat.le_of_ble_eq_true rfl)
  rw [lg_entry_eq]
  exact k_X1_returnLengths B.exec B.bytes hml (findClass_of_methodNamed B.named) (atoms_spec (ws := wsX1_returnLengths) B.pre) hK (fun q hq => Or.inr hq) (fun r fRE' H locs ls pc hd hp hP hD hS => W.lret B.exec B.bytes B.returns (fun t ht hW => ⟨⟨r, fRE', rfl, hp, by rw [ht]; exact hP, hD⟩, hS.F ht⟩) hS.2.2 hd) h s.heap [] _ hP hD va_S.rf hl

def wp_X1_paceOf_b24 (x2 : Int64) (x4 : Int32) (tk : Int32) (fB : (Nat → Int32)) (fRE : (Nat → Int32)) (post : Int32 → (Nat → Int32) → Prop)  : Prop := ∀ P24 : Int32 → Prop, (∀ (x4 : Int32), ((x4 ≤ (1 : Int32) → post x4 fRE) ∧ (¬ x4 ≤ (1 : Int32) → wp_X1_dividesAll x4 x2 (fun (r33 : Int32) => ((¬ r33 = (0 : Int32) → post x4 fRE) ∧ (r33 = (0 : Int32) → (∀ v39 : Int32, v39 = x4 + (-1 : Int32) → P24 v39)))))) → P24 x4) → P24 x4
def wp_X1_paceOf (x1 : Int32) (tk : Int32) (fB : (Nat → Int32)) (fRE : (Nat → Int32)) (post : Int32 → (Nat → Int32) → Prop) : Prop := wp_X1_returnLengths x1 tk fB fRE (fun (r2 : Int64) (fRE_2 : (Nat → Int32)) => (∀ v9 : Int64, v9 = (r2 &&& (-2 : Int64)) → ((¬ (lg_cmp v9 (0 : Int64)) = (0 : Int32) → wp_X1_paceOf_b24 v9 tk tk fB fRE_2 post) ∧ ((lg_cmp v9 (0 : Int64)) = (0 : Int32) → post (0 : Int32) fRE_2))))
abbrev rm_X1_paceOf : Room := { frames := 2, cells := 0, slots := 0, locals := 49 }
theorem hv_X1_paceOf : yX1_paceOf.cls = RX1 ∧ yX1_paceOf.cls ≠ "java/lang/invoke/MethodHandle" ∧ yX1_paceOf.cls ≠ "java/lang/invoke/VarHandle" ∧ (parseMethodDescriptor yX1_paceOf.desc).map (fun d => d.parameters.length) = some 1 := by decide +kernel
set_option maxHeartbeats 4000000 in
set_option maxRecDepth 100000 in
theorem k_X1_paceOf {p : Program} {l : Launch} {e : Env} {s : State} {m : MethodId} {args : Array Value} {below : List Frame} {meth : Method} {c : Code} {Q : State → Prop} {A : Nat → Prop} {dC : Nat → ClassId} {dI : Nat → Nat → Nat} {cI cJ cZ : ClassId} (hx : p.tables.exec = Jvm.exec) (hb : c.code = cX1_paceOf) (hml : c.maxLocals = 5) (hown : s.vm.findClass RX1 = some m.cls) (hts : ∀ w ∈ wsX1_paceOf, w.before args s = true) (hK : va_K (dC, dI) vwCl (mTy cI cJ cZ) s) (hA : ∀ q, s.heap.size ≤ q → A q) {aT aB aWK aRE aY aZ : Nat} {tk : Int32} {fB : (Nat → Int32)} {fRE : (Nat → Int32)} {x1 : Int32} {post : Int32 → (Nat → Int32) → Prop} (ret : ∀ (r : Int32) (fRE' : (Nat → Int32)) (H : Heap) (locs : List Loc) (ls : Array Slot) (pc : Nat), decode cX1_paceOf pc = .ok (.ireturn, 1) → post r fRE' → va_P (dC, dI) vwCl [oT aT aB aWK aRE aY aZ tk, aI aB cI 6 fB, aI aRE cI 61 fRE'] H → va_D A [oT aT aB aWK aRE aY aZ tk, aI aB cI 6 fB, aI aRE cI 61 fRE'] → va_S A s.heap H locs → W p l e rm_X1_paceOf s m args below meth c H locs 0 0 Q (F0 m pc ls [.int r])) (h : wp_X1_paceOf x1 tk fB fRE post) : mW p l e rm_X1_paceOf s m args below meth c 0 0 Q A (dC, dI) 5 [oT aT aB aWK aRE aY aZ tk, aI aB cI 6 fB, aI aRE cI 61 fRE] [(0, .ref aT), (1, .int x1)] 0 [] := by
  have in_X1 : ∀ w ∈ wsX10, w ∈ wsX1_paceOf := fun w hw => List.mem_cons_of_mem _ (List.mem_append_right _ hw)
  have k_101 := hts (.constantLong RX1 101 (-2)) (List.mem_of_getElem? (i := 1) rfl)
  have k_38 := hts (.fieldLink RX1 38 "RingTasks$Task" "size" "I") (List.mem_of_getElem? (i := 2) rfl)
  have B24 : ∀ (x2 : Int64) (x4 : Int32) (fRE : (Nat → Int32)), wp_X1_paceOf_b24 x2 x4 tk fB fRE post → mW p l e rm_X1_paceOf s m args below meth c 0 0 Q A (dC, dI) 5 [oT aT aB aWK aRE aY aZ tk, aI aB cI 6 fB, aI aRE cI 61 fRE] [(2, .long x2), (4, .int x4)] 24 [] := by
    intro x2 x4 fRE h
    unfold wp_X1_paceOf_b24 at h
    refine h (fun (x4 : Int32) => mW p l e rm_X1_paceOf s m args below meth c 0 0 Q A (dC, dI) 5 [oT aT aB aWK aRE aY aZ tk, aI aB cI 6 fB, aI aRE cI 61 fRE] [(2, .long x2), (4, .int x4)] 24 []) ?_
    intro x4 h
    intro H locs ls hP hD hS hl
    refine lv_iload hx hb dX1_paceOf_24 (lv_at hl 1 rfl) ?_
    refine lv_iconst (v := 1) hx hb dX1_paceOf_26 (by decide) ?_
    refine lv_icmp_le (tgt := 45) hx hb dX1_paceOf_27 (by decide) (fun q27 => ?_) (fun q27 => ?_)
    · have h := h.1 q27
      refine lv_iload hx hb dX1_paceOf_45 (lv_at hl 1 rfl) ?_
      exact ret _ _ H locs ls _ dX1_paceOf_47 h hP hD hS
    · have h := h.2 q27
      refine lv_iload hx hb dX1_paceOf_30 (lv_at hl 1 rfl) ?_
      refine lv_lload_n hx hb dX1_paceOf_32 rfl (lv_at hl 0 rfl) ?_
      refine mSi (wr := [oT aT aB aWK aRE aY aZ tk, aI aB cI 6 fB, aI aRE cI 61 fRE]) (As := [.int x4, .long x2]) (rest := []) ⟨hx, hb, hml, hown, hts⟩ (c_X1_dividesAll (l := l) (dC := dC) (dI := dI) (cI := cI) (cJ := cJ) (cZ := cZ)  h) (va_cwS 2 hts gX1_paceOf_X1_dividesAll rfl rfl rfl hv_X1_dividesAll ⟨Nat.le_of_ble_eq_true rfl, Nat.le_of_ble_eq_true rfl⟩) hK hP hD hS hA [] [0, 1, 2] rfl rfl rfl rfl (by decide) rfl hl.1 rfl (Nat.le_of_ble_eq_true rfl) ⟨Nat.zero_le _, Nat.zero_le _⟩ dX1_paceOf_33 (fun r33 u33 H locs h hP hD hS => ?_)
      have hP : va_P (dC, dI) vwCl [oT aT aB aWK aRE aY aZ tk, aI aB cI 6 fB, aI aRE cI 61 fRE] H := hP.sub [0, 1, 2] rfl
      have hD : va_D A [oT aT aB aWK aRE aY aZ tk, aI aB cI 6 fB, aI aRE cI 61 fRE] := hD.sub [0, 1, 2] rfl rfl
      refine lv_if_ne (tgt := 45) hx hb dX1_paceOf_36 (by decide) (fun q36 => ?_) (fun q36 => ?_)
      · have h := h.1 q36
        refine lv_iload hx hb dX1_paceOf_45 (lv_at hl 1 rfl) ?_
        exact ret _ _ H locs ls _ dX1_paceOf_47 h hP hD hS
      · have h := h.2 q36
        obtain ⟨v39, ev39⟩ : ∃ y : Int32, y = x4 + (-1 : Int32) := ⟨_, rfl⟩
        have h := h v39 ev39
        refine lv_iinc (v := v39) (lv' := [(4, .int v39), (2, .long x2)]) hx hb dX1_paceOf_39 hl (k := 1) rfl (by rw [ev39]; rfl) (by decide) rfl (fun ls hl => ?_)
        refine lv_goto (tgt := 24) hx hb dX1_paceOf_42 (by decide) ?_
        exact h H locs ls hP hD hS (lv_sub hl [1, 0] rfl)
  unfold wp_X1_paceOf at h
  intro H locs ls hP hD hS hl
  refine lv_aload_n hx hb dX1_paceOf_0 rfl (lv_at hl 0 rfl) ?_
  refine lv_iload_n hx hb dX1_paceOf_1 rfl (lv_at hl 1 rfl) ?_
  refine mVl (wr := []) (As := [.int x1]) (rest := []) ⟨hx, hb, hml, hown, hts⟩ (c_X1_returnLengths (l := l) (dC := dC) (dI := dI) (cI := cI) (cJ := cJ) (cZ := cZ) (aT := aT) (aB := aB) (aWK := aWK) (aRE := aRE) (aY := aY) (aZ := aZ) h) (cwV 1 hts gX1_paceOf_X1_returnLengths rfl rfl rfl hv_X1_returnLengths ⟨Nat.le_of_ble_eq_true rfl, Nat.le_of_ble_eq_true rfl⟩) hK hP hD hS hA [0, 1, 2] [] rfl rfl rfl rfl (by decide) 1 rfl rfl rfl rfl hl.1 rfl (Nat.le_of_ble_eq_true rfl) ⟨Nat.zero_le _, Nat.zero_le _⟩ dX1_paceOf_2 (fun r2 fRE_2 H locs h hP hD hS => ?_)
  have hP : va_P (dC, dI) vwCl [oT aT aB aWK aRE aY aZ tk, aI aB cI 6 fB, aI aRE cI 61 fRE_2] H := hP.sub [0, 1, 2] rfl
  have hD : va_D A [oT aT aB aWK aRE aY aZ tk, aI aB cI 6 fB, aI aRE cI 61 fRE_2] := hD.sub [0, 1, 2] rfl rfl
  refine lv_ldc2 (v := -2) hx hb hown k_101 dX1_paceOf_5 ?_
  refine lv_land hx hb dX1_paceOf_8 ?_
  refine lv_topl (fun v9 ev9 => ?_)
  have h := h v9 ev9
  refine lv_lstore_n (lv' := [(2, .long v9), (0, .ref aT), (1, .int x1)]) hx hb dX1_paceOf_9 rfl hl (by decide) rfl (fun ls hl => ?_)
  refine lv_lload_n hx hb dX1_paceOf_10 rfl (lv_at hl 0 rfl) ?_
  refine lv_lconst (v := 0) hx hb dX1_paceOf_11 (by decide) ?_
  refine W.lcmp hx hb dX1_paceOf_12 ?_
  refine lv_if_ne (tgt := 18) hx hb dX1_paceOf_13 (by decide) (fun q13 => ?_) (fun q13 => ?_)
  · have h := h.1 q13
    refine lv_aload_n hx hb dX1_paceOf_18 rfl (lv_at hl 1 rfl) ?_
    refine va_get (D := (dC, dI)) (ci := 1) (v := .int tk) (C := RX1) (T := TX1) (N := 6) hx hb hts in_X1 hown hK hP 0 rfl rfl 0 (by decide) k_38 (fun _ h9 => h9) rfl dX1_paceOf_19 ?_
    refine lv_istore (lv' := [(4, .int tk), (2, .long v9), (0, .ref aT), (1, .int x1)]) hx hb dX1_paceOf_22 hl (by decide) rfl (fun ls hl => ?_)
    exact B24 _ _ _ h H locs ls hP hD hS (lv_sub hl [1, 0] rfl)
  · have h := h.2 q13
    refine lv_iconst (v := 0) hx hb dX1_paceOf_16 (by decide) ?_
    exact ret _ _ H locs ls _ dX1_paceOf_17 h hP hD hS
set_option maxHeartbeats 4000000 in
set_option maxRecDepth 100000 in
theorem c_X1_paceOf {l : Launch} {dC : Nat → ClassId} {dI : Nat → Nat → Nat} {cI cJ cZ : ClassId} {aT aB aWK aRE aY aZ : Nat} {tk : Int32} {fB : (Nat → Int32)} {fRE : (Nat → Int32)} {x1 : Int32} {post : Int32 → (Nat → Int32) → Prop} (h : wp_X1_paceOf x1 tk fB fRE post) : ∀ sz, Met l yX1_paceOf wsX1_paceOf rm_X1_paceOf (mP (dC, dI) (mTy cI cJ cZ) [.ref aT, .int x1] [oT aT aB aWK aRE aY aZ tk, aI aB cI 6 fB, aI aRE cI 61 fRE] sz) (va_Qi (fun (r : Int32) (u : (Nat → Int32)) => post r u) (mB (dC, dI) (va_A [oT aT aB aWK aRE aY aZ tk, aI aB cI 6 fB, aI aRE cI 61 fRE] sz) (fun u => [oT aT aB aWK aRE aY aZ tk, aI aB cI 6 fB, aI aRE cI 61 u])) (va_A [oT aT aB aWK aRE aY aZ tk, aI aB cI 6 fB, aI aRE cI 61 fRE] sz)) 0 0 (va_A [oT aT aB aWK aRE aY aZ tk, aI aB cI 6 fB, aI aRE cI 61 fRE] sz) := by
  intro sz
  refine Met.ofW (cc := cX1_paceOf) (maxL := 5) (ret := (some .int)) (by decide) rfl ?_
  intro p e s m args below meth c s₁ B hml hv
  obtain ⟨rfl, hsz, hP, hK, hD0⟩ := hv
  have hlocks := B.notSynchronized
  subst hsz
  have hD := hD0.self (sz := s.heap.size)
  have hl := lv_entry ([.ref aT, .int x1]) (n := 5) (Nat.le_of_ble_eq_true rfl)
  rw [lg_entry_eq]
  exact k_X1_paceOf B.exec B.bytes hml (findClass_of_methodNamed B.named) (atoms_spec (ws := wsX1_paceOf) B.pre) hK (fun q hq => Or.inr hq) (fun r fRE' H locs ls pc hd hp hP hD hS => W.iret B.exec B.bytes B.returns (fun t ht hW => ⟨⟨r, fRE', rfl, hp, by rw [ht]; exact hP, hD⟩, hS.F ht⟩) hS.2.2 hd) h s.heap [] _ hP hD va_S.rf hl

def wp_X1_ringLengths_b4 (x1 : Int64) (x3 : Int32) (tk : Int32) (fB : (Nat → Int32)) (fRE : (Nat → Int32)) (post : Int64 → (Nat → Int32) → Prop)  : Prop := ∀ P4 : Int64 → Int32 → (Nat → Int32) → Prop, (∀ (x1 : Int64) (x3 : Int32) (fRE : (Nat → Int32)), ((tk ≤ x3 → post x1 fRE) ∧ (¬ tk ≤ x3 → wp_X1_returnLengths x3 tk fB fRE (fun (r15 : Int64) (fRE_15 : (Nat → Int32)) => (∀ v19 : Int64, v19 = (x1 ||| r15) → (∀ v20 : Int32, v20 = x3 + (1 : Int32) → P4 v19 v20 fRE_15))))) → P4 x1 x3 fRE) → P4 x1 x3 fRE
def wp_X1_ringLengths  (tk : Int32) (fB : (Nat → Int32)) (fRE : (Nat → Int32)) (post : Int64 → (Nat → Int32) → Prop) : Prop := wp_X1_ringLengths_b4 (0 : Int64) (0 : Int32) tk fB fRE post
abbrev rm_X1_ringLengths : Room := { frames := 2, cells := 0, slots := 0, locals := 49 }
theorem hv_X1_ringLengths : yX1_ringLengths.cls = RX1 ∧ yX1_ringLengths.cls ≠ "java/lang/invoke/MethodHandle" ∧ yX1_ringLengths.cls ≠ "java/lang/invoke/VarHandle" ∧ (parseMethodDescriptor yX1_ringLengths.desc).map (fun d => d.parameters.length) = some 0 := by decide +kernel
set_option maxHeartbeats 4000000 in
set_option maxRecDepth 100000 in
theorem k_X1_ringLengths {p : Program} {l : Launch} {e : Env} {s : State} {m : MethodId} {args : Array Value} {below : List Frame} {meth : Method} {c : Code} {Q : State → Prop} {A : Nat → Prop} {dC : Nat → ClassId} {dI : Nat → Nat → Nat} {cI cJ cZ : ClassId} (hx : p.tables.exec = Jvm.exec) (hb : c.code = cX1_ringLengths) (hml : c.maxLocals = 4) (hown : s.vm.findClass RX1 = some m.cls) (hts : ∀ w ∈ wsX1_ringLengths, w.before args s = true) (hK : va_K (dC, dI) vwCl (mTy cI cJ cZ) s) (hA : ∀ q, s.heap.size ≤ q → A q) {aT aB aWK aRE aY aZ : Nat} {tk : Int32} {fB : (Nat → Int32)} {fRE : (Nat → Int32)}  {post : Int64 → (Nat → Int32) → Prop} (ret : ∀ (r : Int64) (fRE' : (Nat → Int32)) (H : Heap) (locs : List Loc) (ls : Array Slot) (pc : Nat), decode cX1_ringLengths pc = .ok (.lreturn, 1) → post r fRE' → va_P (dC, dI) vwCl [oT aT aB aWK aRE aY aZ tk, aI aB cI 6 fB, aI aRE cI 61 fRE'] H → va_D A [oT aT aB aWK aRE aY aZ tk, aI aB cI 6 fB, aI aRE cI 61 fRE'] → va_S A s.heap H locs → W p l e rm_X1_ringLengths s m args below meth c H locs 0 0 Q (F0 m pc ls [.long r])) (h : wp_X1_ringLengths  tk fB fRE post) : mW p l e rm_X1_ringLengths s m args below meth c 0 0 Q A (dC, dI) 4 [oT aT aB aWK aRE aY aZ tk, aI aB cI 6 fB, aI aRE cI 61 fRE] [(0, .ref aT)] 0 [] := by
  have in_X1 : ∀ w ∈ wsX10, w ∈ wsX1_ringLengths := fun w hw => List.mem_cons_of_mem _ (List.mem_append_right _ hw)
  have k_38 := hts (.fieldLink RX1 38 "RingTasks$Task" "size" "I") (List.mem_of_getElem? (i := 1) rfl)
  have B4 : ∀ (x1 : Int64) (x3 : Int32) (fRE : (Nat → Int32)), wp_X1_ringLengths_b4 x1 x3 tk fB fRE post → mW p l e rm_X1_ringLengths s m args below meth c 0 0 Q A (dC, dI) 4 [oT aT aB aWK aRE aY aZ tk, aI aB cI 6 fB, aI aRE cI 61 fRE] [(0, .ref aT), (1, .long x1), (3, .int x3)] 4 [] := by
    intro x1 x3 fRE h
    unfold wp_X1_ringLengths_b4 at h
    refine h (fun (x1 : Int64) (x3 : Int32) (fRE : (Nat → Int32)) => mW p l e rm_X1_ringLengths s m args below meth c 0 0 Q A (dC, dI) 4 [oT aT aB aWK aRE aY aZ tk, aI aB cI 6 fB, aI aRE cI 61 fRE] [(0, .ref aT), (1, .long x1), (3, .int x3)] 4 []) ?_
    intro x1 x3 fRE h
    intro H locs ls hP hD hS hl
    refine lv_iload_n hx hb dX1_ringLengths_4 rfl (lv_at hl 2 rfl) ?_
    refine lv_aload_n hx hb dX1_ringLengths_5 rfl (lv_at hl 0 rfl) ?_
    refine va_get (D := (dC, dI)) (ci := 1) (v := .int tk) (C := RX1) (T := TX1) (N := 6) hx hb hts in_X1 hown hK hP 0 rfl rfl 0 (by decide) k_38 (fun _ h9 => h9) rfl dX1_ringLengths_6 ?_
    refine lv_icmp_ge (tgt := 26) hx hb dX1_ringLengths_9 (by decide) (fun q9 => ?_) (fun q9 => ?_)
    · have h := h.1 q9
      refine lv_lload_n hx hb dX1_ringLengths_26 rfl (lv_at hl 1 rfl) ?_
      exact ret _ _ H locs ls _ dX1_ringLengths_27 h hP hD hS
    · have h := h.2 q9
      refine lv_lload_n hx hb dX1_ringLengths_12 rfl (lv_at hl 1 rfl) ?_
      refine lv_aload_n hx hb dX1_ringLengths_13 rfl (lv_at hl 0 rfl) ?_
      refine lv_iload_n hx hb dX1_ringLengths_14 rfl (lv_at hl 2 rfl) ?_
      refine mVl (wr := []) (As := [.int x3]) (rest := [.long x1]) ⟨hx, hb, hml, hown, hts⟩ (c_X1_returnLengths (l := l) (dC := dC) (dI := dI) (cI := cI) (cJ := cJ) (cZ := cZ) (aT := aT) (aB := aB) (aWK := aWK) (aRE := aRE) (aY := aY) (aZ := aZ) h) (cwV 1 hts gX1_ringLengths_X1_returnLengths rfl rfl rfl hv_X1_returnLengths ⟨Nat.le_of_ble_eq_true rfl, Nat.le_of_ble_eq_true rfl⟩) hK hP hD hS hA [0, 1, 2] [] rfl rfl rfl rfl (by decide) 1 rfl rfl rfl rfl hl.1 rfl (Nat.le_of_ble_eq_true rfl) ⟨Nat.zero_le _, Nat.zero_le _⟩ dX1_ringLengths_15 (fun r15 fRE_15 H locs h hP hD hS => ?_)
      have hP : va_P (dC, dI) vwCl [oT aT aB aWK aRE aY aZ tk, aI aB cI 6 fB, aI aRE cI 61 fRE_15] H := hP.sub [0, 1, 2] rfl
      have hD : va_D A [oT aT aB aWK aRE aY aZ tk, aI aB cI 6 fB, aI aRE cI 61 fRE_15] := hD.sub [0, 1, 2] rfl rfl
      refine lv_lor hx hb dX1_ringLengths_18 ?_
      refine lv_topl (fun v19 ev19 => ?_)
      have h := h v19 ev19
      refine lv_lstore_n (lv' := [(1, .long v19), (0, .ref aT), (3, .int x3)]) hx hb dX1_ringLengths_19 rfl hl (by decide) rfl (fun ls hl => ?_)
      obtain ⟨v20, ev20⟩ : ∃ y : Int32, y = x3 + (1 : Int32) := ⟨_, rfl⟩
      have h := h v20 ev20
      refine lv_iinc (v := v20) (lv' := [(3, .int v20), (1, .long v19), (0, .ref aT)]) hx hb dX1_ringLengths_20 hl (k := 2) rfl (by rw [ev20]; rfl) (by decide) rfl (fun ls hl => ?_)
      refine lv_goto (tgt := 4) hx hb dX1_ringLengths_23 (by decide) ?_
      exact h H locs ls hP hD hS (lv_sub hl [2, 1, 0] rfl)
  unfold wp_X1_ringLengths at h
  intro H locs ls hP hD hS hl
  refine lv_lconst (v := 0) hx hb dX1_ringLengths_0 (by decide) ?_
  refine lv_lstore_n (lv' := [(1, .long (0 : Int64)), (0, .ref aT)]) hx hb dX1_ringLengths_1 rfl hl (by decide) rfl (fun ls hl => ?_)
  refine lv_iconst (v := 0) hx hb dX1_ringLengths_2 (by decide) ?_
  refine lv_istore_n (lv' := [(3, .int (0 : Int32)), (1, .long (0 : Int64)), (0, .ref aT)]) hx hb dX1_ringLengths_3 rfl hl (by decide) rfl (fun ls hl => ?_)
  exact B4 _ _ _ h H locs ls hP hD hS (lv_sub hl [2, 1, 0] rfl)
set_option maxHeartbeats 4000000 in
set_option maxRecDepth 100000 in
theorem c_X1_ringLengths {l : Launch} {dC : Nat → ClassId} {dI : Nat → Nat → Nat} {cI cJ cZ : ClassId} {aT aB aWK aRE aY aZ : Nat} {tk : Int32} {fB : (Nat → Int32)} {fRE : (Nat → Int32)}  {post : Int64 → (Nat → Int32) → Prop} (h : wp_X1_ringLengths  tk fB fRE post) : ∀ sz, Met l yX1_ringLengths wsX1_ringLengths rm_X1_ringLengths (mP (dC, dI) (mTy cI cJ cZ) [.ref aT] [oT aT aB aWK aRE aY aZ tk, aI aB cI 6 fB, aI aRE cI 61 fRE] sz) (va_Ql (fun (r : Int64) (u : (Nat → Int32)) => post r u) (mB (dC, dI) (va_A [oT aT aB aWK aRE aY aZ tk, aI aB cI 6 fB, aI aRE cI 61 fRE] sz) (fun u => [oT aT aB aWK aRE aY aZ tk, aI aB cI 6 fB, aI aRE cI 61 u])) (va_A [oT aT aB aWK aRE aY aZ tk, aI aB cI 6 fB, aI aRE cI 61 fRE] sz)) 0 0 (va_A [oT aT aB aWK aRE aY aZ tk, aI aB cI 6 fB, aI aRE cI 61 fRE] sz) := by
  intro sz
  refine Met.ofW (cc := cX1_ringLengths) (maxL := 4) (ret := (some .long)) (by decide) rfl ?_
  intro p e s m args below meth c s₁ B hml hv
  obtain ⟨rfl, hsz, hP, hK, hD0⟩ := hv
  have hlocks := B.notSynchronized
  subst hsz
  have hD := hD0.self (sz := s.heap.size)
  have hl := lv_entry ([.ref aT]) (n := 4) (Nat.le_of_ble_eq_true rfl)
  rw [lg_entry_eq]
  exact k_X1_ringLengths B.exec B.bytes hml (findClass_of_methodNamed B.named) (atoms_spec (ws := wsX1_ringLengths) B.pre) hK (fun q hq => Or.inr hq) (fun r fRE' H locs ls pc hd hp hP hD hS => W.lret B.exec B.bytes B.returns (fun t ht hW => ⟨⟨r, fRE', rfl, hp, by rw [ht]; exact hP, hD⟩, hS.F ht⟩) hS.2.2 hd) h s.heap [] _ hP hD va_S.rf hl

def wp_X1_hasPaceOne_b2 (x1 : Int32) (tk : Int32) (fB : (Nat → Int32)) (fRE : (Nat → Int32)) (post : Int32 → (Nat → Int32) → Prop)  : Prop := ∀ P2 : Int32 → (Nat → Int32) → Prop, (∀ (x1 : Int32) (fRE : (Nat → Int32)), ((tk ≤ x1 → post (0 : Int32) fRE) ∧ (¬ tk ≤ x1 → wp_X1_paceOf x1 tk fB fRE (fun (r12 : Int32) (fRE_12 : (Nat → Int32)) => ((¬ r12 = (1 : Int32) → (∀ v21 : Int32, v21 = x1 + (1 : Int32) → P2 v21 fRE_12)) ∧ (r12 = (1 : Int32) → post (1 : Int32) fRE_12))))) → P2 x1 fRE) → P2 x1 fRE
def wp_X1_hasPaceOne  (tk : Int32) (fB : (Nat → Int32)) (fRE : (Nat → Int32)) (post : Int32 → (Nat → Int32) → Prop) : Prop := wp_X1_hasPaceOne_b2 (0 : Int32) tk fB fRE post
abbrev rm_X1_hasPaceOne : Room := { frames := 3, cells := 0, slots := 0, locals := 73 }
theorem hv_X1_hasPaceOne : yX1_hasPaceOne.cls = RX1 ∧ yX1_hasPaceOne.cls ≠ "java/lang/invoke/MethodHandle" ∧ yX1_hasPaceOne.cls ≠ "java/lang/invoke/VarHandle" ∧ (parseMethodDescriptor yX1_hasPaceOne.desc).map (fun d => d.parameters.length) = some 0 := by decide +kernel
set_option maxHeartbeats 4000000 in
set_option maxRecDepth 100000 in
theorem k_X1_hasPaceOne {p : Program} {l : Launch} {e : Env} {s : State} {m : MethodId} {args : Array Value} {below : List Frame} {meth : Method} {c : Code} {Q : State → Prop} {A : Nat → Prop} {dC : Nat → ClassId} {dI : Nat → Nat → Nat} {cI cJ cZ : ClassId} (hx : p.tables.exec = Jvm.exec) (hb : c.code = cX1_hasPaceOne) (hml : c.maxLocals = 2) (hown : s.vm.findClass RX1 = some m.cls) (hts : ∀ w ∈ wsX1_hasPaceOne, w.before args s = true) (hK : va_K (dC, dI) vwCl (mTy cI cJ cZ) s) (hA : ∀ q, s.heap.size ≤ q → A q) {aT aB aWK aRE aY aZ : Nat} {tk : Int32} {fB : (Nat → Int32)} {fRE : (Nat → Int32)}  {post : Int32 → (Nat → Int32) → Prop} (ret : ∀ (r : Int32) (fRE' : (Nat → Int32)) (H : Heap) (locs : List Loc) (ls : Array Slot) (pc : Nat), decode cX1_hasPaceOne pc = .ok (.ireturn, 1) → (r = 0 ∨ r = 1) → post r fRE' → va_P (dC, dI) vwCl [oT aT aB aWK aRE aY aZ tk, aI aB cI 6 fB, aI aRE cI 61 fRE'] H → va_D A [oT aT aB aWK aRE aY aZ tk, aI aB cI 6 fB, aI aRE cI 61 fRE'] → va_S A s.heap H locs → W p l e rm_X1_hasPaceOne s m args below meth c H locs 0 0 Q (F0 m pc ls [.int r])) (h : wp_X1_hasPaceOne  tk fB fRE post) : mW p l e rm_X1_hasPaceOne s m args below meth c 0 0 Q A (dC, dI) 2 [oT aT aB aWK aRE aY aZ tk, aI aB cI 6 fB, aI aRE cI 61 fRE] [(0, .ref aT)] 0 [] := by
  have in_X1 : ∀ w ∈ wsX10, w ∈ wsX1_hasPaceOne := fun w hw => List.mem_cons_of_mem _ (List.mem_append_right _ hw)
  have k_38 := hts (.fieldLink RX1 38 "RingTasks$Task" "size" "I") (List.mem_of_getElem? (i := 1) rfl)
  have B2 : ∀ (x1 : Int32) (fRE : (Nat → Int32)), wp_X1_hasPaceOne_b2 x1 tk fB fRE post → mW p l e rm_X1_hasPaceOne s m args below meth c 0 0 Q A (dC, dI) 2 [oT aT aB aWK aRE aY aZ tk, aI aB cI 6 fB, aI aRE cI 61 fRE] [(0, .ref aT), (1, .int x1)] 2 [] := by
    intro x1 fRE h
    unfold wp_X1_hasPaceOne_b2 at h
    refine h (fun (x1 : Int32) (fRE : (Nat → Int32)) => mW p l e rm_X1_hasPaceOne s m args below meth c 0 0 Q A (dC, dI) 2 [oT aT aB aWK aRE aY aZ tk, aI aB cI 6 fB, aI aRE cI 61 fRE] [(0, .ref aT), (1, .int x1)] 2 []) ?_
    intro x1 fRE h
    intro H locs ls hP hD hS hl
    refine lv_iload_n hx hb dX1_hasPaceOne_2 rfl (lv_at hl 1 rfl) ?_
    refine lv_aload_n hx hb dX1_hasPaceOne_3 rfl (lv_at hl 0 rfl) ?_
    refine va_get (D := (dC, dI)) (ci := 1) (v := .int tk) (C := RX1) (T := TX1) (N := 6) hx hb hts in_X1 hown hK hP 0 rfl rfl 0 (by decide) k_38 (fun _ h9 => h9) rfl dX1_hasPaceOne_4 ?_
    refine lv_icmp_ge (tgt := 27) hx hb dX1_hasPaceOne_7 (by decide) (fun q7 => ?_) (fun q7 => ?_)
    · have h := h.1 q7
      refine lv_iconst (v := 0) hx hb dX1_hasPaceOne_27 (by decide) ?_
      exact ret _ _ H locs ls _ dX1_hasPaceOne_28 (Or.inl rfl) h hP hD hS
    · have h := h.2 q7
      refine lv_aload_n hx hb dX1_hasPaceOne_10 rfl (lv_at hl 0 rfl) ?_
      refine lv_iload_n hx hb dX1_hasPaceOne_11 rfl (lv_at hl 1 rfl) ?_
      refine mVi (wr := []) (As := [.int x1]) (rest := []) ⟨hx, hb, hml, hown, hts⟩ (c_X1_paceOf (l := l) (dC := dC) (dI := dI) (cI := cI) (cJ := cJ) (cZ := cZ) (aT := aT) (aB := aB) (aWK := aWK) (aRE := aRE) (aY := aY) (aZ := aZ) h) (cwV 1 hts gX1_hasPaceOne_X1_paceOf rfl rfl rfl hv_X1_paceOf ⟨Nat.le_of_ble_eq_true rfl, Nat.le_of_ble_eq_true rfl⟩) hK hP hD hS hA [0, 1, 2] [] rfl rfl rfl rfl (by decide) 1 rfl rfl rfl rfl hl.1 rfl (Nat.le_of_ble_eq_true rfl) ⟨Nat.zero_le _, Nat.zero_le _⟩ dX1_hasPaceOne_12 (fun r12 fRE_12 H locs h hP hD hS => ?_)
      have hP : va_P (dC, dI) vwCl [oT aT aB aWK aRE aY aZ tk, aI aB cI 6 fB, aI aRE cI 61 fRE_12] H := hP.sub [0, 1, 2] rfl
      have hD : va_D A [oT aT aB aWK aRE aY aZ tk, aI aB cI 6 fB, aI aRE cI 61 fRE_12] := hD.sub [0, 1, 2] rfl rfl
      refine lv_iconst (v := 1) hx hb dX1_hasPaceOne_15 (by decide) ?_
      refine lv_icmp_ne (tgt := 21) hx hb dX1_hasPaceOne_16 (by decide) (fun q16 => ?_) (fun q16 => ?_)
      · have h := h.1 q16
        obtain ⟨v21, ev21⟩ : ∃ y : Int32, y = x1 + (1 : Int32) := ⟨_, rfl⟩
        have h := h v21 ev21
        refine lv_iinc (v := v21) (lv' := [(1, .int v21), (0, .ref aT)]) hx hb dX1_hasPaceOne_21 hl (k := 1) rfl (by rw [ev21]; rfl) (by decide) rfl (fun ls hl => ?_)
        refine lv_goto (tgt := 2) hx hb dX1_hasPaceOne_24 (by decide) ?_
        exact h H locs ls hP hD hS (lv_sub hl [1, 0] rfl)
      · have h := h.2 q16
        refine lv_iconst (v := 1) hx hb dX1_hasPaceOne_19 (by decide) ?_
        exact ret _ _ H locs ls _ dX1_hasPaceOne_20 (Or.inr rfl) h hP hD hS
  unfold wp_X1_hasPaceOne at h
  intro H locs ls hP hD hS hl
  refine lv_iconst (v := 0) hx hb dX1_hasPaceOne_0 (by decide) ?_
  refine lv_istore_n (lv' := [(1, .int (0 : Int32)), (0, .ref aT)]) hx hb dX1_hasPaceOne_1 rfl hl (by decide) rfl (fun ls hl => ?_)
  exact B2 _ _ h H locs ls hP hD hS (lv_sub hl [1, 0] rfl)
set_option maxHeartbeats 4000000 in
set_option maxRecDepth 100000 in
theorem c_X1_hasPaceOne {l : Launch} {dC : Nat → ClassId} {dI : Nat → Nat → Nat} {cI cJ cZ : ClassId} {aT aB aWK aRE aY aZ : Nat} {tk : Int32} {fB : (Nat → Int32)} {fRE : (Nat → Int32)}  {post : Int32 → (Nat → Int32) → Prop} (h : wp_X1_hasPaceOne  tk fB fRE post) : ∀ sz, Met l yX1_hasPaceOne wsX1_hasPaceOne rm_X1_hasPaceOne (mP (dC, dI) (mTy cI cJ cZ) [.ref aT] [oT aT aB aWK aRE aY aZ tk, aI aB cI 6 fB, aI aRE cI 61 fRE] sz) (va_Qi (fun (r : Int32) (u : (Nat → Int32)) => post r u) (mB (dC, dI) (va_A [oT aT aB aWK aRE aY aZ tk, aI aB cI 6 fB, aI aRE cI 61 fRE] sz) (fun u => [oT aT aB aWK aRE aY aZ tk, aI aB cI 6 fB, aI aRE cI 61 u])) (va_A [oT aT aB aWK aRE aY aZ tk, aI aB cI 6 fB, aI aRE cI 61 fRE] sz)) 0 0 (va_A [oT aT aB aWK aRE aY aZ tk, aI aB cI 6 fB, aI aRE cI 61 fRE] sz) := by
  intro sz
  refine Met.ofW (cc := cX1_hasPaceOne) (maxL := 2) (ret := (some .boolean)) (by decide) rfl ?_
  intro p e s m args below meth c s₁ B hml hv
  obtain ⟨rfl, hsz, hP, hK, hD0⟩ := hv
  have hlocks := B.notSynchronized
  subst hsz
  have hD := hD0.self (sz := s.heap.size)
  have hl := lv_entry ([.ref aT]) (n := 2) (Nat.le_of_ble_eq_true rfl)
  rw [lg_entry_eq]
  exact k_X1_hasPaceOne B.exec B.bytes hml (findClass_of_methodNamed B.named) (atoms_spec (ws := wsX1_hasPaceOne) B.pre) hK (fun q hq => Or.inr hq) (fun r fRE' H locs ls pc hd hz hp hP hD hS => W.zret B.exec B.bytes B.returns (m_bz hz) (fun t ht hW => ⟨⟨r, fRE', rfl, hp, by rw [ht]; exact hP, hD⟩, hS.F ht⟩) hS.2.2 hd) h s.heap [] _ hP hD va_S.rf hl

def wp_X1_kindOfTask  (tk : Int32) (fB : (Nat → Int32)) (fRE : (Nat → Int32)) (post : Int32 → (Nat → Int32) → Prop) : Prop := wp_X1_ringLengths tk fB fRE (fun (r1 : Int64) (fRE_1 : (Nat → Int32)) => (∀ v8 : Int64, v8 = (r1 &&& (-2 : Int64)) → ((¬ (lg_cmp v8 (0 : Int64)) = (0 : Int32) → (((lg_cmp (v8 &&& (2 : Int64)) (0 : Int64)) = (0 : Int32) → wp_X1_hasPaceOne tk fB fRE_1 (fun (r30 : Int32) (fRE_30 : (Nat → Int32)) => ((r30 = (0 : Int32) → post (3 : Int32) fRE_30) ∧ (¬ r30 = (0 : Int32) → post (2 : Int32) fRE_30)))) ∧ (¬ (lg_cmp (v8 &&& (2 : Int64)) (0 : Int64)) = (0 : Int32) → post (1 : Int32) fRE_1))) ∧ ((lg_cmp v8 (0 : Int64)) = (0 : Int32) → post (0 : Int32) fRE_1))))
abbrev rm_X1_kindOfTask : Room := { frames := 4, cells := 0, slots := 0, locals := 94 }
theorem hv_X1_kindOfTask : yX1_kindOfTask.cls = RX1 ∧ yX1_kindOfTask.cls ≠ "java/lang/invoke/MethodHandle" ∧ yX1_kindOfTask.cls ≠ "java/lang/invoke/VarHandle" ∧ (parseMethodDescriptor yX1_kindOfTask.desc).map (fun d => d.parameters.length) = some 0 := by decide +kernel
set_option maxHeartbeats 4000000 in
set_option maxRecDepth 100000 in
theorem k_X1_kindOfTask {p : Program} {l : Launch} {e : Env} {s : State} {m : MethodId} {args : Array Value} {below : List Frame} {meth : Method} {c : Code} {Q : State → Prop} {A : Nat → Prop} {dC : Nat → ClassId} {dI : Nat → Nat → Nat} {cI cJ cZ : ClassId} (hx : p.tables.exec = Jvm.exec) (hb : c.code = cX1_kindOfTask) (hml : c.maxLocals = 3) (hown : s.vm.findClass RX1 = some m.cls) (hts : ∀ w ∈ wsX1_kindOfTask, w.before args s = true) (hK : va_K (dC, dI) vwCl (mTy cI cJ cZ) s) (hA : ∀ q, s.heap.size ≤ q → A q) {aT aB aWK aRE aY aZ : Nat} {tk : Int32} {fB : (Nat → Int32)} {fRE : (Nat → Int32)}  {post : Int32 → (Nat → Int32) → Prop} (ret : ∀ (r : Int32) (fRE' : (Nat → Int32)) (H : Heap) (locs : List Loc) (ls : Array Slot) (pc : Nat), decode cX1_kindOfTask pc = .ok (.ireturn, 1) → post r fRE' → va_P (dC, dI) vwCl [oT aT aB aWK aRE aY aZ tk, aI aB cI 6 fB, aI aRE cI 61 fRE'] H → va_D A [oT aT aB aWK aRE aY aZ tk, aI aB cI 6 fB, aI aRE cI 61 fRE'] → va_S A s.heap H locs → W p l e rm_X1_kindOfTask s m args below meth c H locs 0 0 Q (F0 m pc ls [.int r])) (h : wp_X1_kindOfTask  tk fB fRE post) : mW p l e rm_X1_kindOfTask s m args below meth c 0 0 Q A (dC, dI) 3 [oT aT aB aWK aRE aY aZ tk, aI aB cI 6 fB, aI aRE cI 61 fRE] [(0, .ref aT)] 0 [] := by
  have k_101 := hts (.constantLong RX1 101 (-2)) (List.mem_of_getElem? (i := 1) rfl)
  have k_114 := hts (.constantLong RX1 114 (2)) (List.mem_of_getElem? (i := 2) rfl)
  unfold wp_X1_kindOfTask at h
  intro H locs ls hP hD hS hl
  refine lv_aload_n hx hb dX1_kindOfTask_0 rfl (lv_at hl 0 rfl) ?_
  refine mVl (wr := []) (As := []) (rest := []) ⟨hx, hb, hml, hown, hts⟩ (c_X1_ringLengths (l := l) (dC := dC) (dI := dI) (cI := cI) (cJ := cJ) (cZ := cZ) (aT := aT) (aB := aB) (aWK := aWK) (aRE := aRE) (aY := aY) (aZ := aZ) h) (cwV 0 hts gX1_kindOfTask_X1_ringLengths rfl rfl rfl hv_X1_ringLengths ⟨Nat.le_of_ble_eq_true rfl, Nat.le_of_ble_eq_true rfl⟩) hK hP hD hS hA [0, 1, 2] [] rfl rfl rfl rfl (by decide) 1 rfl rfl rfl rfl hl.1 rfl (Nat.le_of_ble_eq_true rfl) ⟨Nat.zero_le _, Nat.zero_le _⟩ dX1_kindOfTask_1 (fun r1 fRE_1 H locs h hP hD hS => ?_)
  have hP : va_P (dC, dI) vwCl [oT aT aB aWK aRE aY aZ tk, aI aB cI 6 fB, aI aRE cI 61 fRE_1] H := hP.sub [0, 1, 2] rfl
  have hD : va_D A [oT aT aB aWK aRE aY aZ tk, aI aB cI 6 fB, aI aRE cI 61 fRE_1] := hD.sub [0, 1, 2] rfl rfl
  refine lv_ldc2 (v := -2) hx hb hown k_101 dX1_kindOfTask_4 ?_
  refine lv_land hx hb dX1_kindOfTask_7 ?_
  refine lv_topl (fun v8 ev8 => ?_)
  have h := h v8 ev8
  refine lv_lstore_n (lv' := [(1, .long v8), (0, .ref aT)]) hx hb dX1_kindOfTask_8 rfl hl (by decide) rfl (fun ls hl => ?_)
  refine lv_lload_n hx hb dX1_kindOfTask_9 rfl (lv_at hl 0 rfl) ?_
  refine lv_lconst (v := 0) hx hb dX1_kindOfTask_10 (by decide) ?_
  refine W.lcmp hx hb dX1_kindOfTask_11 ?_
  refine lv_if_ne (tgt := 17) hx hb dX1_kindOfTask_12 (by decide) (fun q12 => ?_) (fun q12 => ?_)
  · have h := h.1 q12
    refine lv_lload_n hx hb dX1_kindOfTask_17 rfl (lv_at hl 0 rfl) ?_
    refine lv_ldc2 (v := 2) hx hb hown k_114 dX1_kindOfTask_18 ?_
    refine lv_land hx hb dX1_kindOfTask_21 ?_
    refine lv_lconst (v := 0) hx hb dX1_kindOfTask_22 (by decide) ?_
    refine W.lcmp hx hb dX1_kindOfTask_23 ?_
    refine lv_if_eq (tgt := 29) hx hb dX1_kindOfTask_24 (by decide) (fun q24 => ?_) (fun q24 => ?_)
    · have h := h.1 q24
      refine lv_aload_n hx hb dX1_kindOfTask_29 rfl (lv_at hl 1 rfl) ?_
      refine mVi (wr := []) (As := []) (rest := []) ⟨hx, hb, hml, hown, hts⟩ (c_X1_hasPaceOne (l := l) (dC := dC) (dI := dI) (cI := cI) (cJ := cJ) (cZ := cZ) (aT := aT) (aB := aB) (aWK := aWK) (aRE := aRE) (aY := aY) (aZ := aZ) h) (cwV 0 hts gX1_kindOfTask_X1_hasPaceOne rfl rfl rfl hv_X1_hasPaceOne ⟨Nat.le_of_ble_eq_true rfl, Nat.le_of_ble_eq_true rfl⟩) hK hP hD hS hA [0, 1, 2] [] rfl rfl rfl rfl (by decide) 1 rfl rfl rfl rfl hl.1 rfl (Nat.le_of_ble_eq_true rfl) ⟨Nat.zero_le _, Nat.zero_le _⟩ dX1_kindOfTask_30 (fun r30 fRE_30 H locs h hP hD hS => ?_)
      have hP : va_P (dC, dI) vwCl [oT aT aB aWK aRE aY aZ tk, aI aB cI 6 fB, aI aRE cI 61 fRE_30] H := hP.sub [0, 1, 2] rfl
      have hD : va_D A [oT aT aB aWK aRE aY aZ tk, aI aB cI 6 fB, aI aRE cI 61 fRE_30] := hD.sub [0, 1, 2] rfl rfl
      refine lv_if_eq (tgt := 40) hx hb dX1_kindOfTask_33 (by decide) (fun q33 => ?_) (fun q33 => ?_)
      · have h := h.1 q33
        refine lv_iconst (v := 3) hx hb dX1_kindOfTask_40 (by decide) ?_
        exact ret _ _ H locs ls _ dX1_kindOfTask_41 h hP hD hS
      · have h := h.2 q33
        refine lv_iconst (v := 2) hx hb dX1_kindOfTask_36 (by decide) ?_
        refine lv_goto (tgt := 41) hx hb dX1_kindOfTask_37 (by decide) ?_
        exact ret _ _ H locs ls _ dX1_kindOfTask_41 h hP hD hS
    · have h := h.2 q24
      refine lv_iconst (v := 1) hx hb dX1_kindOfTask_27 (by decide) ?_
      exact ret _ _ H locs ls _ dX1_kindOfTask_28 h hP hD hS
  · have h := h.2 q12
    refine lv_iconst (v := 0) hx hb dX1_kindOfTask_15 (by decide) ?_
    exact ret _ _ H locs ls _ dX1_kindOfTask_16 h hP hD hS
set_option maxHeartbeats 4000000 in
set_option maxRecDepth 100000 in
theorem c_X1_kindOfTask {l : Launch} {dC : Nat → ClassId} {dI : Nat → Nat → Nat} {cI cJ cZ : ClassId} {aT aB aWK aRE aY aZ : Nat} {tk : Int32} {fB : (Nat → Int32)} {fRE : (Nat → Int32)}  {post : Int32 → (Nat → Int32) → Prop} (h : wp_X1_kindOfTask  tk fB fRE post) : ∀ sz, Met l yX1_kindOfTask wsX1_kindOfTask rm_X1_kindOfTask (mP (dC, dI) (mTy cI cJ cZ) [.ref aT] [oT aT aB aWK aRE aY aZ tk, aI aB cI 6 fB, aI aRE cI 61 fRE] sz) (va_Qi (fun (r : Int32) (u : (Nat → Int32)) => post r u) (mB (dC, dI) (va_A [oT aT aB aWK aRE aY aZ tk, aI aB cI 6 fB, aI aRE cI 61 fRE] sz) (fun u => [oT aT aB aWK aRE aY aZ tk, aI aB cI 6 fB, aI aRE cI 61 u])) (va_A [oT aT aB aWK aRE aY aZ tk, aI aB cI 6 fB, aI aRE cI 61 fRE] sz)) 0 0 (va_A [oT aT aB aWK aRE aY aZ tk, aI aB cI 6 fB, aI aRE cI 61 fRE] sz) := by
  intro sz
  refine Met.ofW (cc := cX1_kindOfTask) (maxL := 3) (ret := (some .int)) (by decide) rfl ?_
  intro p e s m args below meth c s₁ B hml hv
  obtain ⟨rfl, hsz, hP, hK, hD0⟩ := hv
  have hlocks := B.notSynchronized
  subst hsz
  have hD := hD0.self (sz := s.heap.size)
  have hl := lv_entry ([.ref aT]) (n := 3) (Nat.le_of_ble_eq_true rfl)
  rw [lg_entry_eq]
  exact k_X1_kindOfTask B.exec B.bytes hml (findClass_of_methodNamed B.named) (atoms_spec (ws := wsX1_kindOfTask) B.pre) hK (fun q hq => Or.inr hq) (fun r fRE' H locs ls pc hd hp hP hD hS => W.iret B.exec B.bytes B.returns (fun t ht hW => ⟨⟨r, fRE', rfl, hp, by rw [ht]; exact hP, hD⟩, hS.F ht⟩) hS.2.2 hd) h s.heap [] _ hP hD va_S.rf hl

def wp_X1_isMirrored_b37 (x1 : Int32) (x2 : Int32) (z0 : Int32) (tk : Int32) (fB : (Nat → Int32)) (post : Int32 → Prop) (P2 : Int32 → Prop) (P12 : Int32 → Prop) : Prop := ((z0 = (0 : Int32) → (∀ v57 : Int32, v57 = x2 + (1 : Int32) → P12 v57)) ∧ (¬ z0 = (0 : Int32) → wp_X1_leastOfBlock x1 tk fB (fun (r44 : Int32) => wp_X1_leastOfBlock x2 tk fB (fun (r49 : Int32) => ((¬ r44 = r49 → (∀ v57 : Int32, v57 = x2 + (1 : Int32) → P12 v57)) ∧ (r44 = r49 → post (0 : Int32)))))))
def wp_X1_isMirrored_b12 (x1 : Int32) (x2 : Int32) (tk : Int32) (fB : (Nat → Int32)) (post : Int32 → Prop) (P2 : Int32 → Prop) : Prop := ∀ P12 : Int32 → Prop, (∀ (x2 : Int32), ((x1 ≤ x2 → (∀ v63 : Int32, v63 = x1 + (1 : Int32) → P2 v63)) ∧ (¬ x1 ≤ x2 → wp_X1_mayFollow x1 x2 tk fB (fun (r20 : Int32) => wp_X1_mayFollow x2 x1 tk fB (fun (r26 : Int32) => ((r20 = r26 → wp_X1_isMirrored_b37 x1 x2 (0 : Int32) tk fB post P2 P12) ∧ (¬ r20 = r26 → wp_X1_isMirrored_b37 x1 x2 (1 : Int32) tk fB post P2 P12)))))) → P12 x2) → P12 x2
def wp_X1_isMirrored_b2 (x1 : Int32) (tk : Int32) (fB : (Nat → Int32)) (post : Int32 → Prop)  : Prop := ∀ P2 : Int32 → Prop, (∀ (x1 : Int32), ((tk ≤ x1 → post (1 : Int32)) ∧ (¬ tk ≤ x1 → wp_X1_isMirrored_b12 x1 (0 : Int32) tk fB post P2)) → P2 x1) → P2 x1
def wp_X1_isMirrored  (tk : Int32) (fB : (Nat → Int32)) (post : Int32 → Prop) : Prop := wp_X1_isMirrored_b2 (0 : Int32) tk fB post
abbrev rm_X1_isMirrored : Room := { frames := 3, cells := 0, slots := 0, locals := 69 }
theorem hv_X1_isMirrored : yX1_isMirrored.cls = RX1 ∧ yX1_isMirrored.cls ≠ "java/lang/invoke/MethodHandle" ∧ yX1_isMirrored.cls ≠ "java/lang/invoke/VarHandle" ∧ (parseMethodDescriptor yX1_isMirrored.desc).map (fun d => d.parameters.length) = some 0 := by decide +kernel
set_option maxHeartbeats 4000000 in
set_option maxRecDepth 100000 in
theorem k_X1_isMirrored {p : Program} {l : Launch} {e : Env} {s : State} {m : MethodId} {args : Array Value} {below : List Frame} {meth : Method} {c : Code} {Q : State → Prop} {A : Nat → Prop} {dC : Nat → ClassId} {dI : Nat → Nat → Nat} {cI cJ cZ : ClassId} (hx : p.tables.exec = Jvm.exec) (hb : c.code = cX1_isMirrored) (hml : c.maxLocals = 4) (hown : s.vm.findClass RX1 = some m.cls) (hts : ∀ w ∈ wsX1_isMirrored, w.before args s = true) (hK : va_K (dC, dI) vwCl (mTy cI cJ cZ) s) (hA : ∀ q, s.heap.size ≤ q → A q) {aT aB aWK aRE aY aZ : Nat} {tk : Int32} {fB : (Nat → Int32)}  {post : Int32 → Prop} (ret : ∀ (r : Int32) (H : Heap) (locs : List Loc) (ls : Array Slot) (pc : Nat), decode cX1_isMirrored pc = .ok (.ireturn, 1) → (r = 0 ∨ r = 1) → post r → va_P (dC, dI) vwCl [oT aT aB aWK aRE aY aZ tk, aI aB cI 6 fB] H → va_D A [oT aT aB aWK aRE aY aZ tk, aI aB cI 6 fB] → va_S A s.heap H locs → W p l e rm_X1_isMirrored s m args below meth c H locs 0 0 Q (F0 m pc ls [.int r])) (h : wp_X1_isMirrored  tk fB post) : mW p l e rm_X1_isMirrored s m args below meth c 0 0 Q A (dC, dI) 4 [oT aT aB aWK aRE aY aZ tk, aI aB cI 6 fB] [(0, .ref aT)] 0 [] := by
  have in_X1 : ∀ w ∈ wsX10, w ∈ wsX1_isMirrored := fun w hw => List.mem_cons_of_mem _ (List.mem_append_right _ hw)
  have k_38 := hts (.fieldLink RX1 38 "RingTasks$Task" "size" "I") (List.mem_of_getElem? (i := 1) rfl)
  have B37 : ∀ (x1 : Int32) (x2 : Int32) (z0 : Int32), ∀ (P2 : Int32 → Prop) (hP2 : ∀ (x1 : Int32), P2 x1 → mW p l e rm_X1_isMirrored s m args below meth c 0 0 Q A (dC, dI) 4 [oT aT aB aWK aRE aY aZ tk, aI aB cI 6 fB] [(0, .ref aT), (1, .int x1)] 2 []), ∀ (P12 : Int32 → Prop) (hP12 : ∀ (x2 : Int32), P12 x2 → mW p l e rm_X1_isMirrored s m args below meth c 0 0 Q A (dC, dI) 4 [oT aT aB aWK aRE aY aZ tk, aI aB cI 6 fB] [(0, .ref aT), (1, .int x1), (2, .int x2)] 12 []), wp_X1_isMirrored_b37 x1 x2 z0 tk fB post P2 P12 → mW p l e rm_X1_isMirrored s m args below meth c 0 0 Q A (dC, dI) 4 [oT aT aB aWK aRE aY aZ tk, aI aB cI 6 fB] [(0, .ref aT), (1, .int x1), (2, .int x2)] 37 [.int z0] := by
    intro x1 x2 z0 P2 hP2 P12 hP12 h
    unfold wp_X1_isMirrored_b37 at h
    intro H locs ls hP hD hS hl
    refine lv_istore_n (lv' := [(3, .int z0), (0, .ref aT), (1, .int x1), (2, .int x2)]) hx hb dX1_isMirrored_37 rfl hl (by decide) rfl (fun ls hl => ?_)
    refine lv_iload_n hx hb dX1_isMirrored_38 rfl (lv_at hl 0 rfl) ?_
    refine lv_if_eq (tgt := 57) hx hb dX1_isMirrored_39 (by decide) (fun q39 => ?_) (fun q39 => ?_)
    · have h := h.1 q39
      obtain ⟨v57, ev57⟩ : ∃ y : Int32, y = x2 + (1 : Int32) := ⟨_, rfl⟩
      have h := h v57 ev57
      refine lv_iinc (v := v57) (lv' := [(2, .int v57), (3, .int z0), (0, .ref aT), (1, .int x1)]) hx hb dX1_isMirrored_57 hl (k := 3) rfl (by rw [ev57]; rfl) (by decide) rfl (fun ls hl => ?_)
      refine lv_goto (tgt := 12) hx hb dX1_isMirrored_60 (by decide) ?_
      exact hP12 _ h H locs ls hP hD hS (lv_sub hl [2, 3, 0] rfl)
    · have h := h.2 q39
      refine lv_aload_n hx hb dX1_isMirrored_42 rfl (lv_at hl 1 rfl) ?_
      refine lv_iload_n hx hb dX1_isMirrored_43 rfl (lv_at hl 2 rfl) ?_
      refine mVi (wr := []) (As := [.int x1]) (rest := []) ⟨hx, hb, hml, hown, hts⟩ (c_X1_leastOfBlock (l := l) (dC := dC) (dI := dI) (cI := cI) (cJ := cJ) (cZ := cZ) (aT := aT) (aB := aB) (aWK := aWK) (aRE := aRE) (aY := aY) (aZ := aZ) h) (cwV 1 hts gX1_isMirrored_X1_leastOfBlock rfl rfl rfl hv_X1_leastOfBlock ⟨Nat.le_of_ble_eq_true rfl, Nat.le_of_ble_eq_true rfl⟩) hK hP hD hS hA [0, 1] [] rfl rfl rfl rfl (by decide) 1 rfl rfl rfl rfl hl.1 rfl (Nat.le_of_ble_eq_true rfl) ⟨Nat.zero_le _, Nat.zero_le _⟩ dX1_isMirrored_44 (fun r44 u44 H locs h hP hD hS => ?_)
      have hP : va_P (dC, dI) vwCl [oT aT aB aWK aRE aY aZ tk, aI aB cI 6 fB] H := hP.sub [0, 1] rfl
      have hD : va_D A [oT aT aB aWK aRE aY aZ tk, aI aB cI 6 fB] := hD.sub [0, 1] rfl rfl
      refine lv_aload_n hx hb dX1_isMirrored_47 rfl (lv_at hl 1 rfl) ?_
      refine lv_iload_n hx hb dX1_isMirrored_48 rfl (lv_at hl 3 rfl) ?_
      refine mVi (wr := []) (As := [.int x2]) (rest := [.int r44]) ⟨hx, hb, hml, hown, hts⟩ (c_X1_leastOfBlock (l := l) (dC := dC) (dI := dI) (cI := cI) (cJ := cJ) (cZ := cZ) (aT := aT) (aB := aB) (aWK := aWK) (aRE := aRE) (aY := aY) (aZ := aZ) h) (cwV 1 hts gX1_isMirrored_X1_leastOfBlock rfl rfl rfl hv_X1_leastOfBlock ⟨Nat.le_of_ble_eq_true rfl, Nat.le_of_ble_eq_true rfl⟩) hK hP hD hS hA [0, 1] [] rfl rfl rfl rfl (by decide) 1 rfl rfl rfl rfl hl.1 rfl (Nat.le_of_ble_eq_true rfl) ⟨Nat.zero_le _, Nat.zero_le _⟩ dX1_isMirrored_49 (fun r49 u49 H locs h hP hD hS => ?_)
      have hP : va_P (dC, dI) vwCl [oT aT aB aWK aRE aY aZ tk, aI aB cI 6 fB] H := hP.sub [0, 1] rfl
      have hD : va_D A [oT aT aB aWK aRE aY aZ tk, aI aB cI 6 fB] := hD.sub [0, 1] rfl rfl
      refine lv_icmp_ne (tgt := 57) hx hb dX1_isMirrored_52 (by decide) (fun q52 => ?_) (fun q52 => ?_)
      · have h := h.1 q52
        obtain ⟨v57, ev57⟩ : ∃ y : Int32, y = x2 + (1 : Int32) := ⟨_, rfl⟩
        have h := h v57 ev57
        refine lv_iinc (v := v57) (lv' := [(2, .int v57), (3, .int z0), (0, .ref aT), (1, .int x1)]) hx hb dX1_isMirrored_57 hl (k := 3) rfl (by rw [ev57]; rfl) (by decide) rfl (fun ls hl => ?_)
        refine lv_goto (tgt := 12) hx hb dX1_isMirrored_60 (by decide) ?_
        exact hP12 _ h H locs ls hP hD hS (lv_sub hl [2, 3, 0] rfl)
      · have h := h.2 q52
        refine lv_iconst (v := 0) hx hb dX1_isMirrored_55 (by decide) ?_
        exact ret _  H locs ls _ dX1_isMirrored_56 (Or.inl rfl) h hP hD hS
  have B12 : ∀ (x1 : Int32) (x2 : Int32), ∀ (P2 : Int32 → Prop) (hP2 : ∀ (x1 : Int32), P2 x1 → mW p l e rm_X1_isMirrored s m args below meth c 0 0 Q A (dC, dI) 4 [oT aT aB aWK aRE aY aZ tk, aI aB cI 6 fB] [(0, .ref aT), (1, .int x1)] 2 []), wp_X1_isMirrored_b12 x1 x2 tk fB post P2 → mW p l e rm_X1_isMirrored s m args below meth c 0 0 Q A (dC, dI) 4 [oT aT aB aWK aRE aY aZ tk, aI aB cI 6 fB] [(0, .ref aT), (1, .int x1), (2, .int x2)] 12 [] := by
    intro x1 x2 P2 hP2 h
    unfold wp_X1_isMirrored_b12 at h
    refine h (fun (x2 : Int32) => mW p l e rm_X1_isMirrored s m args below meth c 0 0 Q A (dC, dI) 4 [oT aT aB aWK aRE aY aZ tk, aI aB cI 6 fB] [(0, .ref aT), (1, .int x1), (2, .int x2)] 12 []) ?_
    intro x2 h
    intro H locs ls hP hD hS hl
    refine lv_iload_n hx hb dX1_isMirrored_12 rfl (lv_at hl 2 rfl) ?_
    refine lv_iload_n hx hb dX1_isMirrored_13 rfl (lv_at hl 1 rfl) ?_
    refine lv_icmp_ge (tgt := 63) hx hb dX1_isMirrored_14 (by decide) (fun q14 => ?_) (fun q14 => ?_)
    · have h := h.1 q14
      obtain ⟨v63, ev63⟩ : ∃ y : Int32, y = x1 + (1 : Int32) := ⟨_, rfl⟩
      have h := h v63 ev63
      refine lv_iinc (v := v63) (lv' := [(1, .int v63), (0, .ref aT), (2, .int x2)]) hx hb dX1_isMirrored_63 hl (k := 1) rfl (by rw [ev63]; rfl) (by decide) rfl (fun ls hl => ?_)
      refine lv_goto (tgt := 2) hx hb dX1_isMirrored_66 (by decide) ?_
      exact hP2 _ h H locs ls hP hD hS (lv_sub hl [1, 0] rfl)
    · have h := h.2 q14
      refine lv_aload_n hx hb dX1_isMirrored_17 rfl (lv_at hl 0 rfl) ?_
      refine lv_iload_n hx hb dX1_isMirrored_18 rfl (lv_at hl 1 rfl) ?_
      refine lv_iload_n hx hb dX1_isMirrored_19 rfl (lv_at hl 2 rfl) ?_
      refine mVi (wr := []) (As := [.int x1, .int x2]) (rest := []) ⟨hx, hb, hml, hown, hts⟩ (c_X1_mayFollow (l := l) (dC := dC) (dI := dI) (cI := cI) (cJ := cJ) (cZ := cZ) (aT := aT) (aB := aB) (aWK := aWK) (aRE := aRE) (aY := aY) (aZ := aZ) h) (cwV 2 hts gX1_isMirrored_X1_mayFollow rfl rfl rfl hv_X1_mayFollow ⟨Nat.le_of_ble_eq_true rfl, Nat.le_of_ble_eq_true rfl⟩) hK hP hD hS hA [0, 1] [] rfl rfl rfl rfl (by decide) 1 rfl rfl rfl rfl hl.1 rfl (Nat.le_of_ble_eq_true rfl) ⟨Nat.zero_le _, Nat.zero_le _⟩ dX1_isMirrored_20 (fun r20 u20 H locs h hP hD hS => ?_)
      have hP : va_P (dC, dI) vwCl [oT aT aB aWK aRE aY aZ tk, aI aB cI 6 fB] H := hP.sub [0, 1] rfl
      have hD : va_D A [oT aT aB aWK aRE aY aZ tk, aI aB cI 6 fB] := hD.sub [0, 1] rfl rfl
      refine lv_aload_n hx hb dX1_isMirrored_23 rfl (lv_at hl 0 rfl) ?_
      refine lv_iload_n hx hb dX1_isMirrored_24 rfl (lv_at hl 2 rfl) ?_
      refine lv_iload_n hx hb dX1_isMirrored_25 rfl (lv_at hl 1 rfl) ?_
      refine mVi (wr := []) (As := [.int x2, .int x1]) (rest := [.int r20]) ⟨hx, hb, hml, hown, hts⟩ (c_X1_mayFollow (l := l) (dC := dC) (dI := dI) (cI := cI) (cJ := cJ) (cZ := cZ) (aT := aT) (aB := aB) (aWK := aWK) (aRE := aRE) (aY := aY) (aZ := aZ) h) (cwV 2 hts gX1_isMirrored_X1_mayFollow rfl rfl rfl hv_X1_mayFollow ⟨Nat.le_of_ble_eq_true rfl, Nat.le_of_ble_eq_true rfl⟩) hK hP hD hS hA [0, 1] [] rfl rfl rfl rfl (by decide) 1 rfl rfl rfl rfl hl.1 rfl (Nat.le_of_ble_eq_true rfl) ⟨Nat.zero_le _, Nat.zero_le _⟩ dX1_isMirrored_26 (fun r26 u26 H locs h hP hD hS => ?_)
      have hP : va_P (dC, dI) vwCl [oT aT aB aWK aRE aY aZ tk, aI aB cI 6 fB] H := hP.sub [0, 1] rfl
      have hD : va_D A [oT aT aB aWK aRE aY aZ tk, aI aB cI 6 fB] := hD.sub [0, 1] rfl rfl
      refine lv_icmp_eq (tgt := 36) hx hb dX1_isMirrored_29 (by decide) (fun q29 => ?_) (fun q29 => ?_)
      · have h := h.1 q29
        refine lv_iconst (v := 0) hx hb dX1_isMirrored_36 (by decide) ?_
        exact B37 _ _ _ _ hP2 _ (fun _ hq => hq) h H locs ls hP hD hS (lv_sub hl [0, 1, 2] rfl)
      · have h := h.2 q29
        refine lv_iconst (v := 1) hx hb dX1_isMirrored_32 (by decide) ?_
        refine lv_goto (tgt := 37) hx hb dX1_isMirrored_33 (by decide) ?_
        exact B37 _ _ _ _ hP2 _ (fun _ hq => hq) h H locs ls hP hD hS (lv_sub hl [0, 1, 2] rfl)
  have B2 : ∀ (x1 : Int32), wp_X1_isMirrored_b2 x1 tk fB post → mW p l e rm_X1_isMirrored s m args below meth c 0 0 Q A (dC, dI) 4 [oT aT aB aWK aRE aY aZ tk, aI aB cI 6 fB] [(0, .ref aT), (1, .int x1)] 2 [] := by
    intro x1 h
    unfold wp_X1_isMirrored_b2 at h
    refine h (fun (x1 : Int32) => mW p l e rm_X1_isMirrored s m args below meth c 0 0 Q A (dC, dI) 4 [oT aT aB aWK aRE aY aZ tk, aI aB cI 6 fB] [(0, .ref aT), (1, .int x1)] 2 []) ?_
    intro x1 h
    intro H locs ls hP hD hS hl
    refine lv_iload_n hx hb dX1_isMirrored_2 rfl (lv_at hl 1 rfl) ?_
    refine lv_aload_n hx hb dX1_isMirrored_3 rfl (lv_at hl 0 rfl) ?_
    refine va_get (D := (dC, dI)) (ci := 1) (v := .int tk) (C := RX1) (T := TX1) (N := 6) hx hb hts in_X1 hown hK hP 0 rfl rfl 0 (by decide) k_38 (fun _ h9 => h9) rfl dX1_isMirrored_4 ?_
    refine lv_icmp_ge (tgt := 69) hx hb dX1_isMirrored_7 (by decide) (fun q7 => ?_) (fun q7 => ?_)
    · have h := h.1 q7
      refine lv_iconst (v := 1) hx hb dX1_isMirrored_69 (by decide) ?_
      exact ret _  H locs ls _ dX1_isMirrored_70 (Or.inr rfl) h hP hD hS
    · have h := h.2 q7
      refine lv_iconst (v := 0) hx hb dX1_isMirrored_10 (by decide) ?_
      refine lv_istore_n (lv' := [(2, .int (0 : Int32)), (0, .ref aT), (1, .int x1)]) hx hb dX1_isMirrored_11 rfl hl (by decide) rfl (fun ls hl => ?_)
      exact B12 _ _ _ (fun _ hq => hq) h H locs ls hP hD hS (lv_sub hl [1, 2, 0] rfl)
  unfold wp_X1_isMirrored at h
  intro H locs ls hP hD hS hl
  refine lv_iconst (v := 0) hx hb dX1_isMirrored_0 (by decide) ?_
  refine lv_istore_n (lv' := [(1, .int (0 : Int32)), (0, .ref aT)]) hx hb dX1_isMirrored_1 rfl hl (by decide) rfl (fun ls hl => ?_)
  exact B2 _ h H locs ls hP hD hS (lv_sub hl [1, 0] rfl)
set_option maxHeartbeats 4000000 in
set_option maxRecDepth 100000 in
theorem c_X1_isMirrored {l : Launch} {dC : Nat → ClassId} {dI : Nat → Nat → Nat} {cI cJ cZ : ClassId} {aT aB aWK aRE aY aZ : Nat} {tk : Int32} {fB : (Nat → Int32)}  {post : Int32 → Prop} (h : wp_X1_isMirrored  tk fB post) : ∀ sz, Met l yX1_isMirrored wsX1_isMirrored rm_X1_isMirrored (mP (dC, dI) (mTy cI cJ cZ) [.ref aT] [oT aT aB aWK aRE aY aZ tk, aI aB cI 6 fB] sz) (va_Qi (fun (r : Int32) (u : Unit) => post r ) (mB (dC, dI) (va_A [oT aT aB aWK aRE aY aZ tk, aI aB cI 6 fB] sz) (fun u => [oT aT aB aWK aRE aY aZ tk, aI aB cI 6 fB])) (va_A [oT aT aB aWK aRE aY aZ tk, aI aB cI 6 fB] sz)) 0 0 (va_A [oT aT aB aWK aRE aY aZ tk, aI aB cI 6 fB] sz) := by
  intro sz
  refine Met.ofW (cc := cX1_isMirrored) (maxL := 4) (ret := (some .boolean)) (by decide) rfl ?_
  intro p e s m args below meth c s₁ B hml hv
  obtain ⟨rfl, hsz, hP, hK, hD0⟩ := hv
  have hlocks := B.notSynchronized
  subst hsz
  have hD := hD0.self (sz := s.heap.size)
  have hl := lv_entry ([.ref aT]) (n := 4) (Nat.le_of_ble_eq_true rfl)
  rw [lg_entry_eq]
  exact k_X1_isMirrored B.exec B.bytes hml (findClass_of_methodNamed B.named) (atoms_spec (ws := wsX1_isMirrored) B.pre) hK (fun q hq => Or.inr hq) (fun r H locs ls pc hd hz hp hP hD hS => W.zret B.exec B.bytes B.returns (m_bz hz) (fun t ht hW => ⟨⟨r, (), rfl, hp, by rw [ht]; exact hP, hD⟩, hS.F ht⟩) hS.2.2 hd) h s.heap [] _ hP hD va_S.rf hl
