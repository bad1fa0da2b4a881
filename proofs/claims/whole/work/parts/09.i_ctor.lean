theorem m_raI (U : State) (a b : ClassId) (h1 : va_RA U a .int) (h2 : va_RA U b .int) : a = b := Option.some.inj ((show U.vm.findClass _ = some a from h1).symm.trans h2)
theorem m_raJ (U : State) (a b : ClassId) (h1 : va_RA U a .long) (h2 : va_RA U b .long) : a = b := Option.some.inj ((show U.vm.findClass _ = some a from h1).symm.trans h2)
theorem m_raZ (U : State) (a b : ClassId) (h1 : va_RA U a .boolean) (h2 : va_RA U b .boolean) : a = b := Option.some.inj ((show U.vm.findClass _ = some a from h1).symm.trans h2)
section MN
variable {p : Program} {l : Launch} {e : Env} {R : Room} {s : State} {m : MethodId} {args : Array Value} {below : List Frame} {meth : Method} {c : Code} {H H0 : Heap} {locs : List Loc} {cells slots : Nat} {Q : State → Prop}
variable {pc : Nat} {ls : Array Slot} {rest st0 : List Value} {A : Nat → Prop} {D : va_G} {tys : List (ClassId × FieldType)}
theorem m_newa {cc : ByteArray} {ws : va_W} {cl : List vw_C} (hexec : p.tables.exec = Jvm.exec) (hb : c.code = cc) {atype : ArrayType} (harr : (Cond.arrayClass (newarray.typeOf atype)).before args s = true) {ty : FieldType} (hty : newarray.typeOf atype = ty) (hr : ∀ (U : State) (a b : ClassId), va_RA U a ty → va_RA U b ty → a = b) (hK : va_K D cl tys s) (hP : va_P D cl ws H) (hD : va_D A ws) (hS : va_S A H0 H locs) (hA : ∀ q, H0.size ≤ q → A q) (t0 : Nat) {c0 : ClassId} (ht : tys[t0]? = some (c0, ty))
    {n : Int32} {N' : Nat} {a0 : vp_A} (ha : ∀ cA : ClassId, vp_cell cA a0 = arrV cA N' (fun _ => defaultValue ty)) (hn : ¬ n < 0) (hN : n.toNatClampNeg = N') (hbytes : N' * componentBytes ty ≤ 536870912) (hcells : cells + 1 ≤ R.cells) (hslots : slots + N' ≤ R.slots) (hdg : decode cc pc = .ok (.newarray atype, 2))
    (kk : ∀ (q : Nat) (H1 : Heap), va_P D cl (ws ++ [(q, .inl (c0, a0))]) H1 → va_D A (ws ++ [(q, .inl (c0, a0))]) → va_S A H0 H1 locs →
      W p l e R s m args below meth c H1 locs (cells + 1) (slots + N') Q (F0 m (pc + 2) ls (.ref q :: rest))) : W p l e R s m args below meth c H locs cells slots Q (F0 m pc ls (.int n :: rest)) := by
  refine va_newa hexec hb harr hty hK hP hD hS hA ha hn hN hbytes hcells hslots hdg (fun q cA H1 hK1 hP1 hD1 hS1 => ?_)
  have h1 := (hK.2 t0 _ ht).2
  have h2 := (hK1.2 tys.length (cA, ty) (by simp)).2
  have e : cA = c0 := hr _ _ _ h2 h1
  subst e
  exact kk q H1 hP1 hD1 hS1
variable {y : MethodName} {bytes cc : ByteArray} {maxL nL n index mc ms : Nat} {ret : Option FieldType} {ws : List Cond} {rm : Room} {Ts : List Cond} {own C : String} {b : Addr} {As : List Value} {w0 wc wr : va_W}
theorem mIv {S : Type} {post : S → Prop} {w1 : S → va_W} (Fx : CallFix p m c cc nL s args Ts own) (hM : ∀ sz, Met l y ws rm (mP D tys (.ref b :: As) wc sz) (va_Qv post (mB D (va_A wc sz) w1) (va_A wc sz)) mc ms (va_A wc sz)) (cw : CallB R s args own index y bytes maxL none ws rm mc ms n ∧ y.name = "<init>" ∧ (Cond.instanceMethod y).before args s = true) (hK : va_K D vwCl tys s) (hP : va_P D vwCl w0 H) (hD : va_D A w0) (hS : va_S A s.heap H locs) (hA : ∀ q, s.heap.size ≤ q → A q) (isC isR : List Nat) (hC : isC.map (fun i => w0[i]?) = wc.map some) (hR : isR.map (fun i => w0[i]?) = wr.map some) (hn : va_nd isC = true) (hn2 : va_nd isR = true) (hdis : ∀ i ∈ isR, i ∉ isC) (hnA : As.length = n) (hsz : ls.size = nL) (hst : st0 = As.reverse ++ .ref b :: rest) (hW : (rest.map fun v => v.category).sum ≤ 8) (hf : cells + mc ≤ R.cells ∧ slots + ms ≤ R.slots) (hdg : decode cc pc = .ok (.invokespecial index, 3))
    (kk : ∀ (u : S) (H1 : Heap) (locs1 : List Loc), post u → va_P D vwCl (wr ++ w1 u) H1 → va_D A (wr ++ w1 u) → va_S A s.heap H1 locs1 → W p l e R s m args below meth c H1 locs1 (cells + mc) (slots + ms) Q (F0 m (pc + 3) ls rest)) : W p l e R s m args below meth c H locs cells slots Q (F0 m pc ls st0) := by
  have hPc := hP.sub (ws' := wc) isC (m_fm hC)
  have hDc := hD.sub (ws' := wc) isC hn hC
  have hFc := va_free (wc := wc) hD hS hA isC hC
  refine va_callv (va_runI (g := F0 m pc ls st0) Fx (hM H.size) cw ⟨mP_blind, fun U hU hW => mP_here hK hPc hDc U hU hW⟩ rfl hnA hsz hst (lv_room (m := m) (pc := pc) (ls := ls) (rest := st0) hW) hdg hf) hS (fun q _ h => hFc q h) hFc (fun u t H1 locs1 ht hvm hw hB hz1 hk1 hS1 => ?_)
  obtain ⟨hP1, hD1⟩ := hB
  rw [ht] at hP1
  obtain ⟨hP2, hD2⟩ := va_join (wr := wr) (w1 := w1 u) hP hD isC isR hC hR hn2 hdis hk1 hFc hP1 hD1
  exact kk u H1 locs1 hw hP2 hD2 hS1
end MN

def wp_X1_init (x1 : Int32) (post : Int32 → (Nat → Int32) → Prop) : Prop := wp_X1_restart x1 (0 : Int32) (fun _ => (0 : Int32)) (fun (tk_46 : Int32) (fB_46 : (Nat → Int32)) => post tk_46 fB_46)
abbrev rm_X1_init : Room := { frames := 2, cells := 5, slots := 140, locals := 49 }
theorem hv_X1_init : yX1_init.cls ≠ "java/lang/invoke/MethodHandle" ∧ yX1_init.cls ≠ "java/lang/invoke/VarHandle" ∧ (parseMethodDescriptor yX1_init.desc).map (fun d => d.parameters.length) = some 1 := by decide +kernel
set_option maxHeartbeats 400000 in
set_option maxRecDepth 100000 in
theorem c_X1_init {l : Launch} {dC : Nat → ClassId} {dI : Nat → Nat → Nat} {cI cJ cZ : ClassId} {aT : Nat} {x1 : Int32} {post : Int32 → (Nat → Int32) → Prop} (h : wp_X1_init x1 post) : ∀ sz, Met l yX1_init wsX1_init rm_X1_init (mP (dC, dI) (mTy cI cJ cZ) [.ref aT, .int x1] [(aT, .inr (1, [.int 0, .null, .null, .null, .null, .null]))] sz) (va_Qv (fun (u : (Nat × Nat × Nat × Nat × Nat) × (Int32 × (Nat → Int32))) => post (u.2.1) (u.2.2)) (mB (dC, dI) (va_A [(aT, .inr (1, [.int 0, .null, .null, .null, .null, .null]))] sz) (fun u => [oT aT (u.1.1) (u.1.2.1) (u.1.2.2.1) (u.1.2.2.2.1) (u.1.2.2.2.2) (u.2.1), aI (u.1.1) cI 6 (u.2.2), aI (u.1.2.1) cI 61 (fun _ => (0 : Int32)), aI (u.1.2.2.1) cI 61 (fun _ => (0 : Int32)), aJ (u.1.2.2.2.1) cJ 6 (fun _ => (0 : Int64)), aJ (u.1.2.2.2.2) cJ 6 (fun _ => (0 : Int64))])) (va_A [(aT, .inr (1, [.int 0, .null, .null, .null, .null, .null]))] sz)) 5 140 (va_A [(aT, .inr (1, [.int 0, .null, .null, .null, .null, .null]))] sz) := by
  intro sz
  refine Met.ofW (cc := cX1_init) (maxL := 2) (ret := none) (by decide) rfl ?_
  intro p e s m args below meth c s₁ B hml hv
  obtain ⟨rfl, hsz, hP, hK, hD0⟩ := hv
  have hx := B.exec
  have hb := B.bytes
  have hr := B.returns
  have hts := atoms_spec (ws := wsX1_init) B.pre
  have hown : s.vm.findClass RX1 = some m.cls := findClass_of_methodNamed B.named
  have hlocks := B.notSynchronized
  have hin : meth.name = "<init>" := (name_of_methodNamed B.named B.method).1
  subst hsz
  have hD := hD0.self (sz := s.heap.size)
  generalize hAe : va_A [(aT, .inr (1, [.int 0, .null, .null, .null, .null, .null]))] s.heap.size = A at hD ⊢
  have hA : ∀ q : Nat, s.heap.size ≤ q → A q := fun q h => by rw [← hAe]; exact Or.inr h
  have hS : va_S A s.heap s.heap [] := va_S.rf
  have in_X1 : ∀ w ∈ wsX10, w ∈ wsX1_init := fun w hw => List.mem_cons_of_mem _ (List.mem_append_right _ hw)
  have hl := lv_entry ([.ref aT, .int x1]) (n := 2) (Nat.le_of_ble_eq_true rfl)
  rw [lg_entry_eq]
  generalize (lg_sl ([.ref aT, .int x1]) ++ List.replicate (2 - (lg_sl ([.ref aT, .int x1])).length) Slot.unset).toArray = ls at hl ⊢
  have hl : lv_has ls 2 [(0, .ref aT), (1, .int x1)] := hl
  unfold wp_X1_init at h
  refine lv_aload_n hx hb dX1_init_0 rfl (lv_at hl 0 rfl) ?_
  refine W.objInit hx hb hown (hts (.methodLink RX1 3 objectInit) (List.mem_of_getElem? (i := 1) rfl)) (hts (.instanceMethod objectInit) (List.mem_of_getElem? (i := 2) rfl)) (hts (.code objectInit ⟨#[0xb1]⟩ 1 none) (List.mem_of_getElem? (i := 3) rfl)) rfl (by rw [hml]; exact hl.1) rfl dX1_init_1 (Nat.le_of_ble_eq_true rfl) (Nat.le_of_ble_eq_true rfl) ?_
  refine W.eq (g2 := F0 m 4 ls []) rfl ?_
  refine lv_aload_n hx hb dX1_init_4 rfl (lv_at hl 0 rfl) ?_
  refine lv_bipush (v := 6) hx hb dX1_init_5 (by decide) ?_
  refine m_newa (atype := .int) (ty := .int) (N' := 6) (n := 6) (a0 := (6, (.inl (fun _ => (0 : Int32))))) hx hb (hts (.arrayClass .int) (List.mem_of_getElem? (i := 4) rfl)) rfl m_raI hK hP hD hS hA 0 rfl (fun _ => rfl) (by decide) (by decide) (show 6 * 4 ≤ 536870912 by omega) (Nat.le_of_ble_eq_true rfl) (Nat.le_of_ble_eq_true rfl) dX1_init_7 (fun aB H hP hD hS => ?_)
  have hP : va_P (dC, dI) vwCl [(aT, .inr (1, [.int 0, .null, .null, .null, .null, .null])), aI aB cI 6 (fun _ => (0 : Int32))] H := hP
  have hD : va_D A [(aT, .inr (1, [.int 0, .null, .null, .null, .null, .null])), aI aB cI 6 (fun _ => (0 : Int32))] := hD
  refine W.widen (k := 1) (n := 6) (Nat.le_of_ble_eq_true rfl) (Nat.le_of_ble_eq_true rfl) ?_
  refine va_putF (D := (dC, dI)) (ci := 1) (v := .ref aB) (ty := .array .int) (C := RX1) (T := TX1) (N := 6) hx hb hts in_X1 tyX1 tyX1_ok nmX1 hown hK hP hD hS 0 rfl rfl 1 (by decide) (hts (.fieldLink RX1 9 "RingTasks$Task" "behind" "[I") (List.mem_of_getElem? (i := 5) rfl)) (fun _ h9 => h9) rfl hin rfl (by decide +kernel) rfl rfl (Nat.le_of_ble_eq_true rfl) dX1_init_9 (fun H locs hP hD hS => ?_)
  have hP : va_P (dC, dI) vwCl [(aT, .inr (1, [.int 0, .ref aB, .null, .null, .null, .null])), aI aB cI 6 (fun _ => (0 : Int32))] H := hP
  have hD : va_D A [(aT, .inr (1, [.int 0, .ref aB, .null, .null, .null, .null])), aI aB cI 6 (fun _ => (0 : Int32))] := hD
  refine lv_aload_n hx hb dX1_init_12 rfl (lv_at hl 0 rfl) ?_
  refine lv_bipush (v := 61) hx hb dX1_init_13 (by decide) ?_
  refine m_newa (atype := .int) (ty := .int) (N' := 61) (n := 61) (a0 := (61, (.inl (fun _ => (0 : Int32))))) hx hb (hts (.arrayClass .int) (List.mem_of_getElem? (i := 4) rfl)) rfl m_raI hK hP hD hS hA 0 rfl (fun _ => rfl) (by decide) (by decide) (show 61 * 4 ≤ 536870912 by omega) (Nat.le_of_ble_eq_true rfl) (Nat.le_of_ble_eq_true rfl) dX1_init_15 (fun aWK H hP hD hS => ?_)
  have hP : va_P (dC, dI) vwCl [(aT, .inr (1, [.int 0, .ref aB, .null, .null, .null, .null])), aI aB cI 6 (fun _ => (0 : Int32)), aI aWK cI 61 (fun _ => (0 : Int32))] H := hP
  have hD : va_D A [(aT, .inr (1, [.int 0, .ref aB, .null, .null, .null, .null])), aI aB cI 6 (fun _ => (0 : Int32)), aI aWK cI 61 (fun _ => (0 : Int32))] := hD
  refine W.widen (k := 2) (n := 67) (Nat.le_of_ble_eq_true rfl) (Nat.le_of_ble_eq_true rfl) ?_
  refine va_putF (D := (dC, dI)) (ci := 1) (v := .ref aWK) (ty := .array .int) (C := RX1) (T := TX1) (N := 6) hx hb hts in_X1 tyX1 tyX1_ok nmX1 hown hK hP hD hS 0 rfl rfl 2 (by decide) (hts (.fieldLink RX1 15 "RingTasks$Task" "walk" "[I") (List.mem_of_getElem? (i := 6) rfl)) (fun _ h9 => h9) rfl hin rfl (by decide +kernel) rfl rfl (Nat.le_of_ble_eq_true rfl) dX1_init_17 (fun H locs hP hD hS => ?_)
  have hP : va_P (dC, dI) vwCl [(aT, .inr (1, [.int 0, .ref aB, .ref aWK, .null, .null, .null])), aI aB cI 6 (fun _ => (0 : Int32)), aI aWK cI 61 (fun _ => (0 : Int32))] H := hP
  have hD : va_D A [(aT, .inr (1, [.int 0, .ref aB, .ref aWK, .null, .null, .null])), aI aB cI 6 (fun _ => (0 : Int32)), aI aWK cI 61 (fun _ => (0 : Int32))] := hD
  refine lv_aload_n hx hb dX1_init_20 rfl (lv_at hl 0 rfl) ?_
  refine lv_bipush (v := 61) hx hb dX1_init_21 (by decide) ?_
  refine m_newa (atype := .int) (ty := .int) (N' := 61) (n := 61) (a0 := (61, (.inl (fun _ => (0 : Int32))))) hx hb (hts (.arrayClass .int) (List.mem_of_getElem? (i := 4) rfl)) rfl m_raI hK hP hD hS hA 0 rfl (fun _ => rfl) (by decide) (by decide) (show 61 * 4 ≤ 536870912 by omega) (Nat.le_of_ble_eq_true rfl) (Nat.le_of_ble_eq_true rfl) dX1_init_23 (fun aRE H hP hD hS => ?_)
  have hP : va_P (dC, dI) vwCl [(aT, .inr (1, [.int 0, .ref aB, .ref aWK, .null, .null, .null])), aI aB cI 6 (fun _ => (0 : Int32)), aI aWK cI 61 (fun _ => (0 : Int32)), aI aRE cI 61 (fun _ => (0 : Int32))] H := hP
  have hD : va_D A [(aT, .inr (1, [.int 0, .ref aB, .ref aWK, .null, .null, .null])), aI aB cI 6 (fun _ => (0 : Int32)), aI aWK cI 61 (fun _ => (0 : Int32)), aI aRE cI 61 (fun _ => (0 : Int32))] := hD
  refine W.widen (k := 3) (n := 128) (Nat.le_of_ble_eq_true rfl) (Nat.le_of_ble_eq_true rfl) ?_
  refine va_putF (D := (dC, dI)) (ci := 1) (v := .ref aRE) (ty := .array .int) (C := RX1) (T := TX1) (N := 6) hx hb hts in_X1 tyX1 tyX1_ok nmX1 hown hK hP hD hS 0 rfl rfl 3 (by decide) (hts (.fieldLink RX1 18 "RingTasks$Task" "reaching" "[I") (List.mem_of_getElem? (i := 7) rfl)) (fun _ h9 => h9) rfl hin rfl (by decide +kernel) rfl rfl (Nat.le_of_ble_eq_true rfl) dX1_init_25 (fun H locs hP hD hS => ?_)
  have hP : va_P (dC, dI) vwCl [(aT, .inr (1, [.int 0, .ref aB, .ref aWK, .ref aRE, .null, .null])), aI aB cI 6 (fun _ => (0 : Int32)), aI aWK cI 61 (fun _ => (0 : Int32)), aI aRE cI 61 (fun _ => (0 : Int32))] H := hP
  have hD : va_D A [(aT, .inr (1, [.int 0, .ref aB, .ref aWK, .ref aRE, .null, .null])), aI aB cI 6 (fun _ => (0 : Int32)), aI aWK cI 61 (fun _ => (0 : Int32)), aI aRE cI 61 (fun _ => (0 : Int32))] := hD
  refine lv_aload_n hx hb dX1_init_28 rfl (lv_at hl 0 rfl) ?_
  refine lv_bipush (v := 6) hx hb dX1_init_29 (by decide) ?_
  refine m_newa (atype := .long) (ty := .long) (N' := 6) (n := 6) (a0 := (6, (.inr (.inl (fun _ => (0 : Int64)))))) hx hb (hts (.arrayClass .long) (List.mem_of_getElem? (i := 8) rfl)) rfl m_raJ hK hP hD hS hA 1 rfl (fun _ => rfl) (by decide) (by decide) (show 6 * 8 ≤ 536870912 by omega) (Nat.le_of_ble_eq_true rfl) (Nat.le_of_ble_eq_true rfl) dX1_init_31 (fun aY H hP hD hS => ?_)
  have hP : va_P (dC, dI) vwCl [(aT, .inr (1, [.int 0, .ref aB, .ref aWK, .ref aRE, .null, .null])), aI aB cI 6 (fun _ => (0 : Int32)), aI aWK cI 61 (fun _ => (0 : Int32)), aI aRE cI 61 (fun _ => (0 : Int32)), aJ aY cJ 6 (fun _ => (0 : Int64))] H := hP
  have hD : va_D A [(aT, .inr (1, [.int 0, .ref aB, .ref aWK, .ref aRE, .null, .null])), aI aB cI 6 (fun _ => (0 : Int32)), aI aWK cI 61 (fun _ => (0 : Int32)), aI aRE cI 61 (fun _ => (0 : Int32)), aJ aY cJ 6 (fun _ => (0 : Int64))] := hD
  refine W.widen (k := 4) (n := 134) (Nat.le_of_ble_eq_true rfl) (Nat.le_of_ble_eq_true rfl) ?_
  refine va_putF (D := (dC, dI)) (ci := 1) (v := .ref aY) (ty := .array .long) (C := RX1) (T := TX1) (N := 6) hx hb hts in_X1 tyX1 tyX1_ok nmX1 hown hK hP hD hS 0 rfl rfl 4 (by decide) (hts (.fieldLink RX1 21 "RingTasks$Task" "ways" "[J") (List.mem_of_getElem? (i := 9) rfl)) (fun _ h9 => h9) rfl hin rfl (by decide +kernel) rfl rfl (Nat.le_of_ble_eq_true rfl) dX1_init_33 (fun H locs hP hD hS => ?_)
  have hP : va_P (dC, dI) vwCl [(aT, .inr (1, [.int 0, .ref aB, .ref aWK, .ref aRE, .ref aY, .null])), aI aB cI 6 (fun _ => (0 : Int32)), aI aWK cI 61 (fun _ => (0 : Int32)), aI aRE cI 61 (fun _ => (0 : Int32)), aJ aY cJ 6 (fun _ => (0 : Int64))] H := hP
  have hD : va_D A [(aT, .inr (1, [.int 0, .ref aB, .ref aWK, .ref aRE, .ref aY, .null])), aI aB cI 6 (fun _ => (0 : Int32)), aI aWK cI 61 (fun _ => (0 : Int32)), aI aRE cI 61 (fun _ => (0 : Int32)), aJ aY cJ 6 (fun _ => (0 : Int64))] := hD
  refine lv_aload_n hx hb dX1_init_36 rfl (lv_at hl 0 rfl) ?_
  refine lv_bipush (v := 6) hx hb dX1_init_37 (by decide) ?_
  refine m_newa (atype := .long) (ty := .long) (N' := 6) (n := 6) (a0 := (6, (.inr (.inl (fun _ => (0 : Int64)))))) hx hb (hts (.arrayClass .long) (List.mem_of_getElem? (i := 8) rfl)) rfl m_raJ hK hP hD hS hA 1 rfl (fun _ => rfl) (by decide) (by decide) (show 6 * 8 ≤ 536870912 by omega) (Nat.le_of_ble_eq_true rfl) (Nat.le_of_ble_eq_true rfl) dX1_init_39 (fun aZ H hP hD hS => ?_)
  have hP : va_P (dC, dI) vwCl [(aT, .inr (1, [.int 0, .ref aB, .ref aWK, .ref aRE, .ref aY, .null])), aI aB cI 6 (fun _ => (0 : Int32)), aI aWK cI 61 (fun _ => (0 : Int32)), aI aRE cI 61 (fun _ => (0 : Int32)), aJ aY cJ 6 (fun _ => (0 : Int64)), aJ aZ cJ 6 (fun _ => (0 : Int64))] H := hP
  have hD : va_D A [(aT, .inr (1, [.int 0, .ref aB, .ref aWK, .ref aRE, .ref aY, .null])), aI aB cI 6 (fun _ => (0 : Int32)), aI aWK cI 61 (fun _ => (0 : Int32)), aI aRE cI 61 (fun _ => (0 : Int32)), aJ aY cJ 6 (fun _ => (0 : Int64)), aJ aZ cJ 6 (fun _ => (0 : Int64))] := hD
  refine W.widen (k := 5) (n := 140) (Nat.le_of_ble_eq_true rfl) (Nat.le_of_ble_eq_true rfl) ?_
  refine va_putF (D := (dC, dI)) (ci := 1) (v := .ref aZ) (ty := .array .long) (C := RX1) (T := TX1) (N := 6) hx hb hts in_X1 tyX1 tyX1_ok nmX1 hown hK hP hD hS 0 rfl rfl 5 (by decide) (hts (.fieldLink RX1 25 "RingTasks$Task" "waysOn" "[J") (List.mem_of_getElem? (i := 10) rfl)) (fun _ h9 => h9) rfl hin rfl (by decide +kernel) rfl rfl (Nat.le_of_ble_eq_true rfl) dX1_init_41 (fun H locs hP hD hS => ?_)
  have hP : va_P (dC, dI) vwCl [(aT, .inr (1, [.int 0, .ref aB, .ref aWK, .ref aRE, .ref aY, .ref aZ])), aI aB cI 6 (fun _ => (0 : Int32)), aI aWK cI 61 (fun _ => (0 : Int32)), aI aRE cI 61 (fun _ => (0 : Int32)), aJ aY cJ 6 (fun _ => (0 : Int64)), aJ aZ cJ 6 (fun _ => (0 : Int64))] H := hP
  have hD : va_D A [(aT, .inr (1, [.int 0, .ref aB, .ref aWK, .ref aRE, .ref aY, .ref aZ])), aI aB cI 6 (fun _ => (0 : Int32)), aI aWK cI 61 (fun _ => (0 : Int32)), aI aRE cI 61 (fun _ => (0 : Int32)), aJ aY cJ 6 (fun _ => (0 : Int64)), aJ aZ cJ 6 (fun _ => (0 : Int64))] := hD
  refine lv_aload_n hx hb dX1_init_44 rfl (lv_at hl 0 rfl) ?_
  refine lv_iload_n hx hb dX1_init_45 rfl (lv_at hl 1 rfl) ?_
  refine mVv (wr := [aI aWK cI 61 (fun _ => (0 : Int32)), aI aRE cI 61 (fun _ => (0 : Int32)), aJ aY cJ 6 (fun _ => (0 : Int64)), aJ aZ cJ 6 (fun _ => (0 : Int64))]) (As := [.int x1]) (rest := []) ⟨hx, hb, hml, hown, hts⟩ (c_X1_restart (l := l) (dC := dC) (dI := dI) (cI := cI) (cJ := cJ) (cZ := cZ) (aT := aT) (aB := aB) (aWK := aWK) (aRE := aRE) (aY := aY) (aZ := aZ) h) (cwV 1 hts gX1_init_X1_restart rfl rfl rfl hv_X1_restart ⟨Nat.le_of_ble_eq_true rfl, Nat.le_of_ble_eq_true rfl⟩) hK hP hD hS hA [0, 1] [2, 3, 4, 5] rfl rfl rfl rfl (by decide) 1 rfl rfl rfl rfl hl.1 rfl (Nat.le_of_ble_eq_true rfl) ⟨Nat.le_of_ble_eq_true rfl, Nat.le_of_ble_eq_true rfl⟩ dX1_init_46 (fun u46 H locs h hP hD hS => ?_)
  obtain ⟨tk_46, fB_46⟩ := u46
  have hP : va_P (dC, dI) vwCl [(aT, .inr (1, [.int tk_46, .ref aB, .ref aWK, .ref aRE, .ref aY, .ref aZ])), aI aB cI 6 fB_46, aI aWK cI 61 (fun _ => (0 : Int32)), aI aRE cI 61 (fun _ => (0 : Int32)), aJ aY cJ 6 (fun _ => (0 : Int64)), aJ aZ cJ 6 (fun _ => (0 : Int64))] H := hP.sub [4, 5, 0, 1, 2, 3] rfl
  have hD : va_D A [(aT, .inr (1, [.int tk_46, .ref aB, .ref aWK, .ref aRE, .ref aY, .ref aZ])), aI aB cI 6 fB_46, aI aWK cI 61 (fun _ => (0 : Int32)), aI aRE cI 61 (fun _ => (0 : Int32)), aJ aY cJ 6 (fun _ => (0 : Int64)), aJ aZ cJ 6 (fun _ => (0 : Int64))] := hD.sub [4, 5, 0, 1, 2, 3] rfl rfl
  exact W.vret hx hb hr (fun t ht hW => ⟨⟨((aB, aWK, aRE, aY, aZ), (tk_46, fB_46)), rfl, h, by rw [ht]; exact hP, hD⟩, hS.F ht⟩) hS.2.2 dX1_init_49
def wp_X0_init (x1 : Int32) (post : Int32 → (Nat → Int32) → (Nat → Int32) → Prop) : Prop := wp_X0_restart x1 (0 : Int32) (fun _ => (0 : Int32)) (fun _ => (0 : Int32)) (fun (pk_22 : Int32) (fL_22 : (Nat → Int32)) (fN_22 : (Nat → Int32)) => post pk_22 fL_22 fN_22)
abbrev rm_X0_init : Room := { frames := 3, cells := 2, slots := 120, locals := 65 }
theorem hv_X0_init : yX0_init.cls ≠ "java/lang/invoke/MethodHandle" ∧ yX0_init.cls ≠ "java/lang/invoke/VarHandle" ∧ (parseMethodDescriptor yX0_init.desc).map (fun d => d.parameters.length) = some 1 := by decide +kernel
set_option maxHeartbeats 400000 in
set_option maxRecDepth 100000 in
theorem c_X0_init {l : Launch} {dC : Nat → ClassId} {dI : Nat → Nat → Nat} {cI cJ cZ : ClassId} {aP : Nat} {x1 : Int32} {post : Int32 → (Nat → Int32) → (Nat → Int32) → Prop} (h : wp_X0_init x1 post) : ∀ sz, Met l yX0_init wsX0_init rm_X0_init (mP (dC, dI) (mTy cI cJ cZ) [.ref aP, .int x1] [(aP, .inr (0, [.int 0, .null, .null]))] sz) (va_Qv (fun (u : (Nat × Nat) × (Int32 × (Nat → Int32) × (Nat → Int32))) => post (u.2.1) (u.2.2.1) (u.2.2.2)) (mB (dC, dI) (va_A [(aP, .inr (0, [.int 0, .null, .null]))] sz) (fun u => [oP aP (u.1.1) (u.1.2) (u.2.1), aI (u.1.1) cI 60 (u.2.2.1), aI (u.1.2) cI 60 (u.2.2.2)])) (va_A [(aP, .inr (0, [.int 0, .null, .null]))] sz)) 2 120 (va_A [(aP, .inr (0, [.int 0, .null, .null]))] sz) := by
  intro sz
  refine Met.ofW (cc := cX0_init) (maxL := 2) (ret := none) (by decide) rfl ?_
  intro p e s m args below meth c s₁ B hml hv
  obtain ⟨rfl, hsz, hP, hK, hD0⟩ := hv
  have hx := B.exec
  have hb := B.bytes
  have hr := B.returns
  have hts := atoms_spec (ws := wsX0_init) B.pre
  have hown : s.vm.findClass RX0 = some m.cls := findClass_of_methodNamed B.named
  have hlocks := B.notSynchronized
  have hin : meth.name = "<init>" := (name_of_methodNamed B.named B.method).1
  subst hsz
  have hD := hD0.self (sz := s.heap.size)
  generalize hAe : va_A [(aP, .inr (0, [.int 0, .null, .null]))] s.heap.size = A at hD ⊢
  have hA : ∀ q : Nat, s.heap.size ≤ q → A q := fun q h => by rw [← hAe]; exact Or.inr h
  have hS : va_S A s.heap s.heap [] := va_S.rf
  have in_X0 : ∀ w ∈ wsX00, w ∈ wsX0_init := fun w hw => List.mem_cons_of_mem _ (List.mem_append_right _ hw)
  have hl := lv_entry ([.ref aP, .int x1]) (n := 2) (Nat.le_of_ble_eq_true rfl)
  rw [lg_entry_eq]
  generalize (lg_sl ([.ref aP, .int x1]) ++ List.replicate (2 - (lg_sl ([.ref aP, .int x1])).length) Slot.unset).toArray = ls at hl ⊢
  have hl : lv_has ls 2 [(0, .ref aP), (1, .int x1)] := hl
  unfold wp_X0_init at h
  refine lv_aload_n hx hb dX0_init_0 rfl (lv_at hl 0 rfl) ?_
  refine W.objInit hx hb hown (hts (.methodLink RX0 3 objectInit) (List.mem_of_getElem? (i := 1) rfl)) (hts (.instanceMethod objectInit) (List.mem_of_getElem? (i := 2) rfl)) (hts (.code objectInit ⟨#[0xb1]⟩ 1 none) (List.mem_of_getElem? (i := 3) rfl)) rfl (by rw [hml]; exact hl.1) rfl dX0_init_1 (Nat.le_of_ble_eq_true rfl) (Nat.le_of_ble_eq_true rfl) ?_
  refine W.eq (g2 := F0 m 4 ls []) rfl ?_
  refine lv_aload_n hx hb dX0_init_4 rfl (lv_at hl 0 rfl) ?_
  refine lv_bipush (v := 60) hx hb dX0_init_5 (by decide) ?_
  refine m_newa (atype := .int) (ty := .int) (N' := 60) (n := 60) (a0 := (60, (.inl (fun _ => (0 : Int32))))) hx hb (hts (.arrayClass .int) (List.mem_of_getElem? (i := 4) rfl)) rfl m_raI hK hP hD hS hA 0 rfl (fun _ => rfl) (by decide) (by decide) (show 60 * 4 ≤ 536870912 by omega) (Nat.le_of_ble_eq_true rfl) (Nat.le_of_ble_eq_true rfl) dX0_init_7 (fun aL H hP hD hS => ?_)
  have hP : va_P (dC, dI) vwCl [(aP, .inr (0, [.int 0, .null, .null])), aI aL cI 60 (fun _ => (0 : Int32))] H := hP
  have hD : va_D A [(aP, .inr (0, [.int 0, .null, .null])), aI aL cI 60 (fun _ => (0 : Int32))] := hD
  refine W.widen (k := 1) (n := 60) (Nat.le_of_ble_eq_true rfl) (Nat.le_of_ble_eq_true rfl) ?_
  refine va_putF (D := (dC, dI)) (ci := 0) (v := .ref aL) (ty := .array .int) (C := RX0) (T := TX0) (N := 3) hx hb hts in_X0 tyX0 tyX0_ok nmX0 hown hK hP hD hS 0 rfl rfl 1 (by decide) (hts (.fieldLink RX0 9 "RingTasks$Posts" "label" "[I") (List.mem_of_getElem? (i := 5) rfl)) (fun _ h9 => h9) rfl hin rfl (by decide +kernel) rfl rfl (Nat.le_of_ble_eq_true rfl) dX0_init_9 (fun H locs hP hD hS => ?_)
  have hP : va_P (dC, dI) vwCl [(aP, .inr (0, [.int 0, .ref aL, .null])), aI aL cI 60 (fun _ => (0 : Int32))] H := hP
  have hD : va_D A [(aP, .inr (0, [.int 0, .ref aL, .null])), aI aL cI 60 (fun _ => (0 : Int32))] := hD
  refine lv_aload_n hx hb dX0_init_12 rfl (lv_at hl 0 rfl) ?_
  refine lv_bipush (v := 60) hx hb dX0_init_13 (by decide) ?_
  refine m_newa (atype := .int) (ty := .int) (N' := 60) (n := 60) (a0 := (60, (.inl (fun _ => (0 : Int32))))) hx hb (hts (.arrayClass .int) (List.mem_of_getElem? (i := 4) rfl)) rfl m_raI hK hP hD hS hA 0 rfl (fun _ => rfl) (by decide) (by decide) (show 60 * 4 ≤ 536870912 by omega) (Nat.le_of_ble_eq_true rfl) (Nat.le_of_ble_eq_true rfl) dX0_init_15 (fun aN H hP hD hS => ?_)
  have hP : va_P (dC, dI) vwCl [(aP, .inr (0, [.int 0, .ref aL, .null])), aI aL cI 60 (fun _ => (0 : Int32)), aI aN cI 60 (fun _ => (0 : Int32))] H := hP
  have hD : va_D A [(aP, .inr (0, [.int 0, .ref aL, .null])), aI aL cI 60 (fun _ => (0 : Int32)), aI aN cI 60 (fun _ => (0 : Int32))] := hD
  refine W.widen (k := 2) (n := 120) (Nat.le_of_ble_eq_true rfl) (Nat.le_of_ble_eq_true rfl) ?_
  refine va_putF (D := (dC, dI)) (ci := 0) (v := .ref aN) (ty := .array .int) (C := RX0) (T := TX0) (N := 3) hx hb hts in_X0 tyX0 tyX0_ok nmX0 hown hK hP hD hS 0 rfl rfl 2 (by decide) (hts (.fieldLink RX0 15 "RingTasks$Posts" "number" "[I") (List.mem_of_getElem? (i := 6) rfl)) (fun _ h9 => h9) rfl hin rfl (by decide +kernel) rfl rfl (Nat.le_of_ble_eq_true rfl) dX0_init_17 (fun H locs hP hD hS => ?_)
  have hP : va_P (dC, dI) vwCl [(aP, .inr (0, [.int 0, .ref aL, .ref aN])), aI aL cI 60 (fun _ => (0 : Int32)), aI aN cI 60 (fun _ => (0 : Int32))] H := hP
  have hD : va_D A [(aP, .inr (0, [.int 0, .ref aL, .ref aN])), aI aL cI 60 (fun _ => (0 : Int32)), aI aN cI 60 (fun _ => (0 : Int32))] := hD
  refine lv_aload_n hx hb dX0_init_20 rfl (lv_at hl 0 rfl) ?_
  refine lv_iload_n hx hb dX0_init_21 rfl (lv_at hl 1 rfl) ?_
  refine mVv (wr := []) (As := [.int x1]) (rest := []) ⟨hx, hb, hml, hown, hts⟩ (c_X0_restart (l := l) (dC := dC) (dI := dI) (cI := cI) (cJ := cJ) (cZ := cZ) (aP := aP) (aL := aL) (aN := aN) h) (cwV 1 hts gX0_init_X0_restart rfl rfl rfl hv_X0_restart ⟨Nat.le_of_ble_eq_true rfl, Nat.le_of_ble_eq_true rfl⟩) hK hP hD hS hA [0, 1, 2] [] rfl rfl rfl rfl (by decide) 0 rfl rfl rfl rfl hl.1 rfl (Nat.le_of_ble_eq_true rfl) ⟨Nat.le_of_ble_eq_true rfl, Nat.le_of_ble_eq_true rfl⟩ dX0_init_22 (fun u22 H locs h hP hD hS => ?_)
  obtain ⟨pk_22, fL_22, fN_22⟩ := u22
  have hP : va_P (dC, dI) vwCl [(aP, .inr (0, [.int pk_22, .ref aL, .ref aN])), aI aL cI 60 fL_22, aI aN cI 60 fN_22] H := hP.sub [0, 1, 2] rfl
  have hD : va_D A [(aP, .inr (0, [.int pk_22, .ref aL, .ref aN])), aI aL cI 60 fL_22, aI aN cI 60 fN_22] := hD.sub [0, 1, 2] rfl rfl
  exact W.vret hx hb hr (fun t ht hW => ⟨⟨((aL, aN), (pk_22, fL_22, fN_22)), rfl, h, by rw [ht]; exact hP, hD⟩, hS.F ht⟩) hS.2.2 dX0_init_25
def wp_X3_init  (post : Int32 → Int32 → (Nat → Int32) → (Nat → Int32) → (Nat → Int32) → Prop) : Prop := wp_X3_begin (3 : Int32) (0 : Int32) (0 : Int32) (fun _ => (0 : Int32)) (fun _ => (0 : Int32)) (fun (mk_62 : Int32) (fMM_62 : (Nat → Int32)) (fMB_62 : (Nat → Int32)) => wp_X3_lay (3 : Int32) mk_62 (0 : Int32) fMB_62 (fun _ => (0 : Int32)) (fun (mp_67 : Int32) (fMB_67 : (Nat → Int32)) (fMN_67 : (Nat → Int32)) => post mk_62 mp_67 fMM_62 fMB_67 fMN_67))
abbrev rm_X3_init : Room := { frames := 1, cells := 7, slots := 289, locals := 22 }
theorem hv_X3_init : yX3_init.cls ≠ "java/lang/invoke/MethodHandle" ∧ yX3_init.cls ≠ "java/lang/invoke/VarHandle" ∧ (parseMethodDescriptor yX3_init.desc).map (fun d => d.parameters.length) = some 0 := by decide +kernel
set_option maxHeartbeats 400000 in
set_option maxRecDepth 100000 in
theorem c_X3_init {l : Launch} {dC : Nat → ClassId} {dI : Nat → Nat → Nat} {cI cJ cZ : ClassId} {aM : Nat} {post : Int32 → Int32 → (Nat → Int32) → (Nat → Int32) → (Nat → Int32) → Prop} (h : wp_X3_init post) : ∀ sz, Met l yX3_init wsX3_init rm_X3_init (mP (dC, dI) (mTy cI cJ cZ) [.ref aM] [(aM, .inr (3, [.int 0, .null, .null, .null, .null, .null, .int 0, .null, .null]))] sz) (va_Qv (fun (u : (Nat × Nat × Nat × Nat × Nat × Nat × Nat) × (Int32 × Int32 × (Nat → Int32) × (Nat → Int32) × (Nat → Int32))) => post (u.2.1) (u.2.2.1) (u.2.2.2.1) (u.2.2.2.2.1) (u.2.2.2.2.2)) (mB (dC, dI) (va_A [(aM, .inr (3, [.int 0, .null, .null, .null, .null, .null, .int 0, .null, .null]))] sz) (fun u => [oM aM (u.1.1) (u.1.2.1) (u.1.2.2.1) (u.1.2.2.2.1) (u.1.2.2.2.2.1) (u.1.2.2.2.2.2.1) (u.1.2.2.2.2.2.2) (u.2.1) (u.2.2.1), aI (u.1.1) cZ 36 (u.2.2.2.1), aJ (u.1.2.1) cJ 61 (fun _ => (0 : Int64)), aJ (u.1.2.2.1) cJ 6 (fun _ => (0 : Int64)), aJ (u.1.2.2.2.1) cJ 6 (fun _ => (0 : Int64)), aI (u.1.2.2.2.2.1) cI 60 (fun _ => (0 : Int32)), aI (u.1.2.2.2.2.2.1) cI 60 (u.2.2.2.2.1), aI (u.1.2.2.2.2.2.2) cI 60 (u.2.2.2.2.2)])) (va_A [(aM, .inr (3, [.int 0, .null, .null, .null, .null, .null, .int 0, .null, .null]))] sz)) 7 289 (va_A [(aM, .inr (3, [.int 0, .null, .null, .null, .null, .null, .int 0, .null, .null]))] sz) := by
  intro sz
  refine Met.ofW (cc := cX3_init) (maxL := 1) (ret := none) (by decide) rfl ?_
  intro p e s m args below meth c s₁ B hml hv
  obtain ⟨rfl, hsz, hP, hK, hD0⟩ := hv
  have hx := B.exec
  have hb := B.bytes
  have hr := B.returns
  have hts := atoms_spec (ws := wsX3_init) B.pre
  have hown : s.vm.findClass RX3 = some m.cls := findClass_of_methodNamed B.named
  have hlocks := B.notSynchronized
  have hin : meth.name = "<init>" := (name_of_methodNamed B.named B.method).1
  subst hsz
  have hD := hD0.self (sz := s.heap.size)
  generalize hAe : va_A [(aM, .inr (3, [.int 0, .null, .null, .null, .null, .null, .int 0, .null, .null]))] s.heap.size = A at hD ⊢
  have hA : ∀ q : Nat, s.heap.size ≤ q → A q := fun q h => by rw [← hAe]; exact Or.inr h
  have hS : va_S A s.heap s.heap [] := va_S.rf
  have in_X3 : ∀ w ∈ wsX30, w ∈ wsX3_init := fun w hw => List.mem_cons_of_mem _ (List.mem_append_right _ hw)
  have hl := lv_entry ([.ref aM]) (n := 1) (Nat.le_of_ble_eq_true rfl)
  rw [lg_entry_eq]
  generalize (lg_sl ([.ref aM]) ++ List.replicate (1 - (lg_sl ([.ref aM])).length) Slot.unset).toArray = ls at hl ⊢
  have hl : lv_has ls 1 [(0, .ref aM)] := hl
  unfold wp_X3_init at h
  refine lv_aload_n hx hb dX3_init_0 rfl (lv_at hl 0 rfl) ?_
  refine W.objInit hx hb hown (hts (.methodLink RX3 1 objectInit) (List.mem_of_getElem? (i := 1) rfl)) (hts (.instanceMethod objectInit) (List.mem_of_getElem? (i := 2) rfl)) (hts (.code objectInit ⟨#[0xb1]⟩ 1 none) (List.mem_of_getElem? (i := 3) rfl)) rfl (by rw [hml]; exact hl.1) rfl dX3_init_1 (Nat.le_of_ble_eq_true rfl) (Nat.le_of_ble_eq_true rfl) ?_
  refine W.eq (g2 := F0 m 4 ls []) rfl ?_
  refine lv_aload_n hx hb dX3_init_4 rfl (lv_at hl 0 rfl) ?_
  refine lv_bipush (v := 36) hx hb dX3_init_5 (by decide) ?_
  refine m_newa (atype := .boolean) (ty := .boolean) (N' := 36) (n := 36) (a0 := (36, (.inl (fun _ => (0 : Int32))))) hx hb (hts (.arrayClass .boolean) (List.mem_of_getElem? (i := 4) rfl)) rfl m_raZ hK hP hD hS hA 2 rfl (fun _ => rfl) (by decide) (by decide) (show 36 * 1 ≤ 536870912 by omega) (Nat.le_of_ble_eq_true rfl) (Nat.le_of_ble_eq_true rfl) dX3_init_7 (fun aMM H hP hD hS => ?_)
  have hP : va_P (dC, dI) vwCl [(aM, .inr (3, [.int 0, .null, .null, .null, .null, .null, .int 0, .null, .null])), aI aMM cZ 36 (fun _ => (0 : Int32))] H := hP
  have hD : va_D A [(aM, .inr (3, [.int 0, .null, .null, .null, .null, .null, .int 0, .null, .null])), aI aMM cZ 36 (fun _ => (0 : Int32))] := hD
  refine W.widen (k := 1) (n := 36) (Nat.le_of_ble_eq_true rfl) (Nat.le_of_ble_eq_true rfl) ?_
  refine va_putF (D := (dC, dI)) (ci := 3) (v := .ref aMM) (ty := .array .boolean) (C := RX3) (T := TX3) (N := 9) hx hb hts in_X3 tyX3 tyX3_ok nmX3 hown hK hP hD hS 0 rfl rfl 1 (by decide) (hts (.fieldLink RX3 7 "RingTasksModel" "may" "[Z") (List.mem_of_getElem? (i := 5) rfl)) (fun _ h9 => h9) rfl hin rfl (by decide +kernel) rfl rfl (Nat.le_of_ble_eq_true rfl) dX3_init_9 (fun H locs hP hD hS => ?_)
  have hP : va_P (dC, dI) vwCl [(aM, .inr (3, [.int 0, .ref aMM, .null, .null, .null, .null, .int 0, .null, .null])), aI aMM cZ 36 (fun _ => (0 : Int32))] H := hP
  have hD : va_D A [(aM, .inr (3, [.int 0, .ref aMM, .null, .null, .null, .null, .int 0, .null, .null])), aI aMM cZ 36 (fun _ => (0 : Int32))] := hD
  refine lv_aload_n hx hb dX3_init_12 rfl (lv_at hl 0 rfl) ?_
  refine lv_bipush (v := 61) hx hb dX3_init_13 (by decide) ?_
  refine m_newa (atype := .long) (ty := .long) (N' := 61) (n := 61) (a0 := (61, (.inr (.inl (fun _ => (0 : Int64)))))) hx hb (hts (.arrayClass .long) (List.mem_of_getElem? (i := 6) rfl)) rfl m_raJ hK hP hD hS hA 1 rfl (fun _ => rfl) (by decide) (by decide) (show 61 * 8 ≤ 536870912 by omega) (Nat.le_of_ble_eq_true rfl) (Nat.le_of_ble_eq_true rfl) dX3_init_15 (fun aML H hP hD hS => ?_)
  have hP : va_P (dC, dI) vwCl [(aM, .inr (3, [.int 0, .ref aMM, .null, .null, .null, .null, .int 0, .null, .null])), aI aMM cZ 36 (fun _ => (0 : Int32)), aJ aML cJ 61 (fun _ => (0 : Int64))] H := hP
  have hD : va_D A [(aM, .inr (3, [.int 0, .ref aMM, .null, .null, .null, .null, .int 0, .null, .null])), aI aMM cZ 36 (fun _ => (0 : Int32)), aJ aML cJ 61 (fun _ => (0 : Int64))] := hD
  refine W.widen (k := 2) (n := 97) (Nat.le_of_ble_eq_true rfl) (Nat.le_of_ble_eq_true rfl) ?_
  refine va_putF (D := (dC, dI)) (ci := 3) (v := .ref aML) (ty := .array .long) (C := RX3) (T := TX3) (N := 9) hx hb hts in_X3 tyX3 tyX3_ok nmX3 hown hK hP hD hS 0 rfl rfl 2 (by decide) (hts (.fieldLink RX3 13 "RingTasksModel" "leads" "[J") (List.mem_of_getElem? (i := 7) rfl)) (fun _ h9 => h9) rfl hin rfl (by decide +kernel) rfl rfl (Nat.le_of_ble_eq_true rfl) dX3_init_17 (fun H locs hP hD hS => ?_)
  have hP : va_P (dC, dI) vwCl [(aM, .inr (3, [.int 0, .ref aMM, .ref aML, .null, .null, .null, .int 0, .null, .null])), aI aMM cZ 36 (fun _ => (0 : Int32)), aJ aML cJ 61 (fun _ => (0 : Int64))] H := hP
  have hD : va_D A [(aM, .inr (3, [.int 0, .ref aMM, .ref aML, .null, .null, .null, .int 0, .null, .null])), aI aMM cZ 36 (fun _ => (0 : Int32)), aJ aML cJ 61 (fun _ => (0 : Int64))] := hD
  refine lv_aload_n hx hb dX3_init_20 rfl (lv_at hl 0 rfl) ?_
  refine lv_bipush (v := 6) hx hb dX3_init_21 (by decide) ?_
  refine m_newa (atype := .long) (ty := .long) (N' := 6) (n := 6) (a0 := (6, (.inr (.inl (fun _ => (0 : Int64)))))) hx hb (hts (.arrayClass .long) (List.mem_of_getElem? (i := 6) rfl)) rfl m_raJ hK hP hD hS hA 1 rfl (fun _ => rfl) (by decide) (by decide) (show 6 * 8 ≤ 536870912 by omega) (Nat.le_of_ble_eq_true rfl) (Nat.le_of_ble_eq_true rfl) dX3_init_23 (fun aMY H hP hD hS => ?_)
  have hP : va_P (dC, dI) vwCl [(aM, .inr (3, [.int 0, .ref aMM, .ref aML, .null, .null, .null, .int 0, .null, .null])), aI aMM cZ 36 (fun _ => (0 : Int32)), aJ aML cJ 61 (fun _ => (0 : Int64)), aJ aMY cJ 6 (fun _ => (0 : Int64))] H := hP
  have hD : va_D A [(aM, .inr (3, [.int 0, .ref aMM, .ref aML, .null, .null, .null, .int 0, .null, .null])), aI aMM cZ 36 (fun _ => (0 : Int32)), aJ aML cJ 61 (fun _ => (0 : Int64)), aJ aMY cJ 6 (fun _ => (0 : Int64))] := hD
  refine W.widen (k := 3) (n := 103) (Nat.le_of_ble_eq_true rfl) (Nat.le_of_ble_eq_true rfl) ?_
  refine va_putF (D := (dC, dI)) (ci := 3) (v := .ref aMY) (ty := .array .long) (C := RX3) (T := TX3) (N := 9) hx hb hts in_X3 tyX3 tyX3_ok nmX3 hown hK hP hD hS 0 rfl rfl 3 (by decide) (hts (.fieldLink RX3 17 "RingTasksModel" "many" "[J") (List.mem_of_getElem? (i := 8) rfl)) (fun _ h9 => h9) rfl hin rfl (by decide +kernel) rfl rfl (Nat.le_of_ble_eq_true rfl) dX3_init_25 (fun H locs hP hD hS => ?_)
  have hP : va_P (dC, dI) vwCl [(aM, .inr (3, [.int 0, .ref aMM, .ref aML, .ref aMY, .null, .null, .int 0, .null, .null])), aI aMM cZ 36 (fun _ => (0 : Int32)), aJ aML cJ 61 (fun _ => (0 : Int64)), aJ aMY cJ 6 (fun _ => (0 : Int64))] H := hP
  have hD : va_D A [(aM, .inr (3, [.int 0, .ref aMM, .ref aML, .ref aMY, .null, .null, .int 0, .null, .null])), aI aMM cZ 36 (fun _ => (0 : Int32)), aJ aML cJ 61 (fun _ => (0 : Int64)), aJ aMY cJ 6 (fun _ => (0 : Int64))] := hD
  refine lv_aload_n hx hb dX3_init_28 rfl (lv_at hl 0 rfl) ?_
  refine lv_bipush (v := 6) hx hb dX3_init_29 (by decide) ?_
  refine m_newa (atype := .long) (ty := .long) (N' := 6) (n := 6) (a0 := (6, (.inr (.inl (fun _ => (0 : Int64)))))) hx hb (hts (.arrayClass .long) (List.mem_of_getElem? (i := 6) rfl)) rfl m_raJ hK hP hD hS hA 1 rfl (fun _ => rfl) (by decide) (by decide) (show 6 * 8 ≤ 536870912 by omega) (Nat.le_of_ble_eq_true rfl) (Nat.le_of_ble_eq_true rfl) dX3_init_31 (fun aMT H hP hD hS => ?_)
  have hP : va_P (dC, dI) vwCl [(aM, .inr (3, [.int 0, .ref aMM, .ref aML, .ref aMY, .null, .null, .int 0, .null, .null])), aI aMM cZ 36 (fun _ => (0 : Int32)), aJ aML cJ 61 (fun _ => (0 : Int64)), aJ aMY cJ 6 (fun _ => (0 : Int64)), aJ aMT cJ 6 (fun _ => (0 : Int64))] H := hP
  have hD : va_D A [(aM, .inr (3, [.int 0, .ref aMM, .ref aML, .ref aMY, .null, .null, .int 0, .null, .null])), aI aMM cZ 36 (fun _ => (0 : Int32)), aJ aML cJ 61 (fun _ => (0 : Int64)), aJ aMY cJ 6 (fun _ => (0 : Int64)), aJ aMT cJ 6 (fun _ => (0 : Int64))] := hD
  refine W.widen (k := 4) (n := 109) (Nat.le_of_ble_eq_true rfl) (Nat.le_of_ble_eq_true rfl) ?_
  refine va_putF (D := (dC, dI)) (ci := 3) (v := .ref aMT) (ty := .array .long) (C := RX3) (T := TX3) (N := 9) hx hb hts in_X3 tyX3 tyX3_ok nmX3 hown hK hP hD hS 0 rfl rfl 4 (by decide) (hts (.fieldLink RX3 20 "RingTasksModel" "then" "[J") (List.mem_of_getElem? (i := 9) rfl)) (fun _ h9 => h9) rfl hin rfl (by decide +kernel) rfl rfl (Nat.le_of_ble_eq_true rfl) dX3_init_33 (fun H locs hP hD hS => ?_)
  have hP : va_P (dC, dI) vwCl [(aM, .inr (3, [.int 0, .ref aMM, .ref aML, .ref aMY, .ref aMT, .null, .int 0, .null, .null])), aI aMM cZ 36 (fun _ => (0 : Int32)), aJ aML cJ 61 (fun _ => (0 : Int64)), aJ aMY cJ 6 (fun _ => (0 : Int64)), aJ aMT cJ 6 (fun _ => (0 : Int64))] H := hP
  have hD : va_D A [(aM, .inr (3, [.int 0, .ref aMM, .ref aML, .ref aMY, .ref aMT, .null, .int 0, .null, .null])), aI aMM cZ 36 (fun _ => (0 : Int32)), aJ aML cJ 61 (fun _ => (0 : Int64)), aJ aMY cJ 6 (fun _ => (0 : Int64)), aJ aMT cJ 6 (fun _ => (0 : Int64))] := hD
  refine lv_aload_n hx hb dX3_init_36 rfl (lv_at hl 0 rfl) ?_
  refine lv_bipush (v := 60) hx hb dX3_init_37 (by decide) ?_
  refine m_newa (atype := .int) (ty := .int) (N' := 60) (n := 60) (a0 := (60, (.inl (fun _ => (0 : Int32))))) hx hb (hts (.arrayClass .int) (List.mem_of_getElem? (i := 10) rfl)) rfl m_raI hK hP hD hS hA 0 rfl (fun _ => rfl) (by decide) (by decide) (show 60 * 4 ≤ 536870912 by omega) (Nat.le_of_ble_eq_true rfl) (Nat.le_of_ble_eq_true rfl) dX3_init_39 (fun aMR H hP hD hS => ?_)
  have hP : va_P (dC, dI) vwCl [(aM, .inr (3, [.int 0, .ref aMM, .ref aML, .ref aMY, .ref aMT, .null, .int 0, .null, .null])), aI aMM cZ 36 (fun _ => (0 : Int32)), aJ aML cJ 61 (fun _ => (0 : Int64)), aJ aMY cJ 6 (fun _ => (0 : Int64)), aJ aMT cJ 6 (fun _ => (0 : Int64)), aI aMR cI 60 (fun _ => (0 : Int32))] H := hP
  have hD : va_D A [(aM, .inr (3, [.int 0, .ref aMM, .ref aML, .ref aMY, .ref aMT, .null, .int 0, .null, .null])), aI aMM cZ 36 (fun _ => (0 : Int32)), aJ aML cJ 61 (fun _ => (0 : Int64)), aJ aMY cJ 6 (fun _ => (0 : Int64)), aJ aMT cJ 6 (fun _ => (0 : Int64)), aI aMR cI 60 (fun _ => (0 : Int32))] := hD
  refine W.widen (k := 5) (n := 169) (Nat.le_of_ble_eq_true rfl) (Nat.le_of_ble_eq_true rfl) ?_
  refine va_putF (D := (dC, dI)) (ci := 3) (v := .ref aMR) (ty := .array .int) (C := RX3) (T := TX3) (N := 9) hx hb hts in_X3 tyX3 tyX3_ok nmX3 hown hK hP hD hS 0 rfl rfl 5 (by decide) (hts (.fieldLink RX3 23 "RingTasksModel" "row" "[I") (List.mem_of_getElem? (i := 11) rfl)) (fun _ h9 => h9) rfl hin rfl (by decide +kernel) rfl rfl (Nat.le_of_ble_eq_true rfl) dX3_init_41 (fun H locs hP hD hS => ?_)
  have hP : va_P (dC, dI) vwCl [(aM, .inr (3, [.int 0, .ref aMM, .ref aML, .ref aMY, .ref aMT, .ref aMR, .int 0, .null, .null])), aI aMM cZ 36 (fun _ => (0 : Int32)), aJ aML cJ 61 (fun _ => (0 : Int64)), aJ aMY cJ 6 (fun _ => (0 : Int64)), aJ aMT cJ 6 (fun _ => (0 : Int64)), aI aMR cI 60 (fun _ => (0 : Int32))] H := hP
  have hD : va_D A [(aM, .inr (3, [.int 0, .ref aMM, .ref aML, .ref aMY, .ref aMT, .ref aMR, .int 0, .null, .null])), aI aMM cZ 36 (fun _ => (0 : Int32)), aJ aML cJ 61 (fun _ => (0 : Int64)), aJ aMY cJ 6 (fun _ => (0 : Int64)), aJ aMT cJ 6 (fun _ => (0 : Int64)), aI aMR cI 60 (fun _ => (0 : Int32))] := hD
  refine lv_aload_n hx hb dX3_init_44 rfl (lv_at hl 0 rfl) ?_
  refine lv_bipush (v := 60) hx hb dX3_init_45 (by decide) ?_
  refine m_newa (atype := .int) (ty := .int) (N' := 60) (n := 60) (a0 := (60, (.inl (fun _ => (0 : Int32))))) hx hb (hts (.arrayClass .int) (List.mem_of_getElem? (i := 10) rfl)) rfl m_raI hK hP hD hS hA 0 rfl (fun _ => rfl) (by decide) (by decide) (show 60 * 4 ≤ 536870912 by omega) (Nat.le_of_ble_eq_true rfl) (Nat.le_of_ble_eq_true rfl) dX3_init_47 (fun aMB H hP hD hS => ?_)
  have hP : va_P (dC, dI) vwCl [(aM, .inr (3, [.int 0, .ref aMM, .ref aML, .ref aMY, .ref aMT, .ref aMR, .int 0, .null, .null])), aI aMM cZ 36 (fun _ => (0 : Int32)), aJ aML cJ 61 (fun _ => (0 : Int64)), aJ aMY cJ 6 (fun _ => (0 : Int64)), aJ aMT cJ 6 (fun _ => (0 : Int64)), aI aMR cI 60 (fun _ => (0 : Int32)), aI aMB cI 60 (fun _ => (0 : Int32))] H := hP
  have hD : va_D A [(aM, .inr (3, [.int 0, .ref aMM, .ref aML, .ref aMY, .ref aMT, .ref aMR, .int 0, .null, .null])), aI aMM cZ 36 (fun _ => (0 : Int32)), aJ aML cJ 61 (fun _ => (0 : Int64)), aJ aMY cJ 6 (fun _ => (0 : Int64)), aJ aMT cJ 6 (fun _ => (0 : Int64)), aI aMR cI 60 (fun _ => (0 : Int32)), aI aMB cI 60 (fun _ => (0 : Int32))] := hD
  refine W.widen (k := 6) (n := 229) (Nat.le_of_ble_eq_true rfl) (Nat.le_of_ble_eq_true rfl) ?_
  refine va_putF (D := (dC, dI)) (ci := 3) (v := .ref aMB) (ty := .array .int) (C := RX3) (T := TX3) (N := 9) hx hb hts in_X3 tyX3 tyX3_ok nmX3 hown hK hP hD hS 0 rfl rfl 7 (by decide) (hts (.fieldLink RX3 27 "RingTasksModel" "label" "[I") (List.mem_of_getElem? (i := 12) rfl)) (fun _ h9 => h9) rfl hin rfl (by decide +kernel) rfl rfl (Nat.le_of_ble_eq_true rfl) dX3_init_49 (fun H locs hP hD hS => ?_)
  have hP : va_P (dC, dI) vwCl [(aM, .inr (3, [.int 0, .ref aMM, .ref aML, .ref aMY, .ref aMT, .ref aMR, .int 0, .ref aMB, .null])), aI aMM cZ 36 (fun _ => (0 : Int32)), aJ aML cJ 61 (fun _ => (0 : Int64)), aJ aMY cJ 6 (fun _ => (0 : Int64)), aJ aMT cJ 6 (fun _ => (0 : Int64)), aI aMR cI 60 (fun _ => (0 : Int32)), aI aMB cI 60 (fun _ => (0 : Int32))] H := hP
  have hD : va_D A [(aM, .inr (3, [.int 0, .ref aMM, .ref aML, .ref aMY, .ref aMT, .ref aMR, .int 0, .ref aMB, .null])), aI aMM cZ 36 (fun _ => (0 : Int32)), aJ aML cJ 61 (fun _ => (0 : Int64)), aJ aMY cJ 6 (fun _ => (0 : Int64)), aJ aMT cJ 6 (fun _ => (0 : Int64)), aI aMR cI 60 (fun _ => (0 : Int32)), aI aMB cI 60 (fun _ => (0 : Int32))] := hD
  refine lv_aload_n hx hb dX3_init_52 rfl (lv_at hl 0 rfl) ?_
  refine lv_bipush (v := 60) hx hb dX3_init_53 (by decide) ?_
  refine m_newa (atype := .int) (ty := .int) (N' := 60) (n := 60) (a0 := (60, (.inl (fun _ => (0 : Int32))))) hx hb (hts (.arrayClass .int) (List.mem_of_getElem? (i := 10) rfl)) rfl m_raI hK hP hD hS hA 0 rfl (fun _ => rfl) (by decide) (by decide) (show 60 * 4 ≤ 536870912 by omega) (Nat.le_of_ble_eq_true rfl) (Nat.le_of_ble_eq_true rfl) dX3_init_55 (fun aMN H hP hD hS => ?_)
  have hP : va_P (dC, dI) vwCl [(aM, .inr (3, [.int 0, .ref aMM, .ref aML, .ref aMY, .ref aMT, .ref aMR, .int 0, .ref aMB, .null])), aI aMM cZ 36 (fun _ => (0 : Int32)), aJ aML cJ 61 (fun _ => (0 : Int64)), aJ aMY cJ 6 (fun _ => (0 : Int64)), aJ aMT cJ 6 (fun _ => (0 : Int64)), aI aMR cI 60 (fun _ => (0 : Int32)), aI aMB cI 60 (fun _ => (0 : Int32)), aI aMN cI 60 (fun _ => (0 : Int32))] H := hP
  have hD : va_D A [(aM, .inr (3, [.int 0, .ref aMM, .ref aML, .ref aMY, .ref aMT, .ref aMR, .int 0, .ref aMB, .null])), aI aMM cZ 36 (fun _ => (0 : Int32)), aJ aML cJ 61 (fun _ => (0 : Int64)), aJ aMY cJ 6 (fun _ => (0 : Int64)), aJ aMT cJ 6 (fun _ => (0 : Int64)), aI aMR cI 60 (fun _ => (0 : Int32)), aI aMB cI 60 (fun _ => (0 : Int32)), aI aMN cI 60 (fun _ => (0 : Int32))] := hD
  refine W.widen (k := 7) (n := 289) (Nat.le_of_ble_eq_true rfl) (Nat.le_of_ble_eq_true rfl) ?_
  refine va_putF (D := (dC, dI)) (ci := 3) (v := .ref aMN) (ty := .array .int) (C := RX3) (T := TX3) (N := 9) hx hb hts in_X3 tyX3 tyX3_ok nmX3 hown hK hP hD hS 0 rfl rfl 8 (by decide) (hts (.fieldLink RX3 30 "RingTasksModel" "number" "[I") (List.mem_of_getElem? (i := 13) rfl)) (fun _ h9 => h9) rfl hin rfl (by decide +kernel) rfl rfl (Nat.le_of_ble_eq_true rfl) dX3_init_57 (fun H locs hP hD hS => ?_)
  have hP : va_P (dC, dI) vwCl [(aM, .inr (3, [.int 0, .ref aMM, .ref aML, .ref aMY, .ref aMT, .ref aMR, .int 0, .ref aMB, .ref aMN])), aI aMM cZ 36 (fun _ => (0 : Int32)), aJ aML cJ 61 (fun _ => (0 : Int64)), aJ aMY cJ 6 (fun _ => (0 : Int64)), aJ aMT cJ 6 (fun _ => (0 : Int64)), aI aMR cI 60 (fun _ => (0 : Int32)), aI aMB cI 60 (fun _ => (0 : Int32)), aI aMN cI 60 (fun _ => (0 : Int32))] H := hP
  have hD : va_D A [(aM, .inr (3, [.int 0, .ref aMM, .ref aML, .ref aMY, .ref aMT, .ref aMR, .int 0, .ref aMB, .ref aMN])), aI aMM cZ 36 (fun _ => (0 : Int32)), aJ aML cJ 61 (fun _ => (0 : Int64)), aJ aMY cJ 6 (fun _ => (0 : Int64)), aJ aMT cJ 6 (fun _ => (0 : Int64)), aI aMR cI 60 (fun _ => (0 : Int32)), aI aMB cI 60 (fun _ => (0 : Int32)), aI aMN cI 60 (fun _ => (0 : Int32))] := hD
  refine lv_aload_n hx hb dX3_init_60 rfl (lv_at hl 0 rfl) ?_
  refine lv_iconst (v := 3) hx hb dX3_init_61 (by decide) ?_
  refine mVv (wr := [aJ aML cJ 61 (fun _ => (0 : Int64)), aJ aMY cJ 6 (fun _ => (0 : Int64)), aJ aMT cJ 6 (fun _ => (0 : Int64)), aI aMR cI 60 (fun _ => (0 : Int32)), aI aMN cI 60 (fun _ => (0 : Int32))]) (As := [.int (3 : Int32)]) (rest := []) ⟨hx, hb, hml, hown, hts⟩ (c_X3_begin (l := l) (dC := dC) (dI := dI) (cI := cI) (cJ := cJ) (cZ := cZ) (aM := aM) (aMM := aMM) (aML := aML) (aMY := aMY) (aMT := aMT) (aMR := aMR) (aMB := aMB) (aMN := aMN) h) (cwV 1 hts gX3_init_X3_begin rfl rfl rfl hv_X3_begin ⟨Nat.le_of_ble_eq_true rfl, Nat.le_of_ble_eq_true rfl⟩) hK hP hD hS hA [0, 1, 6] [2, 3, 4, 5, 7] rfl rfl rfl rfl (by decide) 3 rfl rfl rfl rfl hl.1 rfl (Nat.le_of_ble_eq_true rfl) ⟨Nat.le_of_ble_eq_true rfl, Nat.le_of_ble_eq_true rfl⟩ dX3_init_62 (fun u62 H locs h hP hD hS => ?_)
  obtain ⟨mk_62, fMM_62, fMB_62⟩ := u62
  have hP : va_P (dC, dI) vwCl [(aM, .inr (3, [.int mk_62, .ref aMM, .ref aML, .ref aMY, .ref aMT, .ref aMR, .int 0, .ref aMB, .ref aMN])), aI aMM cZ 36 fMM_62, aJ aML cJ 61 (fun _ => (0 : Int64)), aJ aMY cJ 6 (fun _ => (0 : Int64)), aJ aMT cJ 6 (fun _ => (0 : Int64)), aI aMR cI 60 (fun _ => (0 : Int32)), aI aMB cI 60 fMB_62, aI aMN cI 60 (fun _ => (0 : Int32))] H := hP.sub [5, 6, 0, 1, 2, 3, 7, 4] rfl
  have hD : va_D A [(aM, .inr (3, [.int mk_62, .ref aMM, .ref aML, .ref aMY, .ref aMT, .ref aMR, .int 0, .ref aMB, .ref aMN])), aI aMM cZ 36 fMM_62, aJ aML cJ 61 (fun _ => (0 : Int64)), aJ aMY cJ 6 (fun _ => (0 : Int64)), aJ aMT cJ 6 (fun _ => (0 : Int64)), aI aMR cI 60 (fun _ => (0 : Int32)), aI aMB cI 60 fMB_62, aI aMN cI 60 (fun _ => (0 : Int32))] := hD.sub [5, 6, 0, 1, 2, 3, 7, 4] rfl rfl
  refine lv_aload_n hx hb dX3_init_65 rfl (lv_at hl 0 rfl) ?_
  refine lv_iconst (v := 3) hx hb dX3_init_66 (by decide) ?_
  refine mVv (wr := [aI aMM cZ 36 fMM_62, aJ aML cJ 61 (fun _ => (0 : Int64)), aJ aMY cJ 6 (fun _ => (0 : Int64)), aJ aMT cJ 6 (fun _ => (0 : Int64)), aI aMR cI 60 (fun _ => (0 : Int32))]) (As := [.int (3 : Int32)]) (rest := []) ⟨hx, hb, hml, hown, hts⟩ (c_X3_lay (l := l) (dC := dC) (dI := dI) (cI := cI) (cJ := cJ) (cZ := cZ) (aM := aM) (aMM := aMM) (aML := aML) (aMY := aMY) (aMT := aMT) (aMR := aMR) (aMB := aMB) (aMN := aMN) h) (cwV 1 hts gX3_init_X3_lay rfl rfl rfl hv_X3_lay ⟨Nat.le_of_ble_eq_true rfl, Nat.le_of_ble_eq_true rfl⟩) hK hP hD hS hA [0, 6, 7] [1, 2, 3, 4, 5] rfl rfl rfl rfl (by decide) 3 rfl rfl rfl rfl hl.1 rfl (Nat.le_of_ble_eq_true rfl) ⟨Nat.le_of_ble_eq_true rfl, Nat.le_of_ble_eq_true rfl⟩ dX3_init_67 (fun u67 H locs h hP hD hS => ?_)
  obtain ⟨mp_67, fMB_67, fMN_67⟩ := u67
  have hP : va_P (dC, dI) vwCl [(aM, .inr (3, [.int mk_62, .ref aMM, .ref aML, .ref aMY, .ref aMT, .ref aMR, .int mp_67, .ref aMB, .ref aMN])), aI aMM cZ 36 fMM_62, aJ aML cJ 61 (fun _ => (0 : Int64)), aJ aMY cJ 6 (fun _ => (0 : Int64)), aJ aMT cJ 6 (fun _ => (0 : Int64)), aI aMR cI 60 (fun _ => (0 : Int32)), aI aMB cI 60 fMB_67, aI aMN cI 60 fMN_67] H := hP.sub [5, 0, 1, 2, 3, 4, 6, 7] rfl
  have hD : va_D A [(aM, .inr (3, [.int mk_62, .ref aMM, .ref aML, .ref aMY, .ref aMT, .ref aMR, .int mp_67, .ref aMB, .ref aMN])), aI aMM cZ 36 fMM_62, aJ aML cJ 61 (fun _ => (0 : Int64)), aJ aMY cJ 6 (fun _ => (0 : Int64)), aJ aMT cJ 6 (fun _ => (0 : Int64)), aI aMR cI 60 (fun _ => (0 : Int32)), aI aMB cI 60 fMB_67, aI aMN cI 60 fMN_67] := hD.sub [5, 0, 1, 2, 3, 4, 6, 7] rfl rfl
  exact W.vret hx hb hr (fun t ht hW => ⟨⟨((aMM, aML, aMY, aMT, aMR, aMB, aMN), (mk_62, mp_67, fMM_62, fMB_67, fMN_67)), rfl, h, by rw [ht]; exact hP, hD⟩, hS.F ht⟩) hS.2.2 dX3_init_70
def wp_X2_init (post : Int32 → (Nat → Int32) → (Nat → Int32) → Int32 → (Nat → Int32) → Prop) : Prop := wp_X1_init (3 : Int32) (fun (tk : Int32) (fB : (Nat → Int32)) => wp_X0_init (3 : Int32) (fun (pk : Int32) (fL : (Nat → Int32)) (fN : (Nat → Int32)) => post pk fL fN tk fB))
abbrev rm_X2_init : Room := { frames := 4, cells := 9, slots := 269, locals := 86 }
theorem hv_X2_init : yX2_init.cls ≠ "java/lang/invoke/MethodHandle" ∧ yX2_init.cls ≠ "java/lang/invoke/VarHandle" ∧ (parseMethodDescriptor yX2_init.desc).map (fun d => d.parameters.length) = some 0 := by decide +kernel
set_option maxHeartbeats 400000 in
set_option maxRecDepth 100000 in
theorem c_X2_init {l : Launch} {dC : Nat → ClassId} {dI : Nat → Nat → Nat} {cI cJ cZ : ClassId} {aR : Nat} {post : Int32 → (Nat → Int32) → (Nat → Int32) → Int32 → (Nat → Int32) → Prop} (h : wp_X2_init post) : ∀ sz, Met l yX2_init wsX2_init rm_X2_init (mP (dC, dI) (mTy cI cJ cZ) [.ref aR] [(aR, .inr (2, [.null, .null]))] sz) (va_Qv (fun (u : (Nat × Nat × Nat × Nat × Nat × Nat × Nat × Nat × Nat) × (Int32 × (Nat → Int32) × (Nat → Int32) × Int32 × (Nat → Int32))) => post (u.2.1) (u.2.2.1) (u.2.2.2.1) (u.2.2.2.2.1) (u.2.2.2.2.2)) (mB (dC, dI) (va_A [(aR, .inr (2, [.null, .null]))] sz) (fun u => [oR aR (u.1.1) (u.1.2.2.2.2.2.2.1), oP (u.1.2.2.2.2.2.2.1) (u.1.2.2.2.2.2.2.2.1) (u.1.2.2.2.2.2.2.2.2) (u.2.1), aI (u.1.2.2.2.2.2.2.2.1) cI 60 (u.2.2.1), aI (u.1.2.2.2.2.2.2.2.2) cI 60 (u.2.2.2.1), oT (u.1.1) (u.1.2.1) (u.1.2.2.1) (u.1.2.2.2.1) (u.1.2.2.2.2.1) (u.1.2.2.2.2.2.1) (u.2.2.2.2.1), aI (u.1.2.1) cI 6 (u.2.2.2.2.2), aI (u.1.2.2.1) cI 61 (fun _ => (0 : Int32)), aI (u.1.2.2.2.1) cI 61 (fun _ => (0 : Int32)), aJ (u.1.2.2.2.2.1) cJ 6 (fun _ => (0 : Int64)), aJ (u.1.2.2.2.2.2.1) cJ 6 (fun _ => (0 : Int64))])) (va_A [(aR, .inr (2, [.null, .null]))] sz)) 9 269 (va_A [(aR, .inr (2, [.null, .null]))] sz) := by
  intro sz
  refine Met.ofW (cc := cX2_init) (maxL := 1) (ret := none) (by decide) rfl ?_
  intro p e s m args below meth c s₁ B hml hv
  obtain ⟨rfl, hsz, hP, hK, hD0⟩ := hv
  have hx := B.exec
  have hb := B.bytes
  have hr := B.returns
  have hts := atoms_spec (ws := wsX2_init) B.pre
  have hown : s.vm.findClass RX2 = some m.cls := findClass_of_methodNamed B.named
  have hlocks := B.notSynchronized
  have hin : meth.name = "<init>" := (name_of_methodNamed B.named B.method).1
  subst hsz
  have hD := hD0.self (sz := s.heap.size)
  generalize hAe : va_A [(aR, .inr (2, [.null, .null]))] s.heap.size = A at hD ⊢
  have hA : ∀ q : Nat, s.heap.size ≤ q → A q := fun q h => by rw [← hAe]; exact Or.inr h
  have hS : va_S A s.heap s.heap [] := va_S.rf
  have in_X0 : ∀ w ∈ wsX00, w ∈ wsX2_init := fun w hw => List.mem_cons_of_mem _ (List.mem_append_right _ hw)
  have in_X1 : ∀ w ∈ wsX10, w ∈ wsX2_init := fun w hw => List.mem_cons_of_mem _ (List.mem_append_left _ (List.mem_append_left _ (List.mem_append_right _ hw)))
  have in_X2 : ∀ w ∈ wsX20, w ∈ wsX2_init := fun w hw => List.mem_cons_of_mem _ (List.mem_append_left _ (List.mem_append_right _ hw))
  have hl := lv_entry ([.ref aR]) (n := 1) (Nat.le_of_ble_eq_true rfl)
  rw [lg_entry_eq]
  generalize (lg_sl ([.ref aR]) ++ List.replicate (1 - (lg_sl ([.ref aR])).length) Slot.unset).toArray = ls at hl ⊢
  have hl : lv_has ls 1 [(0, .ref aR)] := hl
  unfold wp_X2_init at h
  refine lv_aload_n hx hb dX2_init_0 rfl (lv_at hl 0 rfl) ?_
  refine W.objInit hx hb hown (hts (.methodLink RX2 1 objectInit) (List.mem_of_getElem? (i := 1) rfl)) (hts (.instanceMethod objectInit) (List.mem_of_getElem? (i := 2) rfl)) (hts (.code objectInit ⟨#[0xb1]⟩ 1 none) (List.mem_of_getElem? (i := 3) rfl)) rfl (by rw [hml]; exact hl.1) rfl dX2_init_1 (Nat.le_of_ble_eq_true rfl) (Nat.le_of_ble_eq_true rfl) ?_
  refine W.eq (g2 := F0 m 4 ls []) rfl ?_
  refine lv_aload_n hx hb dX2_init_4 rfl (lv_at hl 0 rfl) ?_
  refine va_new (ci := 1) (fs := [.int 0, .null, .null, .null, .null, .null]) (C := RX1) (T := TX1) (N := 6) hx hb hts in_X1 tyX1 tyX1_ok hown (hts (.classLink RX2 7 RX1) (List.mem_of_getElem? (i := 4) rfl)) (hts (.instantiable RX1 6) (List.mem_of_getElem? (i := 5) rfl)) (hts (.initialized RX1) (List.mem_of_getElem? (i := 6) rfl)) hK hP hD hS hA rfl (fun j hj => by rcases (show j = 0 ∨ j = 1 ∨ j = 2 ∨ j = 3 ∨ j = 4 ∨ j = 5 by omega) with rfl | rfl | rfl | rfl | rfl | rfl <;> rfl) (Nat.le_of_ble_eq_true rfl) (Nat.le_of_ble_eq_true rfl) dX2_init_5 (fun aT H hP hD hS => ?_)
  have hP : va_P (dC, dI) vwCl [(aR, .inr (2, [.null, .null])), (aT, .inr (1, [.int 0, .null, .null, .null, .null, .null]))] H := hP
  have hD : va_D A [(aR, .inr (2, [.null, .null])), (aT, .inr (1, [.int 0, .null, .null, .null, .null, .null]))] := hD
  refine W.widen (k := 1) (n := 6) (Nat.le_of_ble_eq_true rfl) (Nat.le_of_ble_eq_true rfl) ?_
  refine lv_dup hx hb dX2_init_8 rfl ?_
  refine lv_iconst (v := 3) hx hb dX2_init_9 (by decide) ?_
  refine mIv (wr := [(aR, .inr (2, [.null, .null]))]) (As := [.int (3 : Int32)]) (rest := [.ref aT, .ref aR]) ⟨hx, hb, hml, hown, hts⟩ (c_X1_init (l := l) (dC := dC) (dI := dI) (cI := cI) (cJ := cJ) (cZ := cZ) (aT := aT) h) (cwI 1 hts gX2_init_X1_init rfl rfl rfl (hts (.initialized RX1) (List.mem_of_getElem? (i := 6) rfl)) (hts (.methodLink RX2 9 yX1_init) (List.mem_of_getElem? (i := 12) rfl)) (hts (.instanceMethod yX1_init) (List.mem_of_getElem? (i := 13) rfl)) rfl hv_X1_init ⟨Nat.le_of_ble_eq_true rfl, Nat.le_of_ble_eq_true rfl⟩) hK hP hD hS hA [1] [0] rfl rfl rfl rfl (by decide) rfl hl.1 rfl (Nat.le_of_ble_eq_true rfl) ⟨Nat.le_of_ble_eq_true rfl, Nat.le_of_ble_eq_true rfl⟩ dX2_init_10 (fun u H locs h hP hD hS => ?_)
  obtain ⟨⟨aB, aWK, aRE, aY, aZ⟩, tk, fB⟩ := u
  have hP : va_P (dC, dI) vwCl [(aR, .inr (2, [.null, .null])), oT aT aB aWK aRE aY aZ tk, aI aB cI 6 fB, aI aWK cI 61 (fun _ => (0 : Int32)), aI aRE cI 61 (fun _ => (0 : Int32)), aJ aY cJ 6 (fun _ => (0 : Int64)), aJ aZ cJ 6 (fun _ => (0 : Int64))] H := hP
  have hD : va_D A [(aR, .inr (2, [.null, .null])), oT aT aB aWK aRE aY aZ tk, aI aB cI 6 fB, aI aWK cI 61 (fun _ => (0 : Int32)), aI aRE cI 61 (fun _ => (0 : Int32)), aJ aY cJ 6 (fun _ => (0 : Int64)), aJ aZ cJ 6 (fun _ => (0 : Int64))] := hD
  refine W.widen (k := 6) (n := 146) (Nat.le_of_ble_eq_true rfl) (Nat.le_of_ble_eq_true rfl) ?_
  refine va_putF (D := (dC, dI)) (ci := 2) (v := .ref aT) (ty := .object "RingTasks$Task") (C := RX2) (T := TX2) (N := 2) hx hb hts in_X2 tyX2 tyX2_ok nmX2 hown hK hP hD hS 0 rfl rfl 0 (by decide) (hts (.fieldLink RX2 12 "RingTasks" "task" "LRingTasks$Task;") (List.mem_of_getElem? (i := 7) rfl)) (fun _ h9 => h9) rfl hin rfl (by decide +kernel) rfl rfl (Nat.le_of_ble_eq_true rfl) dX2_init_13 (fun H locs hP hD hS => ?_)
  have hP : va_P (dC, dI) vwCl [(aR, .inr (2, [.ref aT, .null])), oT aT aB aWK aRE aY aZ tk, aI aB cI 6 fB, aI aWK cI 61 (fun _ => (0 : Int32)), aI aRE cI 61 (fun _ => (0 : Int32)), aJ aY cJ 6 (fun _ => (0 : Int64)), aJ aZ cJ 6 (fun _ => (0 : Int64))] H := hP
  have hD : va_D A [(aR, .inr (2, [.ref aT, .null])), oT aT aB aWK aRE aY aZ tk, aI aB cI 6 fB, aI aWK cI 61 (fun _ => (0 : Int32)), aI aRE cI 61 (fun _ => (0 : Int32)), aJ aY cJ 6 (fun _ => (0 : Int64)), aJ aZ cJ 6 (fun _ => (0 : Int64))] := hD
  refine lv_aload_n hx hb dX2_init_16 rfl (lv_at hl 0 rfl) ?_
  refine va_new (ci := 0) (fs := [.int 0, .null, .null]) (C := RX0) (T := TX0) (N := 3) hx hb hts in_X0 tyX0 tyX0_ok hown (hts (.classLink RX2 18 RX0) (List.mem_of_getElem? (i := 8) rfl)) (hts (.instantiable RX0 3) (List.mem_of_getElem? (i := 9) rfl)) (hts (.initialized RX0) (List.mem_of_getElem? (i := 10) rfl)) hK hP hD hS hA rfl (fun j hj => by rcases (show j = 0 ∨ j = 1 ∨ j = 2 by omega) with rfl | rfl | rfl <;> rfl) (Nat.le_of_ble_eq_true rfl) (Nat.le_of_ble_eq_true rfl) dX2_init_17 (fun aP H hP hD hS => ?_)
  have hP : va_P (dC, dI) vwCl [(aR, .inr (2, [.ref aT, .null])), oT aT aB aWK aRE aY aZ tk, aI aB cI 6 fB, aI aWK cI 61 (fun _ => (0 : Int32)), aI aRE cI 61 (fun _ => (0 : Int32)), aJ aY cJ 6 (fun _ => (0 : Int64)), aJ aZ cJ 6 (fun _ => (0 : Int64)), (aP, .inr (0, [.int 0, .null, .null]))] H := hP
  have hD : va_D A [(aR, .inr (2, [.ref aT, .null])), oT aT aB aWK aRE aY aZ tk, aI aB cI 6 fB, aI aWK cI 61 (fun _ => (0 : Int32)), aI aRE cI 61 (fun _ => (0 : Int32)), aJ aY cJ 6 (fun _ => (0 : Int64)), aJ aZ cJ 6 (fun _ => (0 : Int64)), (aP, .inr (0, [.int 0, .null, .null]))] := hD
  refine W.widen (k := 7) (n := 149) (Nat.le_of_ble_eq_true rfl) (Nat.le_of_ble_eq_true rfl) ?_
  refine lv_dup hx hb dX2_init_20 rfl ?_
  refine lv_iconst (v := 3) hx hb dX2_init_21 (by decide) ?_
  refine mIv (wr := [(aR, .inr (2, [.ref aT, .null])), oT aT aB aWK aRE aY aZ tk, aI aB cI 6 fB, aI aWK cI 61 (fun _ => (0 : Int32)), aI aRE cI 61 (fun _ => (0 : Int32)), aJ aY cJ 6 (fun _ => (0 : Int64)), aJ aZ cJ 6 (fun _ => (0 : Int64))]) (As := [.int (3 : Int32)]) (rest := [.ref aP, .ref aR]) ⟨hx, hb, hml, hown, hts⟩ (c_X0_init (l := l) (dC := dC) (dI := dI) (cI := cI) (cJ := cJ) (cZ := cZ) (aP := aP) h) (cwI 1 hts gX2_init_X0_init rfl rfl rfl (hts (.initialized RX0) (List.mem_of_getElem? (i := 10) rfl)) (hts (.methodLink RX2 20 yX0_init) (List.mem_of_getElem? (i := 32) rfl)) (hts (.instanceMethod yX0_init) (List.mem_of_getElem? (i := 33) rfl)) rfl hv_X0_init ⟨Nat.le_of_ble_eq_true rfl, Nat.le_of_ble_eq_true rfl⟩) hK hP hD hS hA [7] [0, 1, 2, 3, 4, 5, 6] rfl rfl rfl rfl (by decide) rfl hl.1 rfl (Nat.le_of_ble_eq_true rfl) ⟨Nat.le_of_ble_eq_true rfl, Nat.le_of_ble_eq_true rfl⟩ dX2_init_22 (fun u H locs h hP hD hS => ?_)
  obtain ⟨⟨aL, aN⟩, pk, fL, fN⟩ := u
  have hP : va_P (dC, dI) vwCl [(aR, .inr (2, [.ref aT, .null])), oT aT aB aWK aRE aY aZ tk, aI aB cI 6 fB, aI aWK cI 61 (fun _ => (0 : Int32)), aI aRE cI 61 (fun _ => (0 : Int32)), aJ aY cJ 6 (fun _ => (0 : Int64)), aJ aZ cJ 6 (fun _ => (0 : Int64)), oP aP aL aN pk, aI aL cI 60 fL, aI aN cI 60 fN] H := hP
  have hD : va_D A [(aR, .inr (2, [.ref aT, .null])), oT aT aB aWK aRE aY aZ tk, aI aB cI 6 fB, aI aWK cI 61 (fun _ => (0 : Int32)), aI aRE cI 61 (fun _ => (0 : Int32)), aJ aY cJ 6 (fun _ => (0 : Int64)), aJ aZ cJ 6 (fun _ => (0 : Int64)), oP aP aL aN pk, aI aL cI 60 fL, aI aN cI 60 fN] := hD
  refine W.widen (k := 9) (n := 269) (Nat.le_of_ble_eq_true rfl) (Nat.le_of_ble_eq_true rfl) ?_
  refine va_putF (D := (dC, dI)) (ci := 2) (v := .ref aP) (ty := .object "RingTasks$Posts") (C := RX2) (T := TX2) (N := 2) hx hb hts in_X2 tyX2 tyX2_ok nmX2 hown hK hP hD hS 0 rfl rfl 1 (by decide) (hts (.fieldLink RX2 21 "RingTasks" "posts" "LRingTasks$Posts;") (List.mem_of_getElem? (i := 11) rfl)) (fun _ h9 => h9) rfl hin rfl (by decide +kernel) rfl rfl (Nat.le_of_ble_eq_true rfl) dX2_init_25 (fun H locs hP hD hS => ?_)
  have hP : va_P (dC, dI) vwCl [oR aR aT aP, oT aT aB aWK aRE aY aZ tk, aI aB cI 6 fB, aI aWK cI 61 (fun _ => (0 : Int32)), aI aRE cI 61 (fun _ => (0 : Int32)), aJ aY cJ 6 (fun _ => (0 : Int64)), aJ aZ cJ 6 (fun _ => (0 : Int64)), oP aP aL aN pk, aI aL cI 60 fL, aI aN cI 60 fN] H := hP
  have hD : va_D A [oR aR aT aP, oT aT aB aWK aRE aY aZ tk, aI aB cI 6 fB, aI aWK cI 61 (fun _ => (0 : Int32)), aI aRE cI 61 (fun _ => (0 : Int32)), aJ aY cJ 6 (fun _ => (0 : Int64)), aJ aZ cJ 6 (fun _ => (0 : Int64)), oP aP aL aN pk, aI aL cI 60 fL, aI aN cI 60 fN] := hD
  have hP : va_P (dC, dI) vwCl [oR aR aT aP, oP aP aL aN pk, aI aL cI 60 fL, aI aN cI 60 fN, oT aT aB aWK aRE aY aZ tk, aI aB cI 6 fB, aI aWK cI 61 (fun _ => (0 : Int32)), aI aRE cI 61 (fun _ => (0 : Int32)), aJ aY cJ 6 (fun _ => (0 : Int64)), aJ aZ cJ 6 (fun _ => (0 : Int64))] H := hP.sub [0, 7, 8, 9, 1, 2, 3, 4, 5, 6] rfl
  have hD : va_D A [oR aR aT aP, oP aP aL aN pk, aI aL cI 60 fL, aI aN cI 60 fN, oT aT aB aWK aRE aY aZ tk, aI aB cI 6 fB, aI aWK cI 61 (fun _ => (0 : Int32)), aI aRE cI 61 (fun _ => (0 : Int32)), aJ aY cJ 6 (fun _ => (0 : Int64)), aJ aZ cJ 6 (fun _ => (0 : Int64))] := hD.sub [0, 7, 8, 9, 1, 2, 3, 4, 5, 6] rfl rfl
  exact W.vret hx hb hr (fun t ht hW => ⟨⟨((aT, aB, aWK, aRE, aY, aZ, aP, aL, aN), (pk, fL, fN, tk, fB)), rfl, h, by rw [ht]; exact hP, hD⟩, hS.F ht⟩) hS.2.2 dX2_init_28
