def wp_L_law_b226 (x3 : Int32) (z0 : Int32) (z1 : Int32) (z2 : Int32) (z4 : Int32) (L : Nat) (xs : Nat → Int32) (pk : Int32) (fL : (Nat → Int32)) (fN : (Nat → Int32)) (tk : Int32) (fB : (Nat → Int32)) (fWK : (Nat → Int32)) (fRE : (Nat → Int32)) (fY : (Nat → Int64)) (fZ : (Nat → Int64)) (mk : Int32) (mp : Int32) (fMM : (Nat → Int32)) (fML : (Nat → Int64)) (fMY : (Nat → Int64)) (fMT : (Nat → Int64)) (fMR : (Nat → Int32)) (fMB : (Nat → Int32)) (fMN : (Nat → Int32)) (post : Int32 → Int32 → (Nat → Int32) → (Nat → Int32) → Int32 → (Nat → Int32) → (Nat → Int32) → (Nat → Int32) → (Nat → Int64) → (Nat → Int64) → Int32 → Int32 → (Nat → Int32) → (Nat → Int64) → (Nat → Int64) → (Nat → Int64) → (Nat → Int32) → (Nat → Int32) → (Nat → Int32) → Prop) (P18 : Int32 → Int32 → (Nat → Int32) → (Nat → Int32) → Int32 → (Nat → Int32) → (Nat → Int32) → (Nat → Int32) → (Nat → Int64) → (Nat → Int64) → Int32 → Int32 → (Nat → Int32) → (Nat → Int64) → (Nat → Int64) → (Nat → Int64) → (Nat → Int32) → (Nat → Int32) → (Nat → Int32) → Prop) : Prop := wp_X3_allow z2 z1 z0 mk mp fMM (fun (r226 : Int32) (fMM_226 : (Nat → Int32)) => ((z4 = r226 → (∀ v758 : Int32, v758 = x3 + (4 : Int32) → P18 v758 pk fL fN tk fB fWK fRE fY fZ mk mp fMM_226 fML fMY fMT fMR fMB fMN)) ∧ (¬ z4 = r226 → post (0 : Int32) pk fL fN tk fB fWK fRE fY fZ mk mp fMM_226 fML fMY fMT fMR fMB fMN)))
def wp_L_law_b199 (x3 : Int32) (z0 : Int32) (z1 : Int32) (z2 : Int32) (L : Nat) (xs : Nat → Int32) (pk : Int32) (fL : (Nat → Int32)) (fN : (Nat → Int32)) (tk : Int32) (fB : (Nat → Int32)) (fWK : (Nat → Int32)) (fRE : (Nat → Int32)) (fY : (Nat → Int64)) (fZ : (Nat → Int64)) (mk : Int32) (mp : Int32) (fMM : (Nat → Int32)) (fML : (Nat → Int64)) (fMY : (Nat → Int64)) (fMT : (Nat → Int64)) (fMR : (Nat → Int32)) (fMB : (Nat → Int32)) (fMN : (Nat → Int32)) (post : Int32 → Int32 → (Nat → Int32) → (Nat → Int32) → Int32 → (Nat → Int32) → (Nat → Int32) → (Nat → Int32) → (Nat → Int64) → (Nat → Int64) → Int32 → Int32 → (Nat → Int32) → (Nat → Int64) → (Nat → Int64) → (Nat → Int64) → (Nat → Int32) → (Nat → Int32) → (Nat → Int32) → Prop) (P18 : Int32 → Int32 → (Nat → Int32) → (Nat → Int32) → Int32 → (Nat → Int32) → (Nat → Int32) → (Nat → Int32) → (Nat → Int64) → (Nat → Int64) → Int32 → Int32 → (Nat → Int32) → (Nat → Int64) → (Nat → Int64) → (Nat → Int64) → (Nat → Int32) → (Nat → Int32) → (Nat → Int32) → Prop) : Prop := wp_X2_allow z2 z1 z0 tk fB (fun (r199 : Int32) (fB_199 : (Nat → Int32)) => (vp_in (x3 + (1 : Int32)) L ∧ (vp_in (x3 + (2 : Int32)) L ∧ (vp_in (x3 + (3 : Int32)) L ∧ (((xs (x3 + (3 : Int32)).toNatClampNeg) = (0 : Int32) → wp_L_law_b226 x3 (0 : Int32) (xs (x3 + (2 : Int32)).toNatClampNeg) (xs (x3 + (1 : Int32)).toNatClampNeg) r199 L xs pk fL fN tk fB_199 fWK fRE fY fZ mk mp fMM fML fMY fMT fMR fMB fMN post P18) ∧ (¬ (xs (x3 + (3 : Int32)).toNatClampNeg) = (0 : Int32) → wp_L_law_b226 x3 (1 : Int32) (xs (x3 + (2 : Int32)).toNatClampNeg) (xs (x3 + (1 : Int32)).toNatClampNeg) r199 L xs pk fL fN tk fB_199 fWK fRE fY fZ mk mp fMM fML fMY fMT fMR fMB fMN post P18))))))
def wp_L_law_b18 (x3 : Int32) (L : Nat) (xs : Nat → Int32) (pk : Int32) (fL : (Nat → Int32)) (fN : (Nat → Int32)) (tk : Int32) (fB : (Nat → Int32)) (fWK : (Nat → Int32)) (fRE : (Nat → Int32)) (fY : (Nat → Int64)) (fZ : (Nat → Int64)) (mk : Int32) (mp : Int32) (fMM : (Nat → Int32)) (fML : (Nat → Int64)) (fMY : (Nat → Int64)) (fMT : (Nat → Int64)) (fMR : (Nat → Int32)) (fMB : (Nat → Int32)) (fMN : (Nat → Int32)) (post : Int32 → Int32 → (Nat → Int32) → (Nat → Int32) → Int32 → (Nat → Int32) → (Nat → Int32) → (Nat → Int32) → (Nat → Int64) → (Nat → Int64) → Int32 → Int32 → (Nat → Int32) → (Nat → Int64) → (Nat → Int64) → (Nat → Int64) → (Nat → Int32) → (Nat → Int32) → (Nat → Int32) → Prop)  : Prop := ∀ P18 : Int32 → Int32 → (Nat → Int32) → (Nat → Int32) → Int32 → (Nat → Int32) → (Nat → Int32) → (Nat → Int32) → (Nat → Int64) → (Nat → Int64) → Int32 → Int32 → (Nat → Int32) → (Nat → Int64) → (Nat → Int64) → (Nat → Int64) → (Nat → Int32) → (Nat → Int32) → (Nat → Int32) → Prop, (∀ (x3 : Int32) (pk : Int32) (fL : (Nat → Int32)) (fN : (Nat → Int32)) (tk : Int32) (fB : (Nat → Int32)) (fWK : (Nat → Int32)) (fRE : (Nat → Int32)) (fY : (Nat → Int64)) (fZ : (Nat → Int64)) (mk : Int32) (mp : Int32) (fMM : (Nat → Int32)) (fML : (Nat → Int64)) (fMY : (Nat → Int64)) (fMT : (Nat → Int64)) (fMR : (Nat → Int32)) (fMB : (Nat → Int32)) (fMN : (Nat → Int32)), ((((Int32.ofNat L) - (4 : Int32)) < x3 → post (1 : Int32) pk fL fN tk fB fWK fRE fY fZ mk mp fMM fML fMY fMT fMR fMB fMN) ∧ (¬ ((Int32.ofNat L) - (4 : Int32)) < x3 → (vp_in x3 L ∧ ((((xs x3.toNatClampNeg) &&& (31 : Int32)).toInt < 0 ∨ 25 < ((xs x3.toNatClampNeg) &&& (31 : Int32)).toInt → (∀ v758 : Int32, v758 = x3 + (4 : Int32) → P18 v758 pk fL fN tk fB fWK fRE fY fZ mk mp fMM fML fMY fMT fMR fMB fMN)) ∧ (((xs x3.toNatClampNeg) &&& (31 : Int32)) = (0 : Int32) → (vp_in (x3 + (1 : Int32)) L ∧ wp_X2_labels (xs (x3 + (1 : Int32)).toNatClampNeg) pk fL tk fB (fun (r158 : Int32) (fL_158 : (Nat → Int32)) (tk_158 : Int32) (fB_158 : (Nat → Int32)) => (vp_in (x3 + (1 : Int32)) L ∧ wp_X3_labels (xs (x3 + (1 : Int32)).toNatClampNeg) mk mp fMM fMB (fun (r167 : Int32) (mk_167 : Int32) (fMM_167 : (Nat → Int32)) (fMB_167 : (Nat → Int32)) => ((r158 = r167 → (∀ v758 : Int32, v758 = x3 + (4 : Int32) → P18 v758 pk fL_158 fN tk_158 fB_158 fWK fRE fY fZ mk_167 mp fMM_167 fML fMY fMT fMR fMB_167 fMN)) ∧ (¬ r158 = r167 → post (0 : Int32) pk fL_158 fN tk_158 fB_158 fWK fRE fY fZ mk_167 mp fMM_167 fML fMY fMT fMR fMB_167 fMN))))))) ∧ (((xs x3.toNatClampNeg) &&& (31 : Int32)) = (1 : Int32) → (vp_in (x3 + (1 : Int32)) L ∧ (vp_in (x3 + (2 : Int32)) L ∧ (vp_in (x3 + (3 : Int32)) L ∧ (((xs (x3 + (3 : Int32)).toNatClampNeg) = (0 : Int32) → wp_L_law_b199 x3 (0 : Int32) (xs (x3 + (2 : Int32)).toNatClampNeg) (xs (x3 + (1 : Int32)).toNatClampNeg) L xs pk fL fN tk fB fWK fRE fY fZ mk mp fMM fML fMY fMT fMR fMB fMN post P18) ∧ (¬ (xs (x3 + (3 : Int32)).toNatClampNeg) = (0 : Int32) → wp_L_law_b199 x3 (1 : Int32) (xs (x3 + (2 : Int32)).toNatClampNeg) (xs (x3 + (1 : Int32)).toNatClampNeg) L xs pk fL fN tk fB fWK fRE fY fZ mk mp fMM fML fMY fMT fMR fMB fMN post P18)))))) ∧ (((xs x3.toNatClampNeg) &&& (31 : Int32)) = (2 : Int32) → (vp_in (x3 + (1 : Int32)) L ∧ (vp_in (x3 + (2 : Int32)) L ∧ wp_X2_may (xs (x3 + (1 : Int32)).toNatClampNeg) (xs (x3 + (2 : Int32)).toNatClampNeg) tk fB (fun (r245 : Int32) => (vp_in (x3 + (1 : Int32)) L ∧ (vp_in (x3 + (2 : Int32)) L ∧ wp_X3_may (xs (x3 + (1 : Int32)).toNatClampNeg) (xs (x3 + (2 : Int32)).toNatClampNeg) mk mp fMM (fun (r259 : Int32) => ((r245 = r259 → (∀ v758 : Int32, v758 = x3 + (4 : Int32) → P18 v758 pk fL fN tk fB fWK fRE fY fZ mk mp fMM fML fMY fMT fMR fMB fMN)) ∧ (¬ r245 = r259 → post (0 : Int32) pk fL fN tk fB fWK fRE fY fZ mk mp fMM fML fMY fMT fMR fMB fMN))))))))) ∧ (((xs x3.toNatClampNeg) &&& (31 : Int32)) = (3 : Int32) → (vp_in (x3 + (1 : Int32)) L ∧ wp_X2_rings (xs (x3 + (1 : Int32)).toNatClampNeg) tk fB fY fZ (fun (r273 : Int64) (fY_273 : (Nat → Int64)) (fZ_273 : (Nat → Int64)) => (vp_in (x3 + (1 : Int32)) L ∧ wp_X3_rings (xs (x3 + (1 : Int32)).toNatClampNeg) mk mp fMM fMY fMT (fun (r282 : Int64) (fMY_282 : (Nat → Int64)) (fMT_282 : (Nat → Int64)) => (((lg_cmp r273 r282) = (0 : Int32) → (∀ v758 : Int32, v758 = x3 + (4 : Int32) → P18 v758 pk fL fN tk fB fWK fRE fY_273 fZ_273 mk mp fMM fML fMY_282 fMT_282 fMR fMB fMN)) ∧ (¬ (lg_cmp r273 r282) = (0 : Int32) → post (0 : Int32) pk fL fN tk fB fWK fRE fY_273 fZ_273 mk mp fMM fML fMY_282 fMT_282 fMR fMB fMN))))))) ∧ (((xs x3.toNatClampNeg) &&& (31 : Int32)) = (4 : Int32) → (vp_in (x3 + (1 : Int32)) L ∧ (vp_in (x3 + (2 : Int32)) L ∧ wp_X2_first (xs (x3 + (1 : Int32)).toNatClampNeg) (xs (x3 + (2 : Int32)).toNatClampNeg) tk fB fWK fRE (fun (r302 : Int32) (fWK_302 : (Nat → Int32)) (fRE_302 : (Nat → Int32)) => (vp_in (x3 + (1 : Int32)) L ∧ (vp_in (x3 + (2 : Int32)) L ∧ wp_X3_first (xs (x3 + (1 : Int32)).toNatClampNeg) (xs (x3 + (2 : Int32)).toNatClampNeg) mk mp fMM fML fMR (fun (r316 : Int32) (fML_316 : (Nat → Int64)) (fMR_316 : (Nat → Int32)) => ((r302 = r316 → (∀ v758 : Int32, v758 = x3 + (4 : Int32) → P18 v758 pk fL fN tk fB fWK_302 fRE_302 fY fZ mk mp fMM fML_316 fMY fMT fMR_316 fMB fMN)) ∧ (¬ r302 = r316 → post (0 : Int32) pk fL fN tk fB fWK_302 fRE_302 fY fZ mk mp fMM fML_316 fMY fMT fMR_316 fMB fMN))))))))) ∧ (((xs x3.toNatClampNeg) &&& (31 : Int32)) = (5 : Int32) → (vp_in (x3 + (1 : Int32)) L ∧ (vp_in (x3 + (2 : Int32)) L ∧ (vp_in (x3 + (3 : Int32)) L ∧ wp_X2_walks (xs (x3 + (1 : Int32)).toNatClampNeg) (xs (x3 + (2 : Int32)).toNatClampNeg) (xs (x3 + (3 : Int32)).toNatClampNeg) tk fB fY fZ (fun (r340 : Int64) (fY_340 : (Nat → Int64)) (fZ_340 : (Nat → Int64)) => (vp_in (x3 + (1 : Int32)) L ∧ (vp_in (x3 + (2 : Int32)) L ∧ (vp_in (x3 + (3 : Int32)) L ∧ wp_X3_walks (xs (x3 + (1 : Int32)).toNatClampNeg) (xs (x3 + (2 : Int32)).toNatClampNeg) (xs (x3 + (3 : Int32)).toNatClampNeg) mk mp fMM fMY fMT (fun (r359 : Int64) (fMY_359 : (Nat → Int64)) (fMT_359 : (Nat → Int64)) => (((lg_cmp r340 r359) = (0 : Int32) → (∀ v758 : Int32, v758 = x3 + (4 : Int32) → P18 v758 pk fL fN tk fB fWK fRE fY_340 fZ_340 mk mp fMM fML fMY_359 fMT_359 fMR fMB fMN)) ∧ (¬ (lg_cmp r340 r359) = (0 : Int32) → post (0 : Int32) pk fL fN tk fB fWK fRE fY_340 fZ_340 mk mp fMM fML fMY_359 fMT_359 fMR fMB fMN))))))))))) ∧ (((xs x3.toNatClampNeg) &&& (31 : Int32)) = (6 : Int32) → wp_X2_blocks tk fB (fun (r369 : Int32) => wp_X3_blocks mk mp fMM fML (fun (r373 : Int32) (fML_373 : (Nat → Int64)) => ((r369 = r373 → (∀ v758 : Int32, v758 = x3 + (4 : Int32) → P18 v758 pk fL fN tk fB fWK fRE fY fZ mk mp fMM fML_373 fMY fMT fMR fMB fMN)) ∧ (¬ r369 = r373 → post (0 : Int32) pk fL fN tk fB fWK fRE fY fZ mk mp fMM fML_373 fMY fMT fMR fMB fMN))))) ∧ (((xs x3.toNatClampNeg) &&& (31 : Int32)) = (7 : Int32) → (vp_in (x3 + (1 : Int32)) L ∧ wp_X2_block (xs (x3 + (1 : Int32)).toNatClampNeg) tk fB (fun (r387 : Int32) => (vp_in (x3 + (1 : Int32)) L ∧ wp_X3_block (xs (x3 + (1 : Int32)).toNatClampNeg) mk mp fMM fML (fun (r396 : Int32) (fML_396 : (Nat → Int64)) => ((r387 = r396 → (∀ v758 : Int32, v758 = x3 + (4 : Int32) → P18 v758 pk fL fN tk fB fWK fRE fY fZ mk mp fMM fML_396 fMY fMT fMR fMB fMN)) ∧ (¬ r387 = r396 → post (0 : Int32) pk fL fN tk fB fWK fRE fY fZ mk mp fMM fML_396 fMY fMT fMR fMB fMN))))))) ∧ (((xs x3.toNatClampNeg) &&& (31 : Int32)) = (8 : Int32) → (vp_in (x3 + (1 : Int32)) L ∧ wp_X2_pace (xs (x3 + (1 : Int32)).toNatClampNeg) tk fB fRE (fun (r410 : Int32) (fRE_410 : (Nat → Int32)) => (vp_in (x3 + (1 : Int32)) L ∧ wp_X3_pace (xs (x3 + (1 : Int32)).toNatClampNeg) mk mp fMM fML (fun (r419 : Int32) (fML_419 : (Nat → Int64)) => ((r410 = r419 → (∀ v758 : Int32, v758 = x3 + (4 : Int32) → P18 v758 pk fL fN tk fB fWK fRE_410 fY fZ mk mp fMM fML_419 fMY fMT fMR fMB fMN)) ∧ (¬ r410 = r419 → post (0 : Int32) pk fL fN tk fB fWK fRE_410 fY fZ mk mp fMM fML_419 fMY fMT fMR fMB fMN))))))) ∧ (((xs x3.toNatClampNeg) &&& (31 : Int32)) = (9 : Int32) → wp_X2_kind tk fB fRE (fun (r428 : Int32) (fRE_428 : (Nat → Int32)) => wp_X3_kind mk mp fMM fML (fun (r432 : Int32) (fML_432 : (Nat → Int64)) => ((r428 = r432 → (∀ v758 : Int32, v758 = x3 + (4 : Int32) → P18 v758 pk fL fN tk fB fWK fRE_428 fY fZ mk mp fMM fML_432 fMY fMT fMR fMB fMN)) ∧ (¬ r428 = r432 → post (0 : Int32) pk fL fN tk fB fWK fRE_428 fY fZ mk mp fMM fML_432 fMY fMT fMR fMB fMN))))) ∧ (((xs x3.toNatClampNeg) &&& (31 : Int32)) = (10 : Int32) → wp_X2_sure tk fB fRE (fun (r441 : Int32) (fRE_441 : (Nat → Int32)) => wp_X3_sure mk mp fMM fML (fun (r445 : Int32) (fML_445 : (Nat → Int64)) => ((r441 = r445 → (∀ v758 : Int32, v758 = x3 + (4 : Int32) → P18 v758 pk fL fN tk fB fWK fRE_441 fY fZ mk mp fMM fML_445 fMY fMT fMR fMB fMN)) ∧ (¬ r441 = r445 → post (0 : Int32) pk fL fN tk fB fWK fRE_441 fY fZ mk mp fMM fML_445 fMY fMT fMR fMB fMN))))) ∧ (((xs x3.toNatClampNeg) &&& (31 : Int32)) = (11 : Int32) → (vp_in (x3 + (1 : Int32)) L ∧ wp_X2_free (xs (x3 + (1 : Int32)).toNatClampNeg) tk fB fRE (fun (r459 : Int32) (fRE_459 : (Nat → Int32)) => (vp_in (x3 + (1 : Int32)) L ∧ wp_X3_free (xs (x3 + (1 : Int32)).toNatClampNeg) mk mp fMM fML (fun (r468 : Int32) (fML_468 : (Nat → Int64)) => ((r459 = r468 → (∀ v758 : Int32, v758 = x3 + (4 : Int32) → P18 v758 pk fL fN tk fB fWK fRE_459 fY fZ mk mp fMM fML_468 fMY fMT fMR fMB fMN)) ∧ (¬ r459 = r468 → post (0 : Int32) pk fL fN tk fB fWK fRE_459 fY fZ mk mp fMM fML_468 fMY fMT fMR fMB fMN))))))) ∧ (((xs x3.toNatClampNeg) &&& (31 : Int32)) = (12 : Int32) → wp_X2_mirrors tk fB (fun (r477 : Int32) => wp_X3_mirrors mk mp fMM fML (fun (r481 : Int32) (fML_481 : (Nat → Int64)) => ((r477 = r481 → (∀ v758 : Int32, v758 = x3 + (4 : Int32) → P18 v758 pk fL fN tk fB fWK fRE fY fZ mk mp fMM fML_481 fMY fMT fMR fMB fMN)) ∧ (¬ r477 = r481 → post (0 : Int32) pk fL fN tk fB fWK fRE fY fZ mk mp fMM fML_481 fMY fMT fMR fMB fMN))))) ∧ (((xs x3.toNatClampNeg) &&& (31 : Int32)) = (13 : Int32) → (vp_in (x3 + (1 : Int32)) L ∧ wp_X2_ring (xs (x3 + (1 : Int32)).toNatClampNeg) pk fL fN (fun (r495 : Int32) (pk_495 : Int32) (fL_495 : (Nat → Int32)) (fN_495 : (Nat → Int32)) => (vp_in (x3 + (1 : Int32)) L ∧ wp_X3_ring (xs (x3 + (1 : Int32)).toNatClampNeg) mk mp fMB fMN (fun (r504 : Int32) (mp_504 : Int32) (fMB_504 : (Nat → Int32)) (fMN_504 : (Nat → Int32)) => ((r495 = r504 → (∀ v758 : Int32, v758 = x3 + (4 : Int32) → P18 v758 pk_495 fL_495 fN_495 tk fB fWK fRE fY fZ mk mp_504 fMM fML fMY fMT fMR fMB_504 fMN_504)) ∧ (¬ r495 = r504 → post (0 : Int32) pk_495 fL_495 fN_495 tk fB fWK fRE fY fZ mk mp_504 fMM fML fMY fMT fMR fMB_504 fMN_504))))))) ∧ (((xs x3.toNatClampNeg) &&& (31 : Int32)) = (14 : Int32) → (vp_in (x3 + (1 : Int32)) L ∧ (vp_in (x3 + (2 : Int32)) L ∧ wp_X2_put (xs (x3 + (1 : Int32)).toNatClampNeg) (xs (x3 + (2 : Int32)).toNatClampNeg) pk fL tk (fun (r523 : Int32) (fL_523 : (Nat → Int32)) => (vp_in (x3 + (1 : Int32)) L ∧ (vp_in (x3 + (2 : Int32)) L ∧ wp_X3_put (xs (x3 + (1 : Int32)).toNatClampNeg) (xs (x3 + (2 : Int32)).toNatClampNeg) mk mp fMB (fun (r537 : Int32) (fMB_537 : (Nat → Int32)) => ((r523 = r537 → (∀ v758 : Int32, v758 = x3 + (4 : Int32) → P18 v758 pk fL_523 fN tk fB fWK fRE fY fZ mk mp fMM fML fMY fMT fMR fMB_537 fMN)) ∧ (¬ r523 = r537 → post (0 : Int32) pk fL_523 fN tk fB fWK fRE fY fZ mk mp fMM fML fMY fMT fMR fMB_537 fMN))))))))) ∧ (((xs x3.toNatClampNeg) &&& (31 : Int32)) = (15 : Int32) → (vp_in (x3 + (1 : Int32)) L ∧ wp_X2_at (xs (x3 + (1 : Int32)).toNatClampNeg) pk fL (fun (r551 : Int32) => (vp_in (x3 + (1 : Int32)) L ∧ wp_X3_at (xs (x3 + (1 : Int32)).toNatClampNeg) mk mp fMB (fun (r560 : Int32) => ((r551 = r560 → (∀ v758 : Int32, v758 = x3 + (4 : Int32) → P18 v758 pk fL fN tk fB fWK fRE fY fZ mk mp fMM fML fMY fMT fMR fMB fMN)) ∧ (¬ r551 = r560 → post (0 : Int32) pk fL fN tk fB fWK fRE fY fZ mk mp fMM fML fMY fMT fMR fMB fMN))))))) ∧ (((xs x3.toNatClampNeg) &&& (31 : Int32)) = (16 : Int32) → wp_X2_faults pk fL tk fB (fun (r569 : Int32) => wp_X3_faults mk mp fMM fMB (fun (r573 : Int32) => ((r569 = r573 → (∀ v758 : Int32, v758 = x3 + (4 : Int32) → P18 v758 pk fL fN tk fB fWK fRE fY fZ mk mp fMM fML fMY fMT fMR fMB fMN)) ∧ (¬ r569 = r573 → post (0 : Int32) pk fL fN tk fB fWK fRE fY fZ mk mp fMM fML fMY fMT fMR fMB fMN))))) ∧ (((xs x3.toNatClampNeg) &&& (31 : Int32)) = (17 : Int32) → (vp_in (x3 + (1 : Int32)) L ∧ wp_X2_fault (xs (x3 + (1 : Int32)).toNatClampNeg) pk fL tk fB (fun (r587 : Int32) => (vp_in (x3 + (1 : Int32)) L ∧ wp_X3_fault (xs (x3 + (1 : Int32)).toNatClampNeg) mk mp fMM fMB (fun (r596 : Int32) => ((r587 = r596 → (∀ v758 : Int32, v758 = x3 + (4 : Int32) → P18 v758 pk fL fN tk fB fWK fRE fY fZ mk mp fMM fML fMY fMT fMR fMB fMN)) ∧ (¬ r587 = r596 → post (0 : Int32) pk fL fN tk fB fWK fRE fY fZ mk mp fMM fML fMY fMT fMR fMB fMN))))))) ∧ (((xs x3.toNatClampNeg) &&& (31 : Int32)) = (18 : Int32) → (vp_in (x3 + (1 : Int32)) L ∧ wp_X2_mend (xs (x3 + (1 : Int32)).toNatClampNeg) pk fL tk fB fWK fRE (fun (r610 : Int32) (fL_610 : (Nat → Int32)) (fWK_610 : (Nat → Int32)) (fRE_610 : (Nat → Int32)) => (vp_in (x3 + (1 : Int32)) L ∧ wp_X3_mend (xs (x3 + (1 : Int32)).toNatClampNeg) mk mp fMM fML fMR fMB (fun (r619 : Int32) (fML_619 : (Nat → Int64)) (fMR_619 : (Nat → Int32)) (fMB_619 : (Nat → Int32)) => ((r610 = r619 → (∀ v758 : Int32, v758 = x3 + (4 : Int32) → P18 v758 pk fL_610 fN tk fB fWK_610 fRE_610 fY fZ mk mp fMM fML_619 fMY fMT fMR_619 fMB_619 fMN)) ∧ (¬ r610 = r619 → post (0 : Int32) pk fL_610 fN tk fB fWK_610 fRE_610 fY fZ mk mp fMM fML_619 fMY fMT fMR_619 fMB_619 fMN))))))) ∧ (((xs x3.toNatClampNeg) &&& (31 : Int32)) = (19 : Int32) → wp_X2_fresh pk fL tk fB fWK fRE (fun (r628 : Int32) (fL_628 : (Nat → Int32)) (fWK_628 : (Nat → Int32)) (fRE_628 : (Nat → Int32)) => wp_X3_fresh mk mp fMM fML fMR fMB (fun (r632 : Int32) (fML_632 : (Nat → Int64)) (fMR_632 : (Nat → Int32)) (fMB_632 : (Nat → Int32)) => ((r628 = r632 → (∀ v758 : Int32, v758 = x3 + (4 : Int32) → P18 v758 pk fL_628 fN tk fB fWK_628 fRE_628 fY fZ mk mp fMM fML_632 fMY fMT fMR_632 fMB_632 fMN)) ∧ (¬ r628 = r632 → post (0 : Int32) pk fL_628 fN tk fB fWK_628 fRE_628 fY fZ mk mp fMM fML_632 fMY fMT fMR_632 fMB_632 fMN))))) ∧ (((xs x3.toNatClampNeg) &&& (31 : Int32)) = (20 : Int32) → (vp_in (x3 + (1 : Int32)) L ∧ (vp_in (x3 + (2 : Int32)) L ∧ wp_X2_number (xs (x3 + (1 : Int32)).toNatClampNeg) (xs (x3 + (2 : Int32)).toNatClampNeg) pk fN (fun (r651 : Int32) (fN_651 : (Nat → Int32)) => (vp_in (x3 + (1 : Int32)) L ∧ (vp_in (x3 + (2 : Int32)) L ∧ wp_X3_number (xs (x3 + (1 : Int32)).toNatClampNeg) (xs (x3 + (2 : Int32)).toNatClampNeg) mk mp fMN (fun (r665 : Int32) (fMN_665 : (Nat → Int32)) => ((r651 = r665 → (∀ v758 : Int32, v758 = x3 + (4 : Int32) → P18 v758 pk fL fN_651 tk fB fWK fRE fY fZ mk mp fMM fML fMY fMT fMR fMB fMN_665)) ∧ (¬ r651 = r665 → post (0 : Int32) pk fL fN_651 tk fB fWK fRE fY fZ mk mp fMM fML fMY fMT fMR fMB fMN_665))))))))) ∧ (((xs x3.toNatClampNeg) &&& (31 : Int32)) = (21 : Int32) → (vp_in (x3 + (1 : Int32)) L ∧ wp_X2_told (xs (x3 + (1 : Int32)).toNatClampNeg) pk fN (fun (r679 : Int32) => (vp_in (x3 + (1 : Int32)) L ∧ wp_X3_told (xs (x3 + (1 : Int32)).toNatClampNeg) mk mp fMN (fun (r688 : Int32) => ((r679 = r688 → (∀ v758 : Int32, v758 = x3 + (4 : Int32) → P18 v758 pk fL fN tk fB fWK fRE fY fZ mk mp fMM fML fMY fMT fMR fMB fMN)) ∧ (¬ r679 = r688 → post (0 : Int32) pk fL fN tk fB fWK fRE fY fZ mk mp fMM fML fMY fMT fMR fMB fMN))))))) ∧ (((xs x3.toNatClampNeg) &&& (31 : Int32)) = (22 : Int32) → wp_X2_round pk fN (fun (r697 : Int32) (fN_697 : (Nat → Int32)) => wp_X3_round mk mp fMR fMN (fun (r701 : Int32) (fMR_701 : (Nat → Int32)) (fMN_701 : (Nat → Int32)) => ((r697 = r701 → (∀ v758 : Int32, v758 = x3 + (4 : Int32) → P18 v758 pk fL fN_697 tk fB fWK fRE fY fZ mk mp fMM fML fMY fMT fMR_701 fMB fMN_701)) ∧ (¬ r697 = r701 → post (0 : Int32) pk fL fN_697 tk fB fWK fRE fY fZ mk mp fMM fML fMY fMT fMR_701 fMB fMN_701))))) ∧ (((xs x3.toNatClampNeg) &&& (31 : Int32)) = (23 : Int32) → wp_X2_colours pk fN (fun (r710 : Int32) (fN_710 : (Nat → Int32)) => wp_X3_colours mk mp fMR fMN (fun (r714 : Int32) (fMR_714 : (Nat → Int32)) (fMN_714 : (Nat → Int32)) => ((r710 = r714 → (∀ v758 : Int32, v758 = x3 + (4 : Int32) → P18 v758 pk fL fN_710 tk fB fWK fRE fY fZ mk mp fMM fML fMY fMT fMR_714 fMB fMN_714)) ∧ (¬ r710 = r714 → post (0 : Int32) pk fL fN_710 tk fB fWK fRE fY fZ mk mp fMM fML fMY fMT fMR_714 fMB fMN_714))))) ∧ (((xs x3.toNatClampNeg) &&& (31 : Int32)) = (24 : Int32) → wp_X2_take pk fL fN tk (fun (r723 : Int32) (fL_723 : (Nat → Int32)) => wp_X3_take mk mp fMB fMN (fun (r727 : Int32) (fMB_727 : (Nat → Int32)) => ((r723 = r727 → (∀ v758 : Int32, v758 = x3 + (4 : Int32) → P18 v758 pk fL_723 fN tk fB fWK fRE fY fZ mk mp fMM fML fMY fMT fMR fMB_727 fMN)) ∧ (¬ r723 = r727 → post (0 : Int32) pk fL_723 fN tk fB fWK fRE fY fZ mk mp fMM fML fMY fMT fMR fMB_727 fMN))))) ∧ (((xs x3.toNatClampNeg) &&& (31 : Int32)) = (25 : Int32) → (vp_in (x3 + (1 : Int32)) L ∧ wp_X2_count (xs (x3 + (1 : Int32)).toNatClampNeg) pk fL fN tk fB (fun (r741 : Int32) => (vp_in (x3 + (1 : Int32)) L ∧ wp_X3_count (xs (x3 + (1 : Int32)).toNatClampNeg) mk mp fMM fMB fMN (fun (r750 : Int32) => ((r741 = r750 → (∀ v758 : Int32, v758 = x3 + (4 : Int32) → P18 v758 pk fL fN tk fB fWK fRE fY fZ mk mp fMM fML fMY fMT fMR fMB fMN)) ∧ (¬ r741 = r750 → post (0 : Int32) pk fL fN tk fB fWK fRE fY fZ mk mp fMM fML fMY fMT fMR fMB fMN))))))))))) → P18 x3 pk fL fN tk fB fWK fRE fY fZ mk mp fMM fML fMY fMT fMR fMB fMN) → P18 x3 pk fL fN tk fB fWK fRE fY fZ mk mp fMM fML fMY fMT fMR fMB fMN
set_option maxHeartbeats 8000000 in
set_option maxRecDepth 100000 in
theorem k_law {p : Program} {l : Launch} {e : Env} {s : State} {m : MethodId} {below : List Frame} {meth : Method} {c : Code} {Q : State → Prop} {A : Nat → Prop} {dC : Nat → ClassId} {dI : Nat → Nat → Nat} {cI cJ cZ : ClassId} {aS L : Nat} {xs : Nat → Int32} (hx : p.tables.exec = Jvm.exec) (hb : c.code = cL_law) (hml : c.maxLocals = 4) (hown : s.vm.findClass RL = some m.cls) (hts : ∀ w ∈ wsL_law, w.before #[Value.ref aS] s = true) (hK : va_K (dC, dI) vwCl (mTy cI cJ cZ) s) (hA : ∀ q, s.heap.size ≤ q → A q) (hX : va_X aS L xs s s.heap) (hbl : aS < s.heap.size) (hbA : ¬ A aS) {aR aT aP aL aN aB aWK aRE aY aZ aM aMM aML aMY aMT aMR aMB aMN : Nat} {pk : Int32} {fL : (Nat → Int32)} {fN : (Nat → Int32)} {tk : Int32} {fB : (Nat → Int32)} {fWK : (Nat → Int32)} {fRE : (Nat → Int32)} {fY : (Nat → Int64)} {fZ : (Nat → Int64)} {mk : Int32} {mp : Int32} {fMM : (Nat → Int32)} {fML : (Nat → Int64)} {fMY : (Nat → Int64)} {fMT : (Nat → Int64)} {fMR : (Nat → Int32)} {fMB : (Nat → Int32)} {fMN : (Nat → Int32)} {x3 : Int32} {post : Int32 → Int32 → (Nat → Int32) → (Nat → Int32) → Int32 → (Nat → Int32) → (Nat → Int32) → (Nat → Int32) → (Nat → Int64) → (Nat → Int64) → Int32 → Int32 → (Nat → Int32) → (Nat → Int64) → (Nat → Int64) → (Nat → Int64) → (Nat → Int32) → (Nat → Int32) → (Nat → Int32) → Prop} (ret : ∀ (r : Int32) (pk' : Int32) (fL' : (Nat → Int32)) (fN' : (Nat → Int32)) (tk' : Int32) (fB' : (Nat → Int32)) (fWK' : (Nat → Int32)) (fRE' : (Nat → Int32)) (fY' : (Nat → Int64)) (fZ' : (Nat → Int64)) (mk' : Int32) (mp' : Int32) (fMM' : (Nat → Int32)) (fML' : (Nat → Int64)) (fMY' : (Nat → Int64)) (fMT' : (Nat → Int64)) (fMR' : (Nat → Int32)) (fMB' : (Nat → Int32)) (fMN' : (Nat → Int32)) (H : Heap) (locs : List Loc) (ls : Array Slot) (pc : Nat), decode cL_law pc = .ok (.ireturn, 1) → (r = 0 ∨ r = 1) → post r pk' fL' fN' tk' fB' fWK' fRE' fY' fZ' mk' mp' fMM' fML' fMY' fMT' fMR' fMB' fMN' → va_P (dC, dI) vwCl [oR aR aT aP, oP aP aL aN pk', aI aL cI 60 fL', aI aN cI 60 fN', oT aT aB aWK aRE aY aZ tk', aI aB cI 6 fB', aI aWK cI 61 fWK', aI aRE cI 61 fRE', aJ aY cJ 6 fY', aJ aZ cJ 6 fZ', oM aM aMM aML aMY aMT aMR aMB aMN mk' mp', aI aMM cZ 36 fMM', aJ aML cJ 61 fML', aJ aMY cJ 6 fMY', aJ aMT cJ 6 fMT', aI aMR cI 60 fMR', aI aMB cI 60 fMB', aI aMN cI 60 fMN'] H → va_D A [oR aR aT aP, oP aP aL aN pk', aI aL cI 60 fL', aI aN cI 60 fN', oT aT aB aWK aRE aY aZ tk', aI aB cI 6 fB', aI aWK cI 61 fWK', aI aRE cI 61 fRE', aJ aY cJ 6 fY', aJ aZ cJ 6 fZ', oM aM aMM aML aMY aMT aMR aMB aMN mk' mp', aI aMM cZ 36 fMM', aJ aML cJ 61 fML', aJ aMY cJ 6 fMY', aJ aMT cJ 6 fMT', aI aMR cI 60 fMR', aI aMB cI 60 fMB', aI aMN cI 60 fMN'] → va_S A s.heap H locs → W p l e room_1 s m #[Value.ref aS] below meth c H locs 18 569 Q (F0 m pc ls [.int r])) (h : wp_L_law_b18 x3 L xs pk fL fN tk fB fWK fRE fY fZ mk mp fMM fML fMY fMT fMR fMB fMN post) : mW p l e room_1 s m #[Value.ref aS] below meth c 18 569 Q A (dC, dI) 4 [oR aR aT aP, oP aP aL aN pk, aI aL cI 60 fL, aI aN cI 60 fN, oT aT aB aWK aRE aY aZ tk, aI aB cI 6 fB, aI aWK cI 61 fWK, aI aRE cI 61 fRE, aJ aY cJ 6 fY, aJ aZ cJ 6 fZ, oM aM aMM aML aMY aMT aMR aMB aMN mk mp, aI aMM cZ 36 fMM, aJ aML cJ 61 fML, aJ aMY cJ 6 fMY, aJ aMT cJ 6 fMT, aI aMR cI 60 fMR, aI aMB cI 60 fMB, aI aMN cI 60 fMN] [(0, .ref aS), (1, .ref aR), (2, .ref aM), (3, .int x3)] 18 [] := by
  have B226 : ∀ (x3 : Int32) (z0 : Int32) (z1 : Int32) (z2 : Int32) (z4 : Int32) (pk : Int32) (fL : (Nat → Int32)) (fN : (Nat → Int32)) (tk : Int32) (fB : (Nat → Int32)) (fWK : (Nat → Int32)) (fRE : (Nat → Int32)) (fY : (Nat → Int64)) (fZ : (Nat → Int64)) (mk : Int32) (mp : Int32) (fMM : (Nat → Int32)) (fML : (Nat → Int64)) (fMY : (Nat → Int64)) (fMT : (Nat → Int64)) (fMR : (Nat → Int32)) (fMB : (Nat → Int32)) (fMN : (Nat → Int32)), ∀ (P18 : Int32 → Int32 → (Nat → Int32) → (Nat → Int32) → Int32 → (Nat → Int32) → (Nat → Int32) → (Nat → Int32) → (Nat → Int64) → (Nat → Int64) → Int32 → Int32 → (Nat → Int32) → (Nat → Int64) → (Nat → Int64) → (Nat → Int64) → (Nat → Int32) → (Nat → Int32) → (Nat → Int32) → Prop) (hP18 : ∀ (x3 : Int32) (pk : Int32) (fL : (Nat → Int32)) (fN : (Nat → Int32)) (tk : Int32) (fB : (Nat → Int32)) (fWK : (Nat → Int32)) (fRE : (Nat → Int32)) (fY : (Nat → Int64)) (fZ : (Nat → Int64)) (mk : Int32) (mp : Int32) (fMM : (Nat → Int32)) (fML : (Nat → Int64)) (fMY : (Nat → Int64)) (fMT : (Nat → Int64)) (fMR : (Nat → Int32)) (fMB : (Nat → Int32)) (fMN : (Nat → Int32)), P18 x3 pk fL fN tk fB fWK fRE fY fZ mk mp fMM fML fMY fMT fMR fMB fMN → mW p l e room_1 s m #[Value.ref aS] below meth c 18 569 Q A (dC, dI) 4 [oR aR aT aP, oP aP aL aN pk, aI aL cI 60 fL, aI aN cI 60 fN, oT aT aB aWK aRE aY aZ tk, aI aB cI 6 fB, aI aWK cI 61 fWK, aI aRE cI 61 fRE, aJ aY cJ 6 fY, aJ aZ cJ 6 fZ, oM aM aMM aML aMY aMT aMR aMB aMN mk mp, aI aMM cZ 36 fMM, aJ aML cJ 61 fML, aJ aMY cJ 6 fMY, aJ aMT cJ 6 fMT, aI aMR cI 60 fMR, aI aMB cI 60 fMB, aI aMN cI 60 fMN] [(0, .ref aS), (1, .ref aR), (2, .ref aM), (3, .int x3)] 18 []), wp_L_law_b226 x3 z0 z1 z2 z4 L xs pk fL fN tk fB fWK fRE fY fZ mk mp fMM fML fMY fMT fMR fMB fMN post P18 → mW p l e room_1 s m #[Value.ref aS] below meth c 18 569 Q A (dC, dI) 4 [oR aR aT aP, oP aP aL aN pk, aI aL cI 60 fL, aI aN cI 60 fN, oT aT aB aWK aRE aY aZ tk, aI aB cI 6 fB, aI aWK cI 61 fWK, aI aRE cI 61 fRE, aJ aY cJ 6 fY, aJ aZ cJ 6 fZ, oM aM aMM aML aMY aMT aMR aMB aMN mk mp, aI aMM cZ 36 fMM, aJ aML cJ 61 fML, aJ aMY cJ 6 fMY, aJ aMT cJ 6 fMT, aI aMR cI 60 fMR, aI aMB cI 60 fMB, aI aMN cI 60 fMN] [(0, .ref aS), (1, .ref aR), (2, .ref aM), (3, .int x3)] 226 [.int z0, .int z1, .int z2, .ref aM, .int z4] := by
    intro x3 z0 z1 z2 z4 pk fL fN tk fB fWK fRE fY fZ mk mp fMM fML fMY fMT fMR fMB fMN P18 hP18 h
    unfold wp_L_law_b226 at h
    intro H locs ls hP hD hS hl
    refine mVi (wr := [oR aR aT aP, oP aP aL aN pk, aI aL cI 60 fL, aI aN cI 60 fN, oT aT aB aWK aRE aY aZ tk, aI aB cI 6 fB, aI aWK cI 61 fWK, aI aRE cI 61 fRE, aJ aY cJ 6 fY, aJ aZ cJ 6 fZ, aJ aML cJ 61 fML, aJ aMY cJ 6 fMY, aJ aMT cJ 6 fMT, aI aMR cI 60 fMR, aI aMB cI 60 fMB, aI aMN cI 60 fMN]) (As := [.int z2, .int z1, .int z0]) (rest := [.int z4]) ⟨hx, hb, hml, hown, hts⟩ (c_X3_allow (l := l) (dC := dC) (dI := dI) (cI := cI) (cJ := cJ) (cZ := cZ) (aM := aM) (aMM := aMM) (aML := aML) (aMY := aMY) (aMT := aMT) (aMR := aMR) (aMB := aMB) (aMN := aMN) h) (cwV 3 hts gL_law_X3_allow rfl rfl rfl hv_X3_allow ⟨Nat.le_of_ble_eq_true rfl, Nat.le_of_ble_eq_true rfl⟩) hK hP hD hS hA [10, 11] [0, 1, 2, 3, 4, 5, 6, 7, 8, 9, 12, 13, 14, 15, 16, 17] rfl rfl rfl rfl (by decide) 3 rfl rfl rfl rfl hl.1 rfl (Nat.le_of_ble_eq_true rfl) ⟨Nat.le_of_ble_eq_true rfl, Nat.le_of_ble_eq_true rfl⟩ dL_law_226 (fun r226 fMM_226 H locs h hP hD hS => ?_)
    have hP : va_P (dC, dI) vwCl [oR aR aT aP, oP aP aL aN pk, aI aL cI 60 fL, aI aN cI 60 fN, oT aT aB aWK aRE aY aZ tk, aI aB cI 6 fB, aI aWK cI 61 fWK, aI aRE cI 61 fRE, aJ aY cJ 6 fY, aJ aZ cJ 6 fZ, oM aM aMM aML aMY aMT aMR aMB aMN mk mp, aI aMM cZ 36 fMM_226, aJ aML cJ 61 fML, aJ aMY cJ 6 fMY, aJ aMT cJ 6 fMT, aI aMR cI 60 fMR, aI aMB cI 60 fMB, aI aMN cI 60 fMN] H := hP.sub [0, 1, 2, 3, 4, 5, 6, 7, 8, 9, 16, 17, 10, 11, 12, 13, 14, 15] rfl
    have hD : va_D A [oR aR aT aP, oP aP aL aN pk, aI aL cI 60 fL, aI aN cI 60 fN, oT aT aB aWK aRE aY aZ tk, aI aB cI 6 fB, aI aWK cI 61 fWK, aI aRE cI 61 fRE, aJ aY cJ 6 fY, aJ aZ cJ 6 fZ, oM aM aMM aML aMY aMT aMR aMB aMN mk mp, aI aMM cZ 36 fMM_226, aJ aML cJ 61 fML, aJ aMY cJ 6 fMY, aJ aMT cJ 6 fMT, aI aMR cI 60 fMR, aI aMB cI 60 fMB, aI aMN cI 60 fMN] := hD.sub [0, 1, 2, 3, 4, 5, 6, 7, 8, 9, 16, 17, 10, 11, 12, 13, 14, 15] rfl rfl
    refine lv_icmp_eq (tgt := 758) hx hb dL_law_229 (by decide) (fun q229 => ?_) (fun q229 => ?_)
    · have h := h.1 q229
      obtain ⟨v758, ev758⟩ : ∃ y : Int32, y = x3 + (4 : Int32) := ⟨_, rfl⟩
      have h := h v758 ev758
      refine lv_iinc (v := v758) (lv' := [(3, .int v758), (0, .ref aS), (1, .ref aR), (2, .ref aM)]) hx hb dL_law_758 hl (k := 3) rfl (by rw [ev758]; rfl) (by decide) rfl (fun ls hl => ?_)
      refine lv_goto (tgt := 18) hx hb dL_law_761 (by decide) ?_
      exact hP18 _ _ _ _ _ _ _ _ _ _ _ _ _ _ _ _ _ _ _ h H locs ls hP hD hS (lv_sub hl [1, 2, 3, 0] rfl)
    · have h := h.2 q229
      refine lv_iconst (v := 0) hx hb dL_law_232 (by decide) ?_
      exact ret _ _ _ _ _ _ _ _ _ _ _ _ _ _ _ _ _ _ _ H locs ls _ dL_law_233 (Or.inl rfl) h hP hD hS
  have B199 : ∀ (x3 : Int32) (z0 : Int32) (z1 : Int32) (z2 : Int32) (pk : Int32) (fL : (Nat → Int32)) (fN : (Nat → Int32)) (tk : Int32) (fB : (Nat → Int32)) (fWK : (Nat → Int32)) (fRE : (Nat → Int32)) (fY : (Nat → Int64)) (fZ : (Nat → Int64)) (mk : Int32) (mp : Int32) (fMM : (Nat → Int32)) (fML : (Nat → Int64)) (fMY : (Nat → Int64)) (fMT : (Nat → Int64)) (fMR : (Nat → Int32)) (fMB : (Nat → Int32)) (fMN : (Nat → Int32)), ∀ (P18 : Int32 → Int32 → (Nat → Int32) → (Nat → Int32) → Int32 → (Nat → Int32) → (Nat → Int32) → (Nat → Int32) → (Nat → Int64) → (Nat → Int64) → Int32 → Int32 → (Nat → Int32) → (Nat → Int64) → (Nat → Int64) → (Nat → Int64) → (Nat → Int32) → (Nat → Int32) → (Nat → Int32) → Prop) (hP18 : ∀ (x3 : Int32) (pk : Int32) (fL : (Nat → Int32)) (fN : (Nat → Int32)) (tk : Int32) (fB : (Nat → Int32)) (fWK : (Nat → Int32)) (fRE : (Nat → Int32)) (fY : (Nat → Int64)) (fZ : (Nat → Int64)) (mk : Int32) (mp : Int32) (fMM : (Nat → Int32)) (fML : (Nat → Int64)) (fMY : (Nat → Int64)) (fMT : (Nat → Int64)) (fMR : (Nat → Int32)) (fMB : (Nat → Int32)) (fMN : (Nat → Int32)), P18 x3 pk fL fN tk fB fWK fRE fY fZ mk mp fMM fML fMY fMT fMR fMB fMN → mW p l e room_1 s m #[Value.ref aS] below meth c 18 569 Q A (dC, dI) 4 [oR aR aT aP, oP aP aL aN pk, aI aL cI 60 fL, aI aN cI 60 fN, oT aT aB aWK aRE aY aZ tk, aI aB cI 6 fB, aI aWK cI 61 fWK, aI aRE cI 61 fRE, aJ aY cJ 6 fY, aJ aZ cJ 6 fZ, oM aM aMM aML aMY aMT aMR aMB aMN mk mp, aI aMM cZ 36 fMM, aJ aML cJ 61 fML, aJ aMY cJ 6 fMY, aJ aMT cJ 6 fMT, aI aMR cI 60 fMR, aI aMB cI 60 fMB, aI aMN cI 60 fMN] [(0, .ref aS), (1, .ref aR), (2, .ref aM), (3, .int x3)] 18 []), wp_L_law_b199 x3 z0 z1 z2 L xs pk fL fN tk fB fWK fRE fY fZ mk mp fMM fML fMY fMT fMR fMB fMN post P18 → mW p l e room_1 s m #[Value.ref aS] below meth c 18 569 Q A (dC, dI) 4 [oR aR aT aP, oP aP aL aN pk, aI aL cI 60 fL, aI aN cI 60 fN, oT aT aB aWK aRE aY aZ tk, aI aB cI 6 fB, aI aWK cI 61 fWK, aI aRE cI 61 fRE, aJ aY cJ 6 fY, aJ aZ cJ 6 fZ, oM aM aMM aML aMY aMT aMR aMB aMN mk mp, aI aMM cZ 36 fMM, aJ aML cJ 61 fML, aJ aMY cJ 6 fMY, aJ aMT cJ 6 fMT, aI aMR cI 60 fMR, aI aMB cI 60 fMB, aI aMN cI 60 fMN] [(0, .ref aS), (1, .ref aR), (2, .ref aM), (3, .int x3)] 199 [.int z0, .int z1, .int z2, .ref aR] := by
    intro x3 z0 z1 z2 pk fL fN tk fB fWK fRE fY fZ mk mp fMM fML fMY fMT fMR fMB fMN P18 hP18 h
    unfold wp_L_law_b199 at h
    intro H locs ls hP hD hS hl
    refine mVi (wr := [oP aP aL aN pk, aI aL cI 60 fL, aI aN cI 60 fN, aI aWK cI 61 fWK, aI aRE cI 61 fRE, aJ aY cJ 6 fY, aJ aZ cJ 6 fZ, oM aM aMM aML aMY aMT aMR aMB aMN mk mp, aI aMM cZ 36 fMM, aJ aML cJ 61 fML, aJ aMY cJ 6 fMY, aJ aMT cJ 6 fMT, aI aMR cI 60 fMR, aI aMB cI 60 fMB, aI aMN cI 60 fMN]) (As := [.int z2, .int z1, .int z0]) (rest := []) ⟨hx, hb, hml, hown, hts⟩ (c_X2_allow (l := l) (dC := dC) (dI := dI) (cI := cI) (cJ := cJ) (cZ := cZ) (aR := aR) (aT := aT) (aP := aP) (aB := aB) (aWK := aWK) (aRE := aRE) (aY := aY) (aZ := aZ) h) (cwV 3 hts gL_law_X2_allow rfl rfl rfl hv_X2_allow ⟨Nat.le_of_ble_eq_true rfl, Nat.le_of_ble_eq_true rfl⟩) hK hP hD hS hA [0, 4, 5] [1, 2, 3, 6, 7, 8, 9, 10, 11, 12, 13, 14, 15, 16, 17] rfl rfl rfl rfl (by decide) 2 rfl rfl rfl rfl hl.1 rfl (Nat.le_of_ble_eq_true rfl) ⟨Nat.le_of_ble_eq_true rfl, Nat.le_of_ble_eq_true rfl⟩ dL_law_199 (fun r199 fB_199 H locs h hP hD hS => ?_)
    have hP : va_P (dC, dI) vwCl [oR aR aT aP, oP aP aL aN pk, aI aL cI 60 fL, aI aN cI 60 fN, oT aT aB aWK aRE aY aZ tk, aI aB cI 6 fB_199, aI aWK cI 61 fWK, aI aRE cI 61 fRE, aJ aY cJ 6 fY, aJ aZ cJ 6 fZ, oM aM aMM aML aMY aMT aMR aMB aMN mk mp, aI aMM cZ 36 fMM, aJ aML cJ 61 fML, aJ aMY cJ 6 fMY, aJ aMT cJ 6 fMT, aI aMR cI 60 fMR, aI aMB cI 60 fMB, aI aMN cI 60 fMN] H := hP.sub [15, 0, 1, 2, 16, 17, 3, 4, 5, 6, 7, 8, 9, 10, 11, 12, 13, 14] rfl
    have hD : va_D A [oR aR aT aP, oP aP aL aN pk, aI aL cI 60 fL, aI aN cI 60 fN, oT aT aB aWK aRE aY aZ tk, aI aB cI 6 fB_199, aI aWK cI 61 fWK, aI aRE cI 61 fRE, aJ aY cJ 6 fY, aJ aZ cJ 6 fZ, oM aM aMM aML aMY aMT aMR aMB aMN mk mp, aI aMM cZ 36 fMM, aJ aML cJ 61 fML, aJ aMY cJ 6 fMY, aJ aMT cJ 6 fMT, aI aMR cI 60 fMR, aI aMB cI 60 fMB, aI aMN cI 60 fMN] := hD.sub [15, 0, 1, 2, 16, 17, 3, 4, 5, 6, 7, 8, 9, 10, 11, 12, 13, 14] rfl rfl
    refine lv_aload_n hx hb dL_law_202 rfl (lv_at hl 2 rfl) ?_
    refine lv_aload_n hx hb dL_law_203 rfl (lv_at hl 0 rfl) ?_
    refine lv_iload_n hx hb dL_law_204 rfl (lv_at hl 3 rfl) ?_
    refine lv_iconst (v := 1) hx hb dL_law_205 (by decide) ?_
    refine lv_iadd hx hb dL_law_206 ?_
    refine va_sld hx hb hX hbl hbA hS h.1 dL_law_207 ?_
    have h := h.2
    refine lv_aload_n hx hb dL_law_208 rfl (lv_at hl 0 rfl) ?_
    refine lv_iload_n hx hb dL_law_209 rfl (lv_at hl 3 rfl) ?_
    refine lv_iconst (v := 2) hx hb dL_law_210 (by decide) ?_
    refine lv_iadd hx hb dL_law_211 ?_
    refine va_sld hx hb hX hbl hbA hS h.1 dL_law_212 ?_
    have h := h.2
    refine lv_aload_n hx hb dL_law_213 rfl (lv_at hl 0 rfl) ?_
    refine lv_iload_n hx hb dL_law_214 rfl (lv_at hl 3 rfl) ?_
    refine lv_iconst (v := 3) hx hb dL_law_215 (by decide) ?_
    refine lv_iadd hx hb dL_law_216 ?_
    refine va_sld hx hb hX hbl hbA hS h.1 dL_law_217 ?_
    have h := h.2
    refine lv_if_eq (tgt := 225) hx hb dL_law_218 (by decide) (fun q218 => ?_) (fun q218 => ?_)
    · have h := h.1 q218
      refine lv_iconst (v := 0) hx hb dL_law_225 (by decide) ?_
      exact B226 _ _ _ _ _ _ _ _ _ _ _ _ _ _ _ _ _ _ _ _ _ _ _ _ hP18 h H locs ls hP hD hS (lv_sub hl [0, 1, 2, 3] rfl)
    · have h := h.2 q218
      refine lv_iconst (v := 1) hx hb dL_law_221 (by decide) ?_
      refine lv_goto (tgt := 226) hx hb dL_law_222 (by decide) ?_
      exact B226 _ _ _ _ _ _ _ _ _ _ _ _ _ _ _ _ _ _ _ _ _ _ _ _ hP18 h H locs ls hP hD hS (lv_sub hl [0, 1, 2, 3] rfl)
  have B18 : ∀ (x3 : Int32) (pk : Int32) (fL : (Nat → Int32)) (fN : (Nat → Int32)) (tk : Int32) (fB : (Nat → Int32)) (fWK : (Nat → Int32)) (fRE : (Nat → Int32)) (fY : (Nat → Int64)) (fZ : (Nat → Int64)) (mk : Int32) (mp : Int32) (fMM : (Nat → Int32)) (fML : (Nat → Int64)) (fMY : (Nat → Int64)) (fMT : (Nat → Int64)) (fMR : (Nat → Int32)) (fMB : (Nat → Int32)) (fMN : (Nat → Int32)), wp_L_law_b18 x3 L xs pk fL fN tk fB fWK fRE fY fZ mk mp fMM fML fMY fMT fMR fMB fMN post → mW p l e room_1 s m #[Value.ref aS] below meth c 18 569 Q A (dC, dI) 4 [oR aR aT aP, oP aP aL aN pk, aI aL cI 60 fL, aI aN cI 60 fN, oT aT aB aWK aRE aY aZ tk, aI aB cI 6 fB, aI aWK cI 61 fWK, aI aRE cI 61 fRE, aJ aY cJ 6 fY, aJ aZ cJ 6 fZ, oM aM aMM aML aMY aMT aMR aMB aMN mk mp, aI aMM cZ 36 fMM, aJ aML cJ 61 fML, aJ aMY cJ 6 fMY, aJ aMT cJ 6 fMT, aI aMR cI 60 fMR, aI aMB cI 60 fMB, aI aMN cI 60 fMN] [(0, .ref aS), (1, .ref aR), (2, .ref aM), (3, .int x3)] 18 [] := by
    intro x3 pk fL fN tk fB fWK fRE fY fZ mk mp fMM fML fMY fMT fMR fMB fMN h
    unfold wp_L_law_b18 at h
    refine h (fun (x3 : Int32) (pk : Int32) (fL : (Nat → Int32)) (fN : (Nat → Int32)) (tk : Int32) (fB : (Nat → Int32)) (fWK : (Nat → Int32)) (fRE : (Nat → Int32)) (fY : (Nat → Int64)) (fZ : (Nat → Int64)) (mk : Int32) (mp : Int32) (fMM : (Nat → Int32)) (fML : (Nat → Int64)) (fMY : (Nat → Int64)) (fMT : (Nat → Int64)) (fMR : (Nat → Int32)) (fMB : (Nat → Int32)) (fMN : (Nat → Int32)) => mW p l e room_1 s m #[Value.ref aS] below meth c 18 569 Q A (dC, dI) 4 [oR aR aT aP, oP aP aL aN pk, aI aL cI 60 fL, aI aN cI 60 fN, oT aT aB aWK aRE aY aZ tk, aI aB cI 6 fB, aI aWK cI 61 fWK, aI aRE cI 61 fRE, aJ aY cJ 6 fY, aJ aZ cJ 6 fZ, oM aM aMM aML aMY aMT aMR aMB aMN mk mp, aI aMM cZ 36 fMM, aJ aML cJ 61 fML, aJ aMY cJ 6 fMY, aJ aMT cJ 6 fMT, aI aMR cI 60 fMR, aI aMB cI 60 fMB, aI aMN cI 60 fMN] [(0, .ref aS), (1, .ref aR), (2, .ref aM), (3, .int x3)] 18 []) ?_
    intro x3 pk fL fN tk fB fWK fRE fY fZ mk mp fMM fML fMY fMT fMR fMB fMN h
    intro H locs ls hP hD hS hl
    refine lv_iload_n hx hb dL_law_18 rfl (lv_at hl 3 rfl) ?_
    refine lv_aload_n hx hb dL_law_19 rfl (lv_at hl 0 rfl) ?_
    refine va_slen hx hb hX hbl hbA hS dL_law_20 ?_
    refine lv_iconst (v := 4) hx hb dL_law_21 (by decide) ?_
    refine lv_isub hx hb dL_law_22 ?_
    refine lv_icmp_gt (tgt := 764) hx hb dL_law_23 (by decide) (fun q23 => ?_) (fun q23 => ?_)
    · have h := h.1 q23
      refine lv_iconst (v := 1) hx hb dL_law_764 (by decide) ?_
      exact ret _ _ _ _ _ _ _ _ _ _ _ _ _ _ _ _ _ _ _ H locs ls _ dL_law_765 (Or.inr rfl) h hP hD hS
    · have h := h.2 q23
      refine lv_aload_n hx hb dL_law_26 rfl (lv_at hl 0 rfl) ?_
      refine lv_iload_n hx hb dL_law_27 rfl (lv_at hl 3 rfl) ?_
      refine va_sld hx hb hX hbl hbA hS h.1 dL_law_28 ?_
      have h := h.2
      refine lv_bipush (v := 31) hx hb dL_law_29 (by decide) ?_
      refine lv_iand hx hb dL_law_31 ?_
      by_cases q32 : ((xs x3.toNatClampNeg) &&& (31 : Int32)).toInt < 0 ∨ 25 < ((xs x3.toNatClampNeg) &&& (31 : Int32)).toInt
      · have h := h.1 q32
        refine lv_tableOut (tgt := 758) hx hb dL_law_32 q32 (by decide) ?_
        obtain ⟨v758, ev758⟩ : ∃ y : Int32, y = x3 + (4 : Int32) := ⟨_, rfl⟩
        have h := h v758 ev758
        refine lv_iinc (v := v758) (lv' := [(3, .int v758), (0, .ref aS), (1, .ref aR), (2, .ref aM)]) hx hb dL_law_758 hl (k := 3) rfl (by rw [ev758]; rfl) (by decide) rfl (fun ls hl => ?_)
        refine lv_goto (tgt := 18) hx hb dL_law_761 (by decide) ?_
        exact h H locs ls hP hD hS (lv_sub hl [1, 2, 3, 0] rfl)
      · have h := h.2
        rcases m_sw26 q32 with q | q | q | q | q | q | q | q | q | q | q | q | q | q | q | q | q | q | q | q | q | q | q | q | q | q
        · have h := h.1 q
          refine lv_tableIn (off := 120) (tgt := 152) hx hb dL_law_32 (by rw [q]; decide) (by rw [q]; decide) (by rw [q]; decide) (by decide) ?_
          refine lv_aload_n hx hb dL_law_152 rfl (lv_at hl 1 rfl) ?_
          refine lv_aload_n hx hb dL_law_153 rfl (lv_at hl 0 rfl) ?_
          refine lv_iload_n hx hb dL_law_154 rfl (lv_at hl 3 rfl) ?_
          refine lv_iconst (v := 1) hx hb dL_law_155 (by decide) ?_
          refine lv_iadd hx hb dL_law_156 ?_
          refine va_sld hx hb hX hbl hbA hS h.1 dL_law_157 ?_
          have h := h.2
          refine mVi (wr := [aI aN cI 60 fN, aI aWK cI 61 fWK, aI aRE cI 61 fRE, aJ aY cJ 6 fY, aJ aZ cJ 6 fZ, oM aM aMM aML aMY aMT aMR aMB aMN mk mp, aI aMM cZ 36 fMM, aJ aML cJ 61 fML, aJ aMY cJ 6 fMY, aJ aMT cJ 6 fMT, aI aMR cI 60 fMR, aI aMB cI 60 fMB, aI aMN cI 60 fMN]) (As := [.int (xs (x3 + (1 : Int32)).toNatClampNeg)]) (rest := []) ⟨hx, hb, hml, hown, hts⟩ (c_X2_labels (l := l) (dC := dC) (dI := dI) (cI := cI) (cJ := cJ) (cZ := cZ) (aR := aR) (aT := aT) (aP := aP) (aL := aL) (aN := aN) (aB := aB) (aWK := aWK) (aRE := aRE) (aY := aY) (aZ := aZ) h) (cwV 1 hts gL_law_X2_labels rfl rfl rfl hv_X2_labels ⟨Nat.le_of_ble_eq_true rfl, Nat.le_of_ble_eq_true rfl⟩) hK hP hD hS hA [0, 1, 2, 4, 5] [3, 6, 7, 8, 9, 10, 11, 12, 13, 14, 15, 16, 17] rfl rfl rfl rfl (by decide) 2 rfl rfl rfl rfl hl.1 rfl (Nat.le_of_ble_eq_true rfl) ⟨Nat.le_of_ble_eq_true rfl, Nat.le_of_ble_eq_true rfl⟩ dL_law_158 (fun r158 u158 H locs h hP hD hS => ?_)
          obtain ⟨fL_158, tk_158, fB_158⟩ := u158
          have hP : va_P (dC, dI) vwCl [oR aR aT aP, oP aP aL aN pk, aI aL cI 60 fL_158, aI aN cI 60 fN, oT aT aB aWK aRE aY aZ tk_158, aI aB cI 6 fB_158, aI aWK cI 61 fWK, aI aRE cI 61 fRE, aJ aY cJ 6 fY, aJ aZ cJ 6 fZ, oM aM aMM aML aMY aMT aMR aMB aMN mk mp, aI aMM cZ 36 fMM, aJ aML cJ 61 fML, aJ aMY cJ 6 fMY, aJ aMT cJ 6 fMT, aI aMR cI 60 fMR, aI aMB cI 60 fMB, aI aMN cI 60 fMN] H := hP.sub [13, 14, 15, 0, 16, 17, 1, 2, 3, 4, 5, 6, 7, 8, 9, 10, 11, 12] rfl
          have hD : va_D A [oR aR aT aP, oP aP aL aN pk, aI aL cI 60 fL_158, aI aN cI 60 fN, oT aT aB aWK aRE aY aZ tk_158, aI aB cI 6 fB_158, aI aWK cI 61 fWK, aI aRE cI 61 fRE, aJ aY cJ 6 fY, aJ aZ cJ 6 fZ, oM aM aMM aML aMY aMT aMR aMB aMN mk mp, aI aMM cZ 36 fMM, aJ aML cJ 61 fML, aJ aMY cJ 6 fMY, aJ aMT cJ 6 fMT, aI aMR cI 60 fMR, aI aMB cI 60 fMB, aI aMN cI 60 fMN] := hD.sub [13, 14, 15, 0, 16, 17, 1, 2, 3, 4, 5, 6, 7, 8, 9, 10, 11, 12] rfl rfl
          refine lv_aload_n hx hb dL_law_161 rfl (lv_at hl 2 rfl) ?_
          refine lv_aload_n hx hb dL_law_162 rfl (lv_at hl 0 rfl) ?_
          refine lv_iload_n hx hb dL_law_163 rfl (lv_at hl 3 rfl) ?_
          refine lv_iconst (v := 1) hx hb dL_law_164 (by decide) ?_
          refine lv_iadd hx hb dL_law_165 ?_
          refine va_sld hx hb hX hbl hbA hS h.1 dL_law_166 ?_
          have h := h.2
          refine mVi (wr := [oR aR aT aP, oP aP aL aN pk, aI aL cI 60 fL_158, aI aN cI 60 fN, oT aT aB aWK aRE aY aZ tk_158, aI aB cI 6 fB_158, aI aWK cI 61 fWK, aI aRE cI 61 fRE, aJ aY cJ 6 fY, aJ aZ cJ 6 fZ, aJ aML cJ 61 fML, aJ aMY cJ 6 fMY, aJ aMT cJ 6 fMT, aI aMR cI 60 fMR, aI aMN cI 60 fMN]) (As := [.int (xs (x3 + (1 : Int32)).toNatClampNeg)]) (rest := [.int r158]) ⟨hx, hb, hml, hown, hts⟩ (c_X3_labels (l := l) (dC := dC) (dI := dI) (cI := cI) (cJ := cJ) (cZ := cZ) (aM := aM) (aMM := aMM) (aML := aML) (aMY := aMY) (aMT := aMT) (aMR := aMR) (aMB := aMB) (aMN := aMN) h) (cwV 1 hts gL_law_X3_labels rfl rfl rfl hv_X3_labels ⟨Nat.le_of_ble_eq_true rfl, Nat.le_of_ble_eq_true rfl⟩) hK hP hD hS hA [10, 11, 16] [0, 1, 2, 3, 4, 5, 6, 7, 8, 9, 12, 13, 14, 15, 17] rfl rfl rfl rfl (by decide) 3 rfl rfl rfl rfl hl.1 rfl (Nat.le_of_ble_eq_true rfl) ⟨Nat.le_of_ble_eq_true rfl, Nat.le_of_ble_eq_true rfl⟩ dL_law_167 (fun r167 u167 H locs h hP hD hS => ?_)
          obtain ⟨mk_167, fMM_167, fMB_167⟩ := u167
          have hP : va_P (dC, dI) vwCl [oR aR aT aP, oP aP aL aN pk, aI aL cI 60 fL_158, aI aN cI 60 fN, oT aT aB aWK aRE aY aZ tk_158, aI aB cI 6 fB_158, aI aWK cI 61 fWK, aI aRE cI 61 fRE, aJ aY cJ 6 fY, aJ aZ cJ 6 fZ, oM aM aMM aML aMY aMT aMR aMB aMN mk_167 mp, aI aMM cZ 36 fMM_167, aJ aML cJ 61 fML, aJ aMY cJ 6 fMY, aJ aMT cJ 6 fMT, aI aMR cI 60 fMR, aI aMB cI 60 fMB_167, aI aMN cI 60 fMN] H := hP.sub [0, 1, 2, 3, 4, 5, 6, 7, 8, 9, 15, 16, 10, 11, 12, 13, 17, 14] rfl
          have hD : va_D A [oR aR aT aP, oP aP aL aN pk, aI aL cI 60 fL_158, aI aN cI 60 fN, oT aT aB aWK aRE aY aZ tk_158, aI aB cI 6 fB_158, aI aWK cI 61 fWK, aI aRE cI 61 fRE, aJ aY cJ 6 fY, aJ aZ cJ 6 fZ, oM aM aMM aML aMY aMT aMR aMB aMN mk_167 mp, aI aMM cZ 36 fMM_167, aJ aML cJ 61 fML, aJ aMY cJ 6 fMY, aJ aMT cJ 6 fMT, aI aMR cI 60 fMR, aI aMB cI 60 fMB_167, aI aMN cI 60 fMN] := hD.sub [0, 1, 2, 3, 4, 5, 6, 7, 8, 9, 15, 16, 10, 11, 12, 13, 17, 14] rfl rfl
          refine lv_icmp_eq (tgt := 758) hx hb dL_law_170 (by decide) (fun q170 => ?_) (fun q170 => ?_)
          · have h := h.1 q170
            obtain ⟨v758, ev758⟩ : ∃ y : Int32, y = x3 + (4 : Int32) := ⟨_, rfl⟩
            have h := h v758 ev758
            refine lv_iinc (v := v758) (lv' := [(3, .int v758), (0, .ref aS), (1, .ref aR), (2, .ref aM)]) hx hb dL_law_758 hl (k := 3) rfl (by rw [ev758]; rfl) (by decide) rfl (fun ls hl => ?_)
            refine lv_goto (tgt := 18) hx hb dL_law_761 (by decide) ?_
            exact h H locs ls hP hD hS (lv_sub hl [1, 2, 3, 0] rfl)
          · have h := h.2 q170
            refine lv_iconst (v := 0) hx hb dL_law_173 (by decide) ?_
            exact ret _ _ _ _ _ _ _ _ _ _ _ _ _ _ _ _ _ _ _ H locs ls _ dL_law_174 (Or.inl rfl) h hP hD hS
        · have h := h.2.1 q
          refine lv_tableIn (off := 143) (tgt := 175) hx hb dL_law_32 (by rw [q]; decide) (by rw [q]; decide) (by rw [q]; decide) (by decide) ?_
          refine lv_aload_n hx hb dL_law_175 rfl (lv_at hl 1 rfl) ?_
          refine lv_aload_n hx hb dL_law_176 rfl (lv_at hl 0 rfl) ?_
          refine lv_iload_n hx hb dL_law_177 rfl (lv_at hl 3 rfl) ?_
          refine lv_iconst (v := 1) hx hb dL_law_178 (by decide) ?_
          refine lv_iadd hx hb dL_law_179 ?_
          refine va_sld hx hb hX hbl hbA hS h.1 dL_law_180 ?_
          have h := h.2
          refine lv_aload_n hx hb dL_law_181 rfl (lv_at hl 0 rfl) ?_
          refine lv_iload_n hx hb dL_law_182 rfl (lv_at hl 3 rfl) ?_
          refine lv_iconst (v := 2) hx hb dL_law_183 (by decide) ?_
          refine lv_iadd hx hb dL_law_184 ?_
          refine va_sld hx hb hX hbl hbA hS h.1 dL_law_185 ?_
          have h := h.2
          refine lv_aload_n hx hb dL_law_186 rfl (lv_at hl 0 rfl) ?_
          refine lv_iload_n hx hb dL_law_187 rfl (lv_at hl 3 rfl) ?_
          refine lv_iconst (v := 3) hx hb dL_law_188 (by decide) ?_
          refine lv_iadd hx hb dL_law_189 ?_
          refine va_sld hx hb hX hbl hbA hS h.1 dL_law_190 ?_
          have h := h.2
          refine lv_if_eq (tgt := 198) hx hb dL_law_191 (by decide) (fun q191 => ?_) (fun q191 => ?_)
          · have h := h.1 q191
            refine lv_iconst (v := 0) hx hb dL_law_198 (by decide) ?_
            exact B199 _ _ _ _ _ _ _ _ _ _ _ _ _ _ _ _ _ _ _ _ _ _ _ (fun _ _ _ _ _ _ _ _ _ _ _ _ _ _ _ _ _ _ _ hq => hq) h H locs ls hP hD hS (lv_sub hl [0, 1, 2, 3] rfl)
          · have h := h.2 q191
            refine lv_iconst (v := 1) hx hb dL_law_194 (by decide) ?_
            refine lv_goto (tgt := 199) hx hb dL_law_195 (by decide) ?_
            exact B199 _ _ _ _ _ _ _ _ _ _ _ _ _ _ _ _ _ _ _ _ _ _ _ (fun _ _ _ _ _ _ _ _ _ _ _ _ _ _ _ _ _ _ _ hq => hq) h H locs ls hP hD hS (lv_sub hl [0, 1, 2, 3] rfl)
        · have h := h.2.2.1 q
          refine lv_tableIn (off := 202) (tgt := 234) hx hb dL_law_32 (by rw [q]; decide) (by rw [q]; decide) (by rw [q]; decide) (by decide) ?_
          refine lv_aload_n hx hb dL_law_234 rfl (lv_at hl 1 rfl) ?_
          refine lv_aload_n hx hb dL_law_235 rfl (lv_at hl 0 rfl) ?_
          refine lv_iload_n hx hb dL_law_236 rfl (lv_at hl 3 rfl) ?_
          refine lv_iconst (v := 1) hx hb dL_law_237 (by decide) ?_
          refine lv_iadd hx hb dL_law_238 ?_
          refine va_sld hx hb hX hbl hbA hS h.1 dL_law_239 ?_
          have h := h.2
          refine lv_aload_n hx hb dL_law_240 rfl (lv_at hl 0 rfl) ?_
          refine lv_iload_n hx hb dL_law_241 rfl (lv_at hl 3 rfl) ?_
          refine lv_iconst (v := 2) hx hb dL_law_242 (by decide) ?_
          refine lv_iadd hx hb dL_law_243 ?_
          refine va_sld hx hb hX hbl hbA hS h.1 dL_law_244 ?_
          have h := h.2
          refine mVi (wr := [oP aP aL aN pk, aI aL cI 60 fL, aI aN cI 60 fN, aI aWK cI 61 fWK, aI aRE cI 61 fRE, aJ aY cJ 6 fY, aJ aZ cJ 6 fZ, oM aM aMM aML aMY aMT aMR aMB aMN mk mp, aI aMM cZ 36 fMM, aJ aML cJ 61 fML, aJ aMY cJ 6 fMY, aJ aMT cJ 6 fMT, aI aMR cI 60 fMR, aI aMB cI 60 fMB, aI aMN cI 60 fMN]) (As := [.int (xs (x3 + (1 : Int32)).toNatClampNeg), .int (xs (x3 + (2 : Int32)).toNatClampNeg)]) (rest := []) ⟨hx, hb, hml, hown, hts⟩ (c_X2_may (l := l) (dC := dC) (dI := dI) (cI := cI) (cJ := cJ) (cZ := cZ) (aR := aR) (aT := aT) (aP := aP) (aB := aB) (aWK := aWK) (aRE := aRE) (aY := aY) (aZ := aZ) h) (cwV 2 hts gL_law_X2_may rfl rfl rfl hv_X2_may ⟨Nat.le_of_ble_eq_true rfl, Nat.le_of_ble_eq_true rfl⟩) hK hP hD hS hA [0, 4, 5] [1, 2, 3, 6, 7, 8, 9, 10, 11, 12, 13, 14, 15, 16, 17] rfl rfl rfl rfl (by decide) 2 rfl rfl rfl rfl hl.1 rfl (Nat.le_of_ble_eq_true rfl) ⟨Nat.le_of_ble_eq_true rfl, Nat.le_of_ble_eq_true rfl⟩ dL_law_245 (fun r245 u245 H locs h hP hD hS => ?_)
          have hP : va_P (dC, dI) vwCl [oR aR aT aP, oP aP aL aN pk, aI aL cI 60 fL, aI aN cI 60 fN, oT aT aB aWK aRE aY aZ tk, aI aB cI 6 fB, aI aWK cI 61 fWK, aI aRE cI 61 fRE, aJ aY cJ 6 fY, aJ aZ cJ 6 fZ, oM aM aMM aML aMY aMT aMR aMB aMN mk mp, aI aMM cZ 36 fMM, aJ aML cJ 61 fML, aJ aMY cJ 6 fMY, aJ aMT cJ 6 fMT, aI aMR cI 60 fMR, aI aMB cI 60 fMB, aI aMN cI 60 fMN] H := hP.sub [15, 0, 1, 2, 16, 17, 3, 4, 5, 6, 7, 8, 9, 10, 11, 12, 13, 14] rfl
          have hD : va_D A [oR aR aT aP, oP aP aL aN pk, aI aL cI 60 fL, aI aN cI 60 fN, oT aT aB aWK aRE aY aZ tk, aI aB cI 6 fB, aI aWK cI 61 fWK, aI aRE cI 61 fRE, aJ aY cJ 6 fY, aJ aZ cJ 6 fZ, oM aM aMM aML aMY aMT aMR aMB aMN mk mp, aI aMM cZ 36 fMM, aJ aML cJ 61 fML, aJ aMY cJ 6 fMY, aJ aMT cJ 6 fMT, aI aMR cI 60 fMR, aI aMB cI 60 fMB, aI aMN cI 60 fMN] := hD.sub [15, 0, 1, 2, 16, 17, 3, 4, 5, 6, 7, 8, 9, 10, 11, 12, 13, 14] rfl rfl
          refine lv_aload_n hx hb dL_law_248 rfl (lv_at hl 2 rfl) ?_
          refine lv_aload_n hx hb dL_law_249 rfl (lv_at hl 0 rfl) ?_
          refine lv_iload_n hx hb dL_law_250 rfl (lv_at hl 3 rfl) ?_
          refine lv_iconst (v := 1) hx hb dL_law_251 (by decide) ?_
          refine lv_iadd hx hb dL_law_252 ?_
          refine va_sld hx hb hX hbl hbA hS h.1 dL_law_253 ?_
          have h := h.2
          refine lv_aload_n hx hb dL_law_254 rfl (lv_at hl 0 rfl) ?_
          refine lv_iload_n hx hb dL_law_255 rfl (lv_at hl 3 rfl) ?_
          refine lv_iconst (v := 2) hx hb dL_law_256 (by decide) ?_
          refine lv_iadd hx hb dL_law_257 ?_
          refine va_sld hx hb hX hbl hbA hS h.1 dL_law_258 ?_
          have h := h.2
          refine mVi (wr := [oR aR aT aP, oP aP aL aN pk, aI aL cI 60 fL, aI aN cI 60 fN, oT aT aB aWK aRE aY aZ tk, aI aB cI 6 fB, aI aWK cI 61 fWK, aI aRE cI 61 fRE, aJ aY cJ 6 fY, aJ aZ cJ 6 fZ, aJ aML cJ 61 fML, aJ aMY cJ 6 fMY, aJ aMT cJ 6 fMT, aI aMR cI 60 fMR, aI aMB cI 60 fMB, aI aMN cI 60 fMN]) (As := [.int (xs (x3 + (1 : Int32)).toNatClampNeg), .int (xs (x3 + (2 : Int32)).toNatClampNeg)]) (rest := [.int r245]) ⟨hx, hb, hml, hown, hts⟩ (c_X3_may (l := l) (dC := dC) (dI := dI) (cI := cI) (cJ := cJ) (cZ := cZ) (aM := aM) (aMM := aMM) (aML := aML) (aMY := aMY) (aMT := aMT) (aMR := aMR) (aMB := aMB) (aMN := aMN) h) (cwV 2 hts gL_law_X3_may rfl rfl rfl hv_X3_may ⟨Nat.le_of_ble_eq_true rfl, Nat.le_of_ble_eq_true rfl⟩) hK hP hD hS hA [10, 11] [0, 1, 2, 3, 4, 5, 6, 7, 8, 9, 12, 13, 14, 15, 16, 17] rfl rfl rfl rfl (by decide) 3 rfl rfl rfl rfl hl.1 rfl (Nat.le_of_ble_eq_true rfl) ⟨Nat.le_of_ble_eq_true rfl, Nat.le_of_ble_eq_true rfl⟩ dL_law_259 (fun r259 u259 H locs h hP hD hS => ?_)
          have hP : va_P (dC, dI) vwCl [oR aR aT aP, oP aP aL aN pk, aI aL cI 60 fL, aI aN cI 60 fN, oT aT aB aWK aRE aY aZ tk, aI aB cI 6 fB, aI aWK cI 61 fWK, aI aRE cI 61 fRE, aJ aY cJ 6 fY, aJ aZ cJ 6 fZ, oM aM aMM aML aMY aMT aMR aMB aMN mk mp, aI aMM cZ 36 fMM, aJ aML cJ 61 fML, aJ aMY cJ 6 fMY, aJ aMT cJ 6 fMT, aI aMR cI 60 fMR, aI aMB cI 60 fMB, aI aMN cI 60 fMN] H := hP.sub [0, 1, 2, 3, 4, 5, 6, 7, 8, 9, 16, 17, 10, 11, 12, 13, 14, 15] rfl
          have hD : va_D A [oR aR aT aP, oP aP aL aN pk, aI aL cI 60 fL, aI aN cI 60 fN, oT aT aB aWK aRE aY aZ tk, aI aB cI 6 fB, aI aWK cI 61 fWK, aI aRE cI 61 fRE, aJ aY cJ 6 fY, aJ aZ cJ 6 fZ, oM aM aMM aML aMY aMT aMR aMB aMN mk mp, aI aMM cZ 36 fMM, aJ aML cJ 61 fML, aJ aMY cJ 6 fMY, aJ aMT cJ 6 fMT, aI aMR cI 60 fMR, aI aMB cI 60 fMB, aI aMN cI 60 fMN] := hD.sub [0, 1, 2, 3, 4, 5, 6, 7, 8, 9, 16, 17, 10, 11, 12, 13, 14, 15] rfl rfl
          refine lv_icmp_eq (tgt := 758) hx hb dL_law_262 (by decide) (fun q262 => ?_) (fun q262 => ?_)
          · have h := h.1 q262
            obtain ⟨v758, ev758⟩ : ∃ y : Int32, y = x3 + (4 : Int32) := ⟨_, rfl⟩
            have h := h v758 ev758
            refine lv_iinc (v := v758) (lv' := [(3, .int v758), (0, .ref aS), (1, .ref aR), (2, .ref aM)]) hx hb dL_law_758 hl (k := 3) rfl (by rw [ev758]; rfl) (by decide) rfl (fun ls hl => ?_)
            refine lv_goto (tgt := 18) hx hb dL_law_761 (by decide) ?_
            exact h H locs ls hP hD hS (lv_sub hl [1, 2, 3, 0] rfl)
          · have h := h.2 q262
            refine lv_iconst (v := 0) hx hb dL_law_265 (by decide) ?_
            exact ret _ _ _ _ _ _ _ _ _ _ _ _ _ _ _ _ _ _ _ H locs ls _ dL_law_266 (Or.inl rfl) h hP hD hS
        · have h := h.2.2.2.1 q
          refine lv_tableIn (off := 235) (tgt := 267) hx hb dL_law_32 (by rw [q]; decide) (by rw [q]; decide) (by rw [q]; decide) (by decide) ?_
          refine lv_aload_n hx hb dL_law_267 rfl (lv_at hl 1 rfl) ?_
          refine lv_aload_n hx hb dL_law_268 rfl (lv_at hl 0 rfl) ?_
          refine lv_iload_n hx hb dL_law_269 rfl (lv_at hl 3 rfl) ?_
          refine lv_iconst (v := 1) hx hb dL_law_270 (by decide) ?_
          refine lv_iadd hx hb dL_law_271 ?_
          refine va_sld hx hb hX hbl hbA hS h.1 dL_law_272 ?_
          have h := h.2
          refine mVl (wr := [oP aP aL aN pk, aI aL cI 60 fL, aI aN cI 60 fN, aI aWK cI 61 fWK, aI aRE cI 61 fRE, oM aM aMM aML aMY aMT aMR aMB aMN mk mp, aI aMM cZ 36 fMM, aJ aML cJ 61 fML, aJ aMY cJ 6 fMY, aJ aMT cJ 6 fMT, aI aMR cI 60 fMR, aI aMB cI 60 fMB, aI aMN cI 60 fMN]) (As := [.int (xs (x3 + (1 : Int32)).toNatClampNeg)]) (rest := []) ⟨hx, hb, hml, hown, hts⟩ (c_X2_rings (l := l) (dC := dC) (dI := dI) (cI := cI) (cJ := cJ) (cZ := cZ) (aR := aR) (aT := aT) (aP := aP) (aB := aB) (aWK := aWK) (aRE := aRE) (aY := aY) (aZ := aZ) h) (cwV 1 hts gL_law_X2_rings rfl rfl rfl hv_X2_rings ⟨Nat.le_of_ble_eq_true rfl, Nat.le_of_ble_eq_true rfl⟩) hK hP hD hS hA [0, 4, 5, 8, 9] [1, 2, 3, 6, 7, 10, 11, 12, 13, 14, 15, 16, 17] rfl rfl rfl rfl (by decide) 2 rfl rfl rfl rfl hl.1 rfl (Nat.le_of_ble_eq_true rfl) ⟨Nat.le_of_ble_eq_true rfl, Nat.le_of_ble_eq_true rfl⟩ dL_law_273 (fun r273 u273 H locs h hP hD hS => ?_)
          obtain ⟨fY_273, fZ_273⟩ := u273
          have hP : va_P (dC, dI) vwCl [oR aR aT aP, oP aP aL aN pk, aI aL cI 60 fL, aI aN cI 60 fN, oT aT aB aWK aRE aY aZ tk, aI aB cI 6 fB, aI aWK cI 61 fWK, aI aRE cI 61 fRE, aJ aY cJ 6 fY_273, aJ aZ cJ 6 fZ_273, oM aM aMM aML aMY aMT aMR aMB aMN mk mp, aI aMM cZ 36 fMM, aJ aML cJ 61 fML, aJ aMY cJ 6 fMY, aJ aMT cJ 6 fMT, aI aMR cI 60 fMR, aI aMB cI 60 fMB, aI aMN cI 60 fMN] H := hP.sub [13, 0, 1, 2, 14, 15, 3, 4, 16, 17, 5, 6, 7, 8, 9, 10, 11, 12] rfl
          have hD : va_D A [oR aR aT aP, oP aP aL aN pk, aI aL cI 60 fL, aI aN cI 60 fN, oT aT aB aWK aRE aY aZ tk, aI aB cI 6 fB, aI aWK cI 61 fWK, aI aRE cI 61 fRE, aJ aY cJ 6 fY_273, aJ aZ cJ 6 fZ_273, oM aM aMM aML aMY aMT aMR aMB aMN mk mp, aI aMM cZ 36 fMM, aJ aML cJ 61 fML, aJ aMY cJ 6 fMY, aJ aMT cJ 6 fMT, aI aMR cI 60 fMR, aI aMB cI 60 fMB, aI aMN cI 60 fMN] := hD.sub [13, 0, 1, 2, 14, 15, 3, 4, 16, 17, 5, 6, 7, 8, 9, 10, 11, 12] rfl rfl
          refine lv_aload_n hx hb dL_law_276 rfl (lv_at hl 2 rfl) ?_
          refine lv_aload_n hx hb dL_law_277 rfl (lv_at hl 0 rfl) ?_
          refine lv_iload_n hx hb dL_law_278 rfl (lv_at hl 3 rfl) ?_
          refine lv_iconst (v := 1) hx hb dL_law_279 (by decide) ?_
          refine lv_iadd hx hb dL_law_280 ?_
          refine va_sld hx hb hX hbl hbA hS h.1 dL_law_281 ?_
          have h := h.2
          refine mVl (wr := [oR aR aT aP, oP aP aL aN pk, aI aL cI 60 fL, aI aN cI 60 fN, oT aT aB aWK aRE aY aZ tk, aI aB cI 6 fB, aI aWK cI 61 fWK, aI aRE cI 61 fRE, aJ aY cJ 6 fY_273, aJ aZ cJ 6 fZ_273, aJ aML cJ 61 fML, aI aMR cI 60 fMR, aI aMB cI 60 fMB, aI aMN cI 60 fMN]) (As := [.int (xs (x3 + (1 : Int32)).toNatClampNeg)]) (rest := [.long r273]) ⟨hx, hb, hml, hown, hts⟩ (c_X3_rings (l := l) (dC := dC) (dI := dI) (cI := cI) (cJ := cJ) (cZ := cZ) (aM := aM) (aMM := aMM) (aML := aML) (aMY := aMY) (aMT := aMT) (aMR := aMR) (aMB := aMB) (aMN := aMN) h) (cwV 1 hts gL_law_X3_rings rfl rfl rfl hv_X3_rings ⟨Nat.le_of_ble_eq_true rfl, Nat.le_of_ble_eq_true rfl⟩) hK hP hD hS hA [10, 11, 13, 14] [0, 1, 2, 3, 4, 5, 6, 7, 8, 9, 12, 15, 16, 17] rfl rfl rfl rfl (by decide) 3 rfl rfl rfl rfl hl.1 rfl (Nat.le_of_ble_eq_true rfl) ⟨Nat.le_of_ble_eq_true rfl, Nat.le_of_ble_eq_true rfl⟩ dL_law_282 (fun r282 u282 H locs h hP hD hS => ?_)
          obtain ⟨fMY_282, fMT_282⟩ := u282
          have hP : va_P (dC, dI) vwCl [oR aR aT aP, oP aP aL aN pk, aI aL cI 60 fL, aI aN cI 60 fN, oT aT aB aWK aRE aY aZ tk, aI aB cI 6 fB, aI aWK cI 61 fWK, aI aRE cI 61 fRE, aJ aY cJ 6 fY_273, aJ aZ cJ 6 fZ_273, oM aM aMM aML aMY aMT aMR aMB aMN mk mp, aI aMM cZ 36 fMM, aJ aML cJ 61 fML, aJ aMY cJ 6 fMY_282, aJ aMT cJ 6 fMT_282, aI aMR cI 60 fMR, aI aMB cI 60 fMB, aI aMN cI 60 fMN] H := hP.sub [0, 1, 2, 3, 4, 5, 6, 7, 8, 9, 14, 15, 10, 16, 17, 11, 12, 13] rfl
          have hD : va_D A [oR aR aT aP, oP aP aL aN pk, aI aL cI 60 fL, aI aN cI 60 fN, oT aT aB aWK aRE aY aZ tk, aI aB cI 6 fB, aI aWK cI 61 fWK, aI aRE cI 61 fRE, aJ aY cJ 6 fY_273, aJ aZ cJ 6 fZ_273, oM aM aMM aML aMY aMT aMR aMB aMN mk mp, aI aMM cZ 36 fMM, aJ aML cJ 61 fML, aJ aMY cJ 6 fMY_282, aJ aMT cJ 6 fMT_282, aI aMR cI 60 fMR, aI aMB cI 60 fMB, aI aMN cI 60 fMN] := hD.sub [0, 1, 2, 3, 4, 5, 6, 7, 8, 9, 14, 15, 10, 16, 17, 11, 12, 13] rfl rfl
          refine W.lcmp hx hb dL_law_285 ?_
          refine lv_if_eq (tgt := 758) hx hb dL_law_286 (by decide) (fun q286 => ?_) (fun q286 => ?_)
          · have h := h.1 q286
            obtain ⟨v758, ev758⟩ : ∃ y : Int32, y = x3 + (4 : Int32) := ⟨_, rfl⟩
            have h := h v758 ev758
            refine lv_iinc (v := v758) (lv' := [(3, .int v758), (0, .ref aS), (1, .ref aR), (2, .ref aM)]) hx hb dL_law_758 hl (k := 3) rfl (by rw [ev758]; rfl) (by decide) rfl (fun ls hl => ?_)
            refine lv_goto (tgt := 18) hx hb dL_law_761 (by decide) ?_
            exact h H locs ls hP hD hS (lv_sub hl [1, 2, 3, 0] rfl)
          · have h := h.2 q286
            refine lv_iconst (v := 0) hx hb dL_law_289 (by decide) ?_
            exact ret _ _ _ _ _ _ _ _ _ _ _ _ _ _ _ _ _ _ _ H locs ls _ dL_law_290 (Or.inl rfl) h hP hD hS
        · have h := h.2.2.2.2.1 q
          refine lv_tableIn (off := 259) (tgt := 291) hx hb dL_law_32 (by rw [q]; decide) (by rw [q]; decide) (by rw [q]; decide) (by decide) ?_
          refine lv_aload_n hx hb dL_law_291 rfl (lv_at hl 1 rfl) ?_
          refine lv_aload_n hx hb dL_law_292 rfl (lv_at hl 0 rfl) ?_
          refine lv_iload_n hx hb dL_law_293 rfl (lv_at hl 3 rfl) ?_
          refine lv_iconst (v := 1) hx hb dL_law_294 (by decide) ?_
          refine lv_iadd hx hb dL_law_295 ?_
          refine va_sld hx hb hX hbl hbA hS h.1 dL_law_296 ?_
          have h := h.2
          refine lv_aload_n hx hb dL_law_297 rfl (lv_at hl 0 rfl) ?_
          refine lv_iload_n hx hb dL_law_298 rfl (lv_at hl 3 rfl) ?_
          refine lv_iconst (v := 2) hx hb dL_law_299 (by decide) ?_
          refine lv_iadd hx hb dL_law_300 ?_
          refine va_sld hx hb hX hbl hbA hS h.1 dL_law_301 ?_
          have h := h.2
          refine mVi (wr := [oP aP aL aN pk, aI aL cI 60 fL, aI aN cI 60 fN, aJ aY cJ 6 fY, aJ aZ cJ 6 fZ, oM aM aMM aML aMY aMT aMR aMB aMN mk mp, aI aMM cZ 36 fMM, aJ aML cJ 61 fML, aJ aMY cJ 6 fMY, aJ aMT cJ 6 fMT, aI aMR cI 60 fMR, aI aMB cI 60 fMB, aI aMN cI 60 fMN]) (As := [.int (xs (x3 + (1 : Int32)).toNatClampNeg), .int (xs (x3 + (2 : Int32)).toNatClampNeg)]) (rest := []) ⟨hx, hb, hml, hown, hts⟩ (c_X2_first (l := l) (dC := dC) (dI := dI) (cI := cI) (cJ := cJ) (cZ := cZ) (aR := aR) (aT := aT) (aP := aP) (aB := aB) (aWK := aWK) (aRE := aRE) (aY := aY) (aZ := aZ) h) (cwV 2 hts gL_law_X2_first rfl rfl rfl hv_X2_first ⟨Nat.le_of_ble_eq_true rfl, Nat.le_of_ble_eq_true rfl⟩) hK hP hD hS hA [0, 4, 5, 6, 7] [1, 2, 3, 8, 9, 10, 11, 12, 13, 14, 15, 16, 17] rfl rfl rfl rfl (by decide) 2 rfl rfl rfl rfl hl.1 rfl (Nat.le_of_ble_eq_true rfl) ⟨Nat.le_of_ble_eq_true rfl, Nat.le_of_ble_eq_true rfl⟩ dL_law_302 (fun r302 u302 H locs h hP hD hS => ?_)
          obtain ⟨fWK_302, fRE_302⟩ := u302
          have hP : va_P (dC, dI) vwCl [oR aR aT aP, oP aP aL aN pk, aI aL cI 60 fL, aI aN cI 60 fN, oT aT aB aWK aRE aY aZ tk, aI aB cI 6 fB, aI aWK cI 61 fWK_302, aI aRE cI 61 fRE_302, aJ aY cJ 6 fY, aJ aZ cJ 6 fZ, oM aM aMM aML aMY aMT aMR aMB aMN mk mp, aI aMM cZ 36 fMM, aJ aML cJ 61 fML, aJ aMY cJ 6 fMY, aJ aMT cJ 6 fMT, aI aMR cI 60 fMR, aI aMB cI 60 fMB, aI aMN cI 60 fMN] H := hP.sub [13, 0, 1, 2, 14, 15, 16, 17, 3, 4, 5, 6, 7, 8, 9, 10, 11, 12] rfl
          have hD : va_D A [oR aR aT aP, oP aP aL aN pk, aI aL cI 60 fL, aI aN cI 60 fN, oT aT aB aWK aRE aY aZ tk, aI aB cI 6 fB, aI aWK cI 61 fWK_302, aI aRE cI 61 fRE_302, aJ aY cJ 6 fY, aJ aZ cJ 6 fZ, oM aM aMM aML aMY aMT aMR aMB aMN mk mp, aI aMM cZ 36 fMM, aJ aML cJ 61 fML, aJ aMY cJ 6 fMY, aJ aMT cJ 6 fMT, aI aMR cI 60 fMR, aI aMB cI 60 fMB, aI aMN cI 60 fMN] := hD.sub [13, 0, 1, 2, 14, 15, 16, 17, 3, 4, 5, 6, 7, 8, 9, 10, 11, 12] rfl rfl
          refine lv_aload_n hx hb dL_law_305 rfl (lv_at hl 2 rfl) ?_
          refine lv_aload_n hx hb dL_law_306 rfl (lv_at hl 0 rfl) ?_
          refine lv_iload_n hx hb dL_law_307 rfl (lv_at hl 3 rfl) ?_
          refine lv_iconst (v := 1) hx hb dL_law_308 (by decide) ?_
          refine lv_iadd hx hb dL_law_309 ?_
          refine va_sld hx hb hX hbl hbA hS h.1 dL_law_310 ?_
          have h := h.2
          refine lv_aload_n hx hb dL_law_311 rfl (lv_at hl 0 rfl) ?_
          refine lv_iload_n hx hb dL_law_312 rfl (lv_at hl 3 rfl) ?_
          refine lv_iconst (v := 2) hx hb dL_law_313 (by decide) ?_
          refine lv_iadd hx hb dL_law_314 ?_
          refine va_sld hx hb hX hbl hbA hS h.1 dL_law_315 ?_
          have h := h.2
          refine mVi (wr := [oR aR aT aP, oP aP aL aN pk, aI aL cI 60 fL, aI aN cI 60 fN, oT aT aB aWK aRE aY aZ tk, aI aB cI 6 fB, aI aWK cI 61 fWK_302, aI aRE cI 61 fRE_302, aJ aY cJ 6 fY, aJ aZ cJ 6 fZ, aJ aMY cJ 6 fMY, aJ aMT cJ 6 fMT, aI aMB cI 60 fMB, aI aMN cI 60 fMN]) (As := [.int (xs (x3 + (1 : Int32)).toNatClampNeg), .int (xs (x3 + (2 : Int32)).toNatClampNeg)]) (rest := [.int r302]) ⟨hx, hb, hml, hown, hts⟩ (c_X3_first (l := l) (dC := dC) (dI := dI) (cI := cI) (cJ := cJ) (cZ := cZ) (aM := aM) (aMM := aMM) (aML := aML) (aMY := aMY) (aMT := aMT) (aMR := aMR) (aMB := aMB) (aMN := aMN) h) (cwV 2 hts gL_law_X3_first rfl rfl rfl hv_X3_first ⟨Nat.le_of_ble_eq_true rfl, Nat.le_of_ble_eq_true rfl⟩) hK hP hD hS hA [10, 11, 12, 15] [0, 1, 2, 3, 4, 5, 6, 7, 8, 9, 13, 14, 16, 17] rfl rfl rfl rfl (by decide) 3 rfl rfl rfl rfl hl.1 rfl (Nat.le_of_ble_eq_true rfl) ⟨Nat.le_of_ble_eq_true rfl, Nat.le_of_ble_eq_true rfl⟩ dL_law_316 (fun r316 u316 H locs h hP hD hS => ?_)
          obtain ⟨fML_316, fMR_316⟩ := u316
          have hP : va_P (dC, dI) vwCl [oR aR aT aP, oP aP aL aN pk, aI aL cI 60 fL, aI aN cI 60 fN, oT aT aB aWK aRE aY aZ tk, aI aB cI 6 fB, aI aWK cI 61 fWK_302, aI aRE cI 61 fRE_302, aJ aY cJ 6 fY, aJ aZ cJ 6 fZ, oM aM aMM aML aMY aMT aMR aMB aMN mk mp, aI aMM cZ 36 fMM, aJ aML cJ 61 fML_316, aJ aMY cJ 6 fMY, aJ aMT cJ 6 fMT, aI aMR cI 60 fMR_316, aI aMB cI 60 fMB, aI aMN cI 60 fMN] H := hP.sub [0, 1, 2, 3, 4, 5, 6, 7, 8, 9, 14, 15, 16, 10, 11, 17, 12, 13] rfl
          have hD : va_D A [oR aR aT aP, oP aP aL aN pk, aI aL cI 60 fL, aI aN cI 60 fN, oT aT aB aWK aRE aY aZ tk, aI aB cI 6 fB, aI aWK cI 61 fWK_302, aI aRE cI 61 fRE_302, aJ aY cJ 6 fY, aJ aZ cJ 6 fZ, oM aM aMM aML aMY aMT aMR aMB aMN mk mp, aI aMM cZ 36 fMM, aJ aML cJ 61 fML_316, aJ aMY cJ 6 fMY, aJ aMT cJ 6 fMT, aI aMR cI 60 fMR_316, aI aMB cI 60 fMB, aI aMN cI 60 fMN] := hD.sub [0, 1, 2, 3, 4, 5, 6, 7, 8, 9, 14, 15, 16, 10, 11, 17, 12, 13] rfl rfl
          refine lv_icmp_eq (tgt := 758) hx hb dL_law_319 (by decide) (fun q319 => ?_) (fun q319 => ?_)
          · have h := h.1 q319
            obtain ⟨v758, ev758⟩ : ∃ y : Int32, y = x3 + (4 : Int32) := ⟨_, rfl⟩
            have h := h v758 ev758
            refine lv_iinc (v := v758) (lv' := [(3, .int v758), (0, .ref aS), (1, .ref aR), (2, .ref aM)]) hx hb dL_law_758 hl (k := 3) rfl (by rw [ev758]; rfl) (by decide) rfl (fun ls hl => ?_)
            refine lv_goto (tgt := 18) hx hb dL_law_761 (by decide) ?_
            exact h H locs ls hP hD hS (lv_sub hl [1, 2, 3, 0] rfl)
          · have h := h.2 q319
            refine lv_iconst (v := 0) hx hb dL_law_322 (by decide) ?_
            exact ret _ _ _ _ _ _ _ _ _ _ _ _ _ _ _ _ _ _ _ H locs ls _ dL_law_323 (Or.inl rfl) h hP hD hS
        · have h := h.2.2.2.2.2.1 q
          refine lv_tableIn (off := 292) (tgt := 324) hx hb dL_law_32 (by rw [q]; decide) (by rw [q]; decide) (by rw [q]; decide) (by decide) ?_
          refine lv_aload_n hx hb dL_law_324 rfl (lv_at hl 1 rfl) ?_
          refine lv_aload_n hx hb dL_law_325 rfl (lv_at hl 0 rfl) ?_
          refine lv_iload_n hx hb dL_law_326 rfl (lv_at hl 3 rfl) ?_
          refine lv_iconst (v := 1) hx hb dL_law_327 (by decide) ?_
          refine lv_iadd hx hb dL_law_328 ?_
          refine va_sld hx hb hX hbl hbA hS h.1 dL_law_329 ?_
          have h := h.2
          refine lv_aload_n hx hb dL_law_330 rfl (lv_at hl 0 rfl) ?_
          refine lv_iload_n hx hb dL_law_331 rfl (lv_at hl 3 rfl) ?_
          refine lv_iconst (v := 2) hx hb dL_law_332 (by decide) ?_
          refine lv_iadd hx hb dL_law_333 ?_
          refine va_sld hx hb hX hbl hbA hS h.1 dL_law_334 ?_
          have h := h.2
          refine lv_aload_n hx hb dL_law_335 rfl (lv_at hl 0 rfl) ?_
          refine lv_iload_n hx hb dL_law_336 rfl (lv_at hl 3 rfl) ?_
          refine lv_iconst (v := 3) hx hb dL_law_337 (by decide) ?_
          refine lv_iadd hx hb dL_law_338 ?_
          refine va_sld hx hb hX hbl hbA hS h.1 dL_law_339 ?_
          have h := h.2
          refine mVl (wr := [oP aP aL aN pk, aI aL cI 60 fL, aI aN cI 60 fN, aI aWK cI 61 fWK, aI aRE cI 61 fRE, oM aM aMM aML aMY aMT aMR aMB aMN mk mp, aI aMM cZ 36 fMM, aJ aML cJ 61 fML, aJ aMY cJ 6 fMY, aJ aMT cJ 6 fMT, aI aMR cI 60 fMR, aI aMB cI 60 fMB, aI aMN cI 60 fMN]) (As := [.int (xs (x3 + (1 : Int32)).toNatClampNeg), .int (xs (x3 + (2 : Int32)).toNatClampNeg), .int (xs (x3 + (3 : Int32)).toNatClampNeg)]) (rest := []) ⟨hx, hb, hml, hown, hts⟩ (c_X2_walks (l := l) (dC := dC) (dI := dI) (cI := cI) (cJ := cJ) (cZ := cZ) (aR := aR) (aT := aT) (aP := aP) (aB := aB) (aWK := aWK) (aRE := aRE) (aY := aY) (aZ := aZ) h) (cwV 3 hts gL_law_X2_walks rfl rfl rfl hv_X2_walks ⟨Nat.le_of_ble_eq_true rfl, Nat.le_of_ble_eq_true rfl⟩) hK hP hD hS hA [0, 4, 5, 8, 9] [1, 2, 3, 6, 7, 10, 11, 12, 13, 14, 15, 16, 17] rfl rfl rfl rfl (by decide) 2 rfl rfl rfl rfl hl.1 rfl (Nat.le_of_ble_eq_true rfl) ⟨Nat.le_of_ble_eq_true rfl, Nat.le_of_ble_eq_true rfl⟩ dL_law_340 (fun r340 u340 H locs h hP hD hS => ?_)
          obtain ⟨fY_340, fZ_340⟩ := u340
          have hP : va_P (dC, dI) vwCl [oR aR aT aP, oP aP aL aN pk, aI aL cI 60 fL, aI aN cI 60 fN, oT aT aB aWK aRE aY aZ tk, aI aB cI 6 fB, aI aWK cI 61 fWK, aI aRE cI 61 fRE, aJ aY cJ 6 fY_340, aJ aZ cJ 6 fZ_340, oM aM aMM aML aMY aMT aMR aMB aMN mk mp, aI aMM cZ 36 fMM, aJ aML cJ 61 fML, aJ aMY cJ 6 fMY, aJ aMT cJ 6 fMT, aI aMR cI 60 fMR, aI aMB cI 60 fMB, aI aMN cI 60 fMN] H := hP.sub [13, 0, 1, 2, 14, 15, 3, 4, 16, 17, 5, 6, 7, 8, 9, 10, 11, 12] rfl
          have hD : va_D A [oR aR aT aP, oP aP aL aN pk, aI aL cI 60 fL, aI aN cI 60 fN, oT aT aB aWK aRE aY aZ tk, aI aB cI 6 fB, aI aWK cI 61 fWK, aI aRE cI 61 fRE, aJ aY cJ 6 fY_340, aJ aZ cJ 6 fZ_340, oM aM aMM aML aMY aMT aMR aMB aMN mk mp, aI aMM cZ 36 fMM, aJ aML cJ 61 fML, aJ aMY cJ 6 fMY, aJ aMT cJ 6 fMT, aI aMR cI 60 fMR, aI aMB cI 60 fMB, aI aMN cI 60 fMN] := hD.sub [13, 0, 1, 2, 14, 15, 3, 4, 16, 17, 5, 6, 7, 8, 9, 10, 11, 12] rfl rfl
          refine lv_aload_n hx hb dL_law_343 rfl (lv_at hl 2 rfl) ?_
          refine lv_aload_n hx hb dL_law_344 rfl (lv_at hl 0 rfl) ?_
          refine lv_iload_n hx hb dL_law_345 rfl (lv_at hl 3 rfl) ?_
          refine lv_iconst (v := 1) hx hb dL_law_346 (by decide) ?_
          refine lv_iadd hx hb dL_law_347 ?_
          refine va_sld hx hb hX hbl hbA hS h.1 dL_law_348 ?_
          have h := h.2
          refine lv_aload_n hx hb dL_law_349 rfl (lv_at hl 0 rfl) ?_
          refine lv_iload_n hx hb dL_law_350 rfl (lv_at hl 3 rfl) ?_
          refine lv_iconst (v := 2) hx hb dL_law_351 (by decide) ?_
          refine lv_iadd hx hb dL_law_352 ?_
          refine va_sld hx hb hX hbl hbA hS h.1 dL_law_353 ?_
          have h := h.2
          refine lv_aload_n hx hb dL_law_354 rfl (lv_at hl 0 rfl) ?_
          refine lv_iload_n hx hb dL_law_355 rfl (lv_at hl 3 rfl) ?_
          refine lv_iconst (v := 3) hx hb dL_law_356 (by decide) ?_
          refine lv_iadd hx hb dL_law_357 ?_
          refine va_sld hx hb hX hbl hbA hS h.1 dL_law_358 ?_
          have h := h.2
          refine mVl (wr := [oR aR aT aP, oP aP aL aN pk, aI aL cI 60 fL, aI aN cI 60 fN, oT aT aB aWK aRE aY aZ tk, aI aB cI 6 fB, aI aWK cI 61 fWK, aI aRE cI 61 fRE, aJ aY cJ 6 fY_340, aJ aZ cJ 6 fZ_340, aJ aML cJ 61 fML, aI aMR cI 60 fMR, aI aMB cI 60 fMB, aI aMN cI 60 fMN]) (As := [.int (xs (x3 + (1 : Int32)).toNatClampNeg), .int (xs (x3 + (2 : Int32)).toNatClampNeg), .int (xs (x3 + (3 : Int32)).toNatClampNeg)]) (rest := [.long r340]) ⟨hx, hb, hml, hown, hts⟩ (c_X3_walks (l := l) (dC := dC) (dI := dI) (cI := cI) (cJ := cJ) (cZ := cZ) (aM := aM) (aMM := aMM) (aML := aML) (aMY := aMY) (aMT := aMT) (aMR := aMR) (aMB := aMB) (aMN := aMN) h) (cwV 3 hts gL_law_X3_walks rfl rfl rfl hv_X3_walks ⟨Nat.le_of_ble_eq_true rfl, Nat.le_of_ble_eq_true rfl⟩) hK hP hD hS hA [10, 11, 13, 14] [0, 1, 2, 3, 4, 5, 6, 7, 8, 9, 12, 15, 16, 17] rfl rfl rfl rfl (by decide) 3 rfl rfl rfl rfl hl.1 rfl (Nat.le_of_ble_eq_true rfl) ⟨Nat.le_of_ble_eq_true rfl, Nat.le_of_ble_eq_true rfl⟩ dL_law_359 (fun r359 u359 H locs h hP hD hS => ?_)
          obtain ⟨fMY_359, fMT_359⟩ := u359
          have hP : va_P (dC, dI) vwCl [oR aR aT aP, oP aP aL aN pk, aI aL cI 60 fL, aI aN cI 60 fN, oT aT aB aWK aRE aY aZ tk, aI aB cI 6 fB, aI aWK cI 61 fWK, aI aRE cI 61 fRE, aJ aY cJ 6 fY_340, aJ aZ cJ 6 fZ_340, oM aM aMM aML aMY aMT aMR aMB aMN mk mp, aI aMM cZ 36 fMM, aJ aML cJ 61 fML, aJ aMY cJ 6 fMY_359, aJ aMT cJ 6 fMT_359, aI aMR cI 60 fMR, aI aMB cI 60 fMB, aI aMN cI 60 fMN] H := hP.sub [0, 1, 2, 3, 4, 5, 6, 7, 8, 9, 14, 15, 10, 16, 17, 11, 12, 13] rfl
          have hD : va_D A [oR aR aT aP, oP aP aL aN pk, aI aL cI 60 fL, aI aN cI 60 fN, oT aT aB aWK aRE aY aZ tk, aI aB cI 6 fB, aI aWK cI 61 fWK, aI aRE cI 61 fRE, aJ aY cJ 6 fY_340, aJ aZ cJ 6 fZ_340, oM aM aMM aML aMY aMT aMR aMB aMN mk mp, aI aMM cZ 36 fMM, aJ aML cJ 61 fML, aJ aMY cJ 6 fMY_359, aJ aMT cJ 6 fMT_359, aI aMR cI 60 fMR, aI aMB cI 60 fMB, aI aMN cI 60 fMN] := hD.sub [0, 1, 2, 3, 4, 5, 6, 7, 8, 9, 14, 15, 10, 16, 17, 11, 12, 13] rfl rfl
          refine W.lcmp hx hb dL_law_362 ?_
          refine lv_if_eq (tgt := 758) hx hb dL_law_363 (by decide) (fun q363 => ?_) (fun q363 => ?_)
          · have h := h.1 q363
            obtain ⟨v758, ev758⟩ : ∃ y : Int32, y = x3 + (4 : Int32) := ⟨_, rfl⟩
            have h := h v758 ev758
            refine lv_iinc (v := v758) (lv' := [(3, .int v758), (0, .ref aS), (1, .ref aR), (2, .ref aM)]) hx hb dL_law_758 hl (k := 3) rfl (by rw [ev758]; rfl) (by decide) rfl (fun ls hl => ?_)
            refine lv_goto (tgt := 18) hx hb dL_law_761 (by decide) ?_
            exact h H locs ls hP hD hS (lv_sub hl [1, 2, 3, 0] rfl)
          · have h := h.2 q363
            refine lv_iconst (v := 0) hx hb dL_law_366 (by decide) ?_
            exact ret _ _ _ _ _ _ _ _ _ _ _ _ _ _ _ _ _ _ _ H locs ls _ dL_law_367 (Or.inl rfl) h hP hD hS
        · have h := h.2.2.2.2.2.2.1 q
          refine lv_tableIn (off := 336) (tgt := 368) hx hb dL_law_32 (by rw [q]; decide) (by rw [q]; decide) (by rw [q]; decide) (by decide) ?_
          refine lv_aload_n hx hb dL_law_368 rfl (lv_at hl 1 rfl) ?_
          refine mVi (wr := [oP aP aL aN pk, aI aL cI 60 fL, aI aN cI 60 fN, aI aWK cI 61 fWK, aI aRE cI 61 fRE, aJ aY cJ 6 fY, aJ aZ cJ 6 fZ, oM aM aMM aML aMY aMT aMR aMB aMN mk mp, aI aMM cZ 36 fMM, aJ aML cJ 61 fML, aJ aMY cJ 6 fMY, aJ aMT cJ 6 fMT, aI aMR cI 60 fMR, aI aMB cI 60 fMB, aI aMN cI 60 fMN]) (As := []) (rest := []) ⟨hx, hb, hml, hown, hts⟩ (c_X2_blocks (l := l) (dC := dC) (dI := dI) (cI := cI) (cJ := cJ) (cZ := cZ) (aR := aR) (aT := aT) (aP := aP) (aB := aB) (aWK := aWK) (aRE := aRE) (aY := aY) (aZ := aZ) h) (cwV 0 hts gL_law_X2_blocks rfl rfl rfl hv_X2_blocks ⟨Nat.le_of_ble_eq_true rfl, Nat.le_of_ble_eq_true rfl⟩) hK hP hD hS hA [0, 4, 5] [1, 2, 3, 6, 7, 8, 9, 10, 11, 12, 13, 14, 15, 16, 17] rfl rfl rfl rfl (by decide) 2 rfl rfl rfl rfl hl.1 rfl (Nat.le_of_ble_eq_true rfl) ⟨Nat.le_of_ble_eq_true rfl, Nat.le_of_ble_eq_true rfl⟩ dL_law_369 (fun r369 u369 H locs h hP hD hS => ?_)
          have hP : va_P (dC, dI) vwCl [oR aR aT aP, oP aP aL aN pk, aI aL cI 60 fL, aI aN cI 60 fN, oT aT aB aWK aRE aY aZ tk, aI aB cI 6 fB, aI aWK cI 61 fWK, aI aRE cI 61 fRE, aJ aY cJ 6 fY, aJ aZ cJ 6 fZ, oM aM aMM aML aMY aMT aMR aMB aMN mk mp, aI aMM cZ 36 fMM, aJ aML cJ 61 fML, aJ aMY cJ 6 fMY, aJ aMT cJ 6 fMT, aI aMR cI 60 fMR, aI aMB cI 60 fMB, aI aMN cI 60 fMN] H := hP.sub [15, 0, 1, 2, 16, 17, 3, 4, 5, 6, 7, 8, 9, 10, 11, 12, 13, 14] rfl
          have hD : va_D A [oR aR aT aP, oP aP aL aN pk, aI aL cI 60 fL, aI aN cI 60 fN, oT aT aB aWK aRE aY aZ tk, aI aB cI 6 fB, aI aWK cI 61 fWK, aI aRE cI 61 fRE, aJ aY cJ 6 fY, aJ aZ cJ 6 fZ, oM aM aMM aML aMY aMT aMR aMB aMN mk mp, aI aMM cZ 36 fMM, aJ aML cJ 61 fML, aJ aMY cJ 6 fMY, aJ aMT cJ 6 fMT, aI aMR cI 60 fMR, aI aMB cI 60 fMB, aI aMN cI 60 fMN] := hD.sub [15, 0, 1, 2, 16, 17, 3, 4, 5, 6, 7, 8, 9, 10, 11, 12, 13, 14] rfl rfl
          refine lv_aload_n hx hb dL_law_372 rfl (lv_at hl 2 rfl) ?_
          refine mVi (wr := [oR aR aT aP, oP aP aL aN pk, aI aL cI 60 fL, aI aN cI 60 fN, oT aT aB aWK aRE aY aZ tk, aI aB cI 6 fB, aI aWK cI 61 fWK, aI aRE cI 61 fRE, aJ aY cJ 6 fY, aJ aZ cJ 6 fZ, aJ aMY cJ 6 fMY, aJ aMT cJ 6 fMT, aI aMR cI 60 fMR, aI aMB cI 60 fMB, aI aMN cI 60 fMN]) (As := []) (rest := [.int r369]) ⟨hx, hb, hml, hown, hts⟩ (c_X3_blocks (l := l) (dC := dC) (dI := dI) (cI := cI) (cJ := cJ) (cZ := cZ) (aM := aM) (aMM := aMM) (aML := aML) (aMY := aMY) (aMT := aMT) (aMR := aMR) (aMB := aMB) (aMN := aMN) h) (cwV 0 hts gL_law_X3_blocks rfl rfl rfl hv_X3_blocks ⟨Nat.le_of_ble_eq_true rfl, Nat.le_of_ble_eq_true rfl⟩) hK hP hD hS hA [10, 11, 12] [0, 1, 2, 3, 4, 5, 6, 7, 8, 9, 13, 14, 15, 16, 17] rfl rfl rfl rfl (by decide) 3 rfl rfl rfl rfl hl.1 rfl (Nat.le_of_ble_eq_true rfl) ⟨Nat.le_of_ble_eq_true rfl, Nat.le_of_ble_eq_true rfl⟩ dL_law_373 (fun r373 fML_373 H locs h hP hD hS => ?_)
          have hP : va_P (dC, dI) vwCl [oR aR aT aP, oP aP aL aN pk, aI aL cI 60 fL, aI aN cI 60 fN, oT aT aB aWK aRE aY aZ tk, aI aB cI 6 fB, aI aWK cI 61 fWK, aI aRE cI 61 fRE, aJ aY cJ 6 fY, aJ aZ cJ 6 fZ, oM aM aMM aML aMY aMT aMR aMB aMN mk mp, aI aMM cZ 36 fMM, aJ aML cJ 61 fML_373, aJ aMY cJ 6 fMY, aJ aMT cJ 6 fMT, aI aMR cI 60 fMR, aI aMB cI 60 fMB, aI aMN cI 60 fMN] H := hP.sub [0, 1, 2, 3, 4, 5, 6, 7, 8, 9, 15, 16, 17, 10, 11, 12, 13, 14] rfl
          have hD : va_D A [oR aR aT aP, oP aP aL aN pk, aI aL cI 60 fL, aI aN cI 60 fN, oT aT aB aWK aRE aY aZ tk, aI aB cI 6 fB, aI aWK cI 61 fWK, aI aRE cI 61 fRE, aJ aY cJ 6 fY, aJ aZ cJ 6 fZ, oM aM aMM aML aMY aMT aMR aMB aMN mk mp, aI aMM cZ 36 fMM, aJ aML cJ 61 fML_373, aJ aMY cJ 6 fMY, aJ aMT cJ 6 fMT, aI aMR cI 60 fMR, aI aMB cI 60 fMB, aI aMN cI 60 fMN] := hD.sub [0, 1, 2, 3, 4, 5, 6, 7, 8, 9, 15, 16, 17, 10, 11, 12, 13, 14] rfl rfl
          refine lv_icmp_eq (tgt := 758) hx hb dL_law_376 (by decide) (fun q376 => ?_) (fun q376 => ?_)
          · have h := h.1 q376
            obtain ⟨v758, ev758⟩ : ∃ y : Int32, y = x3 + (4 : Int32) := ⟨_, rfl⟩
            have h := h v758 ev758
            refine lv_iinc (v := v758) (lv' := [(3, .int v758), (0, .ref aS), (1, .ref aR), (2, .ref aM)]) hx hb dL_law_758 hl (k := 3) rfl (by rw [ev758]; rfl) (by decide) rfl (fun ls hl => ?_)
            refine lv_goto (tgt := 18) hx hb dL_law_761 (by decide) ?_
            exact h H locs ls hP hD hS (lv_sub hl [1, 2, 3, 0] rfl)
          · have h := h.2 q376
            refine lv_iconst (v := 0) hx hb dL_law_379 (by decide) ?_
            exact ret _ _ _ _ _ _ _ _ _ _ _ _ _ _ _ _ _ _ _ H locs ls _ dL_law_380 (Or.inl rfl) h hP hD hS
        · have h := h.2.2.2.2.2.2.2.1 q
          refine lv_tableIn (off := 349) (tgt := 381) hx hb dL_law_32 (by rw [q]; decide) (by rw [q]; decide) (by rw [q]; decide) (by decide) ?_
          refine lv_aload_n hx hb dL_law_381 rfl (lv_at hl 1 rfl) ?_
          refine lv_aload_n hx hb dL_law_382 rfl (lv_at hl 0 rfl) ?_
          refine lv_iload_n hx hb dL_law_383 rfl (lv_at hl 3 rfl) ?_
          refine lv_iconst (v := 1) hx hb dL_law_384 (by decide) ?_
          refine lv_iadd hx hb dL_law_385 ?_
          refine va_sld hx hb hX hbl hbA hS h.1 dL_law_386 ?_
          have h := h.2
          refine mVi (wr := [oP aP aL aN pk, aI aL cI 60 fL, aI aN cI 60 fN, aI aWK cI 61 fWK, aI aRE cI 61 fRE, aJ aY cJ 6 fY, aJ aZ cJ 6 fZ, oM aM aMM aML aMY aMT aMR aMB aMN mk mp, aI aMM cZ 36 fMM, aJ aML cJ 61 fML, aJ aMY cJ 6 fMY, aJ aMT cJ 6 fMT, aI aMR cI 60 fMR, aI aMB cI 60 fMB, aI aMN cI 60 fMN]) (As := [.int (xs (x3 + (1 : Int32)).toNatClampNeg)]) (rest := []) ⟨hx, hb, hml, hown, hts⟩ (c_X2_block (l := l) (dC := dC) (dI := dI) (cI := cI) (cJ := cJ) (cZ := cZ) (aR := aR) (aT := aT) (aP := aP) (aB := aB) (aWK := aWK) (aRE := aRE) (aY := aY) (aZ := aZ) h) (cwV 1 hts gL_law_X2_block rfl rfl rfl hv_X2_block ⟨Nat.le_of_ble_eq_true rfl, Nat.le_of_ble_eq_true rfl⟩) hK hP hD hS hA [0, 4, 5] [1, 2, 3, 6, 7, 8, 9, 10, 11, 12, 13, 14, 15, 16, 17] rfl rfl rfl rfl (by decide) 2 rfl rfl rfl rfl hl.1 rfl (Nat.le_of_ble_eq_true rfl) ⟨Nat.le_of_ble_eq_true rfl, Nat.le_of_ble_eq_true rfl⟩ dL_law_387 (fun r387 u387 H locs h hP hD hS => ?_)
          have hP : va_P (dC, dI) vwCl [oR aR aT aP, oP aP aL aN pk, aI aL cI 60 fL, aI aN cI 60 fN, oT aT aB aWK aRE aY aZ tk, aI aB cI 6 fB, aI aWK cI 61 fWK, aI aRE cI 61 fRE, aJ aY cJ 6 fY, aJ aZ cJ 6 fZ, oM aM aMM aML aMY aMT aMR aMB aMN mk mp, aI aMM cZ 36 fMM, aJ aML cJ 61 fML, aJ aMY cJ 6 fMY, aJ aMT cJ 6 fMT, aI aMR cI 60 fMR, aI aMB cI 60 fMB, aI aMN cI 60 fMN] H := hP.sub [15, 0, 1, 2, 16, 17, 3, 4, 5, 6, 7, 8, 9, 10, 11, 12, 13, 14] rfl
          have hD : va_D A [oR aR aT aP, oP aP aL aN pk, aI aL cI 60 fL, aI aN cI 60 fN, oT aT aB aWK aRE aY aZ tk, aI aB cI 6 fB, aI aWK cI 61 fWK, aI aRE cI 61 fRE, aJ aY cJ 6 fY, aJ aZ cJ 6 fZ, oM aM aMM aML aMY aMT aMR aMB aMN mk mp, aI aMM cZ 36 fMM, aJ aML cJ 61 fML, aJ aMY cJ 6 fMY, aJ aMT cJ 6 fMT, aI aMR cI 60 fMR, aI aMB cI 60 fMB, aI aMN cI 60 fMN] := hD.sub [15, 0, 1, 2, 16, 17, 3, 4, 5, 6, 7, 8, 9, 10, 11, 12, 13, 14] rfl rfl
          refine lv_aload_n hx hb dL_law_390 rfl (lv_at hl 2 rfl) ?_
          refine lv_aload_n hx hb dL_law_391 rfl (lv_at hl 0 rfl) ?_
          refine lv_iload_n hx hb dL_law_392 rfl (lv_at hl 3 rfl) ?_
          refine lv_iconst (v := 1) hx hb dL_law_393 (by decide) ?_
          refine lv_iadd hx hb dL_law_394 ?_
          refine va_sld hx hb hX hbl hbA hS h.1 dL_law_395 ?_
          have h := h.2
          refine mVi (wr := [oR aR aT aP, oP aP aL aN pk, aI aL cI 60 fL, aI aN cI 60 fN, oT aT aB aWK aRE aY aZ tk, aI aB cI 6 fB, aI aWK cI 61 fWK, aI aRE cI 61 fRE, aJ aY cJ 6 fY, aJ aZ cJ 6 fZ, aJ aMY cJ 6 fMY, aJ aMT cJ 6 fMT, aI aMR cI 60 fMR, aI aMB cI 60 fMB, aI aMN cI 60 fMN]) (As := [.int (xs (x3 + (1 : Int32)).toNatClampNeg)]) (rest := [.int r387]) ⟨hx, hb, hml, hown, hts⟩ (c_X3_block (l := l) (dC := dC) (dI := dI) (cI := cI) (cJ := cJ) (cZ := cZ) (aM := aM) (aMM := aMM) (aML := aML) (aMY := aMY) (aMT := aMT) (aMR := aMR) (aMB := aMB) (aMN := aMN) h) (cwV 1 hts gL_law_X3_block rfl rfl rfl hv_X3_block ⟨Nat.le_of_ble_eq_true rfl, Nat.le_of_ble_eq_true rfl⟩) hK hP hD hS hA [10, 11, 12] [0, 1, 2, 3, 4, 5, 6, 7, 8, 9, 13, 14, 15, 16, 17] rfl rfl rfl rfl (by decide) 3 rfl rfl rfl rfl hl.1 rfl (Nat.le_of_ble_eq_true rfl) ⟨Nat.le_of_ble_eq_true rfl, Nat.le_of_ble_eq_true rfl⟩ dL_law_396 (fun r396 fML_396 H locs h hP hD hS => ?_)
          have hP : va_P (dC, dI) vwCl [oR aR aT aP, oP aP aL aN pk, aI aL cI 60 fL, aI aN cI 60 fN, oT aT aB aWK aRE aY aZ tk, aI aB cI 6 fB, aI aWK cI 61 fWK, aI aRE cI 61 fRE, aJ aY cJ 6 fY, aJ aZ cJ 6 fZ, oM aM aMM aML aMY aMT aMR aMB aMN mk mp, aI aMM cZ 36 fMM, aJ aML cJ 61 fML_396, aJ aMY cJ 6 fMY, aJ aMT cJ 6 fMT, aI aMR cI 60 fMR, aI aMB cI 60 fMB, aI aMN cI 60 fMN] H := hP.sub [0, 1, 2, 3, 4, 5, 6, 7, 8, 9, 15, 16, 17, 10, 11, 12, 13, 14] rfl
          have hD : va_D A [oR aR aT aP, oP aP aL aN pk, aI aL cI 60 fL, aI aN cI 60 fN, oT aT aB aWK aRE aY aZ tk, aI aB cI 6 fB, aI aWK cI 61 fWK, aI aRE cI 61 fRE, aJ aY cJ 6 fY, aJ aZ cJ 6 fZ, oM aM aMM aML aMY aMT aMR aMB aMN mk mp, aI aMM cZ 36 fMM, aJ aML cJ 61 fML_396, aJ aMY cJ 6 fMY, aJ aMT cJ 6 fMT, aI aMR cI 60 fMR, aI aMB cI 60 fMB, aI aMN cI 60 fMN] := hD.sub [0, 1, 2, 3, 4, 5, 6, 7, 8, 9, 15, 16, 17, 10, 11, 12, 13, 14] rfl rfl
          refine lv_icmp_eq (tgt := 758) hx hb dL_law_399 (by decide) (fun q399 => ?_) (fun q399 => ?_)
          · have h := h.1 q399
            obtain ⟨v758, ev758⟩ : ∃ y : Int32, y = x3 + (4 : Int32) := ⟨_, rfl⟩
            have h := h v758 ev758
            refine lv_iinc (v := v758) (lv' := [(3, .int v758), (0, .ref aS), (1, .ref aR), (2, .ref aM)]) hx hb dL_law_758 hl (k := 3) rfl (by rw [ev758]; rfl) (by decide) rfl (fun ls hl => ?_)
            refine lv_goto (tgt := 18) hx hb dL_law_761 (by decide) ?_
            exact h H locs ls hP hD hS (lv_sub hl [1, 2, 3, 0] rfl)
          · have h := h.2 q399
            refine lv_iconst (v := 0) hx hb dL_law_402 (by decide) ?_
            exact ret _ _ _ _ _ _ _ _ _ _ _ _ _ _ _ _ _ _ _ H locs ls _ dL_law_403 (Or.inl rfl) h hP hD hS
        · have h := h.2.2.2.2.2.2.2.2.1 q
          refine lv_tableIn (off := 372) (tgt := 404) hx hb dL_law_32 (by rw [q]; decide) (by rw [q]; decide) (by rw [q]; decide) (by decide) ?_
          refine lv_aload_n hx hb dL_law_404 rfl (lv_at hl 1 rfl) ?_
          refine lv_aload_n hx hb dL_law_405 rfl (lv_at hl 0 rfl) ?_
          refine lv_iload_n hx hb dL_law_406 rfl (lv_at hl 3 rfl) ?_
          refine lv_iconst (v := 1) hx hb dL_law_407 (by decide) ?_
          refine lv_iadd hx hb dL_law_408 ?_
          refine va_sld hx hb hX hbl hbA hS h.1 dL_law_409 ?_
          have h := h.2
          refine mVi (wr := [oP aP aL aN pk, aI aL cI 60 fL, aI aN cI 60 fN, aI aWK cI 61 fWK, aJ aY cJ 6 fY, aJ aZ cJ 6 fZ, oM aM aMM aML aMY aMT aMR aMB aMN mk mp, aI aMM cZ 36 fMM, aJ aML cJ 61 fML, aJ aMY cJ 6 fMY, aJ aMT cJ 6 fMT, aI aMR cI 60 fMR, aI aMB cI 60 fMB, aI aMN cI 60 fMN]) (As := [.int (xs (x3 + (1 : Int32)).toNatClampNeg)]) (rest := []) ⟨hx, hb, hml, hown, hts⟩ (c_X2_pace (l := l) (dC := dC) (dI := dI) (cI := cI) (cJ := cJ) (cZ := cZ) (aR := aR) (aT := aT) (aP := aP) (aB := aB) (aWK := aWK) (aRE := aRE) (aY := aY) (aZ := aZ) h) (cwV 1 hts gL_law_X2_pace rfl rfl rfl hv_X2_pace ⟨Nat.le_of_ble_eq_true rfl, Nat.le_of_ble_eq_true rfl⟩) hK hP hD hS hA [0, 4, 5, 7] [1, 2, 3, 6, 8, 9, 10, 11, 12, 13, 14, 15, 16, 17] rfl rfl rfl rfl (by decide) 2 rfl rfl rfl rfl hl.1 rfl (Nat.le_of_ble_eq_true rfl) ⟨Nat.le_of_ble_eq_true rfl, Nat.le_of_ble_eq_true rfl⟩ dL_law_410 (fun r410 fRE_410 H locs h hP hD hS => ?_)
          have hP : va_P (dC, dI) vwCl [oR aR aT aP, oP aP aL aN pk, aI aL cI 60 fL, aI aN cI 60 fN, oT aT aB aWK aRE aY aZ tk, aI aB cI 6 fB, aI aWK cI 61 fWK, aI aRE cI 61 fRE_410, aJ aY cJ 6 fY, aJ aZ cJ 6 fZ, oM aM aMM aML aMY aMT aMR aMB aMN mk mp, aI aMM cZ 36 fMM, aJ aML cJ 61 fML, aJ aMY cJ 6 fMY, aJ aMT cJ 6 fMT, aI aMR cI 60 fMR, aI aMB cI 60 fMB, aI aMN cI 60 fMN] H := hP.sub [14, 0, 1, 2, 15, 16, 3, 17, 4, 5, 6, 7, 8, 9, 10, 11, 12, 13] rfl
          have hD : va_D A [oR aR aT aP, oP aP aL aN pk, aI aL cI 60 fL, aI aN cI 60 fN, oT aT aB aWK aRE aY aZ tk, aI aB cI 6 fB, aI aWK cI 61 fWK, aI aRE cI 61 fRE_410, aJ aY cJ 6 fY, aJ aZ cJ 6 fZ, oM aM aMM aML aMY aMT aMR aMB aMN mk mp, aI aMM cZ 36 fMM, aJ aML cJ 61 fML, aJ aMY cJ 6 fMY, aJ aMT cJ 6 fMT, aI aMR cI 60 fMR, aI aMB cI 60 fMB, aI aMN cI 60 fMN] := hD.sub [14, 0, 1, 2, 15, 16, 3, 17, 4, 5, 6, 7, 8, 9, 10, 11, 12, 13] rfl rfl
          refine lv_aload_n hx hb dL_law_413 rfl (lv_at hl 2 rfl) ?_
          refine lv_aload_n hx hb dL_law_414 rfl (lv_at hl 0 rfl) ?_
          refine lv_iload_n hx hb dL_law_415 rfl (lv_at hl 3 rfl) ?_
          refine lv_iconst (v := 1) hx hb dL_law_416 (by decide) ?_
          refine lv_iadd hx hb dL_law_417 ?_
          refine va_sld hx hb hX hbl hbA hS h.1 dL_law_418 ?_
          have h := h.2
          refine mVi (wr := [oR aR aT aP, oP aP aL aN pk, aI aL cI 60 fL, aI aN cI 60 fN, oT aT aB aWK aRE aY aZ tk, aI aB cI 6 fB, aI aWK cI 61 fWK, aI aRE cI 61 fRE_410, aJ aY cJ 6 fY, aJ aZ cJ 6 fZ, aJ aMY cJ 6 fMY, aJ aMT cJ 6 fMT, aI aMR cI 60 fMR, aI aMB cI 60 fMB, aI aMN cI 60 fMN]) (As := [.int (xs (x3 + (1 : Int32)).toNatClampNeg)]) (rest := [.int r410]) ⟨hx, hb, hml, hown, hts⟩ (c_X3_pace (l := l) (dC := dC) (dI := dI) (cI := cI) (cJ := cJ) (cZ := cZ) (aM := aM) (aMM := aMM) (aML := aML) (aMY := aMY) (aMT := aMT) (aMR := aMR) (aMB := aMB) (aMN := aMN) h) (cwV 1 hts gL_law_X3_pace rfl rfl rfl hv_X3_pace ⟨Nat.le_of_ble_eq_true rfl, Nat.le_of_ble_eq_true rfl⟩) hK hP hD hS hA [10, 11, 12] [0, 1, 2, 3, 4, 5, 6, 7, 8, 9, 13, 14, 15, 16, 17] rfl rfl rfl rfl (by decide) 3 rfl rfl rfl rfl hl.1 rfl (Nat.le_of_ble_eq_true rfl) ⟨Nat.le_of_ble_eq_true rfl, Nat.le_of_ble_eq_true rfl⟩ dL_law_419 (fun r419 fML_419 H locs h hP hD hS => ?_)
          have hP : va_P (dC, dI) vwCl [oR aR aT aP, oP aP aL aN pk, aI aL cI 60 fL, aI aN cI 60 fN, oT aT aB aWK aRE aY aZ tk, aI aB cI 6 fB, aI aWK cI 61 fWK, aI aRE cI 61 fRE_410, aJ aY cJ 6 fY, aJ aZ cJ 6 fZ, oM aM aMM aML aMY aMT aMR aMB aMN mk mp, aI aMM cZ 36 fMM, aJ aML cJ 61 fML_419, aJ aMY cJ 6 fMY, aJ aMT cJ 6 fMT, aI aMR cI 60 fMR, aI aMB cI 60 fMB, aI aMN cI 60 fMN] H := hP.sub [0, 1, 2, 3, 4, 5, 6, 7, 8, 9, 15, 16, 17, 10, 11, 12, 13, 14] rfl
          have hD : va_D A [oR aR aT aP, oP aP aL aN pk, aI aL cI 60 fL, aI aN cI 60 fN, oT aT aB aWK aRE aY aZ tk, aI aB cI 6 fB, aI aWK cI 61 fWK, aI aRE cI 61 fRE_410, aJ aY cJ 6 fY, aJ aZ cJ 6 fZ, oM aM aMM aML aMY aMT aMR aMB aMN mk mp, aI aMM cZ 36 fMM, aJ aML cJ 61 fML_419, aJ aMY cJ 6 fMY, aJ aMT cJ 6 fMT, aI aMR cI 60 fMR, aI aMB cI 60 fMB, aI aMN cI 60 fMN] := hD.sub [0, 1, 2, 3, 4, 5, 6, 7, 8, 9, 15, 16, 17, 10, 11, 12, 13, 14] rfl rfl
          refine lv_icmp_eq (tgt := 758) hx hb dL_law_422 (by decide) (fun q422 => ?_) (fun q422 => ?_)
          · have h := h.1 q422
            obtain ⟨v758, ev758⟩ : ∃ y : Int32, y = x3 + (4 : Int32) := ⟨_, rfl⟩
            have h := h v758 ev758
            refine lv_iinc (v := v758) (lv' := [(3, .int v758), (0, .ref aS), (1, .ref aR), (2, .ref aM)]) hx hb dL_law_758 hl (k := 3) rfl (by rw [ev758]; rfl) (by decide) rfl (fun ls hl => ?_)
            refine lv_goto (tgt := 18) hx hb dL_law_761 (by decide) ?_
            exact h H locs ls hP hD hS (lv_sub hl [1, 2, 3, 0] rfl)
          · have h := h.2 q422
            refine lv_iconst (v := 0) hx hb dL_law_425 (by decide) ?_
            exact ret _ _ _ _ _ _ _ _ _ _ _ _ _ _ _ _ _ _ _ H locs ls _ dL_law_426 (Or.inl rfl) h hP hD hS
        · have h := h.2.2.2.2.2.2.2.2.2.1 q
          refine lv_tableIn (off := 395) (tgt := 427) hx hb dL_law_32 (by rw [q]; decide) (by rw [q]; decide) (by rw [q]; decide) (by decide) ?_
          refine lv_aload_n hx hb dL_law_427 rfl (lv_at hl 1 rfl) ?_
          refine mVi (wr := [oP aP aL aN pk, aI aL cI 60 fL, aI aN cI 60 fN, aI aWK cI 61 fWK, aJ aY cJ 6 fY, aJ aZ cJ 6 fZ, oM aM aMM aML aMY aMT aMR aMB aMN mk mp, aI aMM cZ 36 fMM, aJ aML cJ 61 fML, aJ aMY cJ 6 fMY, aJ aMT cJ 6 fMT, aI aMR cI 60 fMR, aI aMB cI 60 fMB, aI aMN cI 60 fMN]) (As := []) (rest := []) ⟨hx, hb, hml, hown, hts⟩ (c_X2_kind (l := l) (dC := dC) (dI := dI) (cI := cI) (cJ := cJ) (cZ := cZ) (aR := aR) (aT := aT) (aP := aP) (aB := aB) (aWK := aWK) (aRE := aRE) (aY := aY) (aZ := aZ) h) (cwV 0 hts gL_law_X2_kind rfl rfl rfl hv_X2_kind ⟨Nat.le_of_ble_eq_true rfl, Nat.le_of_ble_eq_true rfl⟩) hK hP hD hS hA [0, 4, 5, 7] [1, 2, 3, 6, 8, 9, 10, 11, 12, 13, 14, 15, 16, 17] rfl rfl rfl rfl (by decide) 2 rfl rfl rfl rfl hl.1 rfl (Nat.le_of_ble_eq_true rfl) ⟨Nat.le_of_ble_eq_true rfl, Nat.le_of_ble_eq_true rfl⟩ dL_law_428 (fun r428 fRE_428 H locs h hP hD hS => ?_)
          have hP : va_P (dC, dI) vwCl [oR aR aT aP, oP aP aL aN pk, aI aL cI 60 fL, aI aN cI 60 fN, oT aT aB aWK aRE aY aZ tk, aI aB cI 6 fB, aI aWK cI 61 fWK, aI aRE cI 61 fRE_428, aJ aY cJ 6 fY, aJ aZ cJ 6 fZ, oM aM aMM aML aMY aMT aMR aMB aMN mk mp, aI aMM cZ 36 fMM, aJ aML cJ 61 fML, aJ aMY cJ 6 fMY, aJ aMT cJ 6 fMT, aI aMR cI 60 fMR, aI aMB cI 60 fMB, aI aMN cI 60 fMN] H := hP.sub [14, 0, 1, 2, 15, 16, 3, 17, 4, 5, 6, 7, 8, 9, 10, 11, 12, 13] rfl
          have hD : va_D A [oR aR aT aP, oP aP aL aN pk, aI aL cI 60 fL, aI aN cI 60 fN, oT aT aB aWK aRE aY aZ tk, aI aB cI 6 fB, aI aWK cI 61 fWK, aI aRE cI 61 fRE_428, aJ aY cJ 6 fY, aJ aZ cJ 6 fZ, oM aM aMM aML aMY aMT aMR aMB aMN mk mp, aI aMM cZ 36 fMM, aJ aML cJ 61 fML, aJ aMY cJ 6 fMY, aJ aMT cJ 6 fMT, aI aMR cI 60 fMR, aI aMB cI 60 fMB, aI aMN cI 60 fMN] := hD.sub [14, 0, 1, 2, 15, 16, 3, 17, 4, 5, 6, 7, 8, 9, 10, 11, 12, 13] rfl rfl
          refine lv_aload_n hx hb dL_law_431 rfl (lv_at hl 2 rfl) ?_
          refine mVi (wr := [oR aR aT aP, oP aP aL aN pk, aI aL cI 60 fL, aI aN cI 60 fN, oT aT aB aWK aRE aY aZ tk, aI aB cI 6 fB, aI aWK cI 61 fWK, aI aRE cI 61 fRE_428, aJ aY cJ 6 fY, aJ aZ cJ 6 fZ, aJ aMY cJ 6 fMY, aJ aMT cJ 6 fMT, aI aMR cI 60 fMR, aI aMB cI 60 fMB, aI aMN cI 60 fMN]) (As := []) (rest := [.int r428]) ⟨hx, hb, hml, hown, hts⟩ (c_X3_kind (l := l) (dC := dC) (dI := dI) (cI := cI) (cJ := cJ) (cZ := cZ) (aM := aM) (aMM := aMM) (aML := aML) (aMY := aMY) (aMT := aMT) (aMR := aMR) (aMB := aMB) (aMN := aMN) h) (cwV 0 hts gL_law_X3_kind rfl rfl rfl hv_X3_kind ⟨Nat.le_of_ble_eq_true rfl, Nat.le_of_ble_eq_true rfl⟩) hK hP hD hS hA [10, 11, 12] [0, 1, 2, 3, 4, 5, 6, 7, 8, 9, 13, 14, 15, 16, 17] rfl rfl rfl rfl (by decide) 3 rfl rfl rfl rfl hl.1 rfl (Nat.le_of_ble_eq_true rfl) ⟨Nat.le_of_ble_eq_true rfl, Nat.le_of_ble_eq_true rfl⟩ dL_law_432 (fun r432 fML_432 H locs h hP hD hS => ?_)
          have hP : va_P (dC, dI) vwCl [oR aR aT aP, oP aP aL aN pk, aI aL cI 60 fL, aI aN cI 60 fN, oT aT aB aWK aRE aY aZ tk, aI aB cI 6 fB, aI aWK cI 61 fWK, aI aRE cI 61 fRE_428, aJ aY cJ 6 fY, aJ aZ cJ 6 fZ, oM aM aMM aML aMY aMT aMR aMB aMN mk mp, aI aMM cZ 36 fMM, aJ aML cJ 61 fML_432, aJ aMY cJ 6 fMY, aJ aMT cJ 6 fMT, aI aMR cI 60 fMR, aI aMB cI 60 fMB, aI aMN cI 60 fMN] H := hP.sub [0, 1, 2, 3, 4, 5, 6, 7, 8, 9, 15, 16, 17, 10, 11, 12, 13, 14] rfl
          have hD : va_D A [oR aR aT aP, oP aP aL aN pk, aI aL cI 60 fL, aI aN cI 60 fN, oT aT aB aWK aRE aY aZ tk, aI aB cI 6 fB, aI aWK cI 61 fWK, aI aRE cI 61 fRE_428, aJ aY cJ 6 fY, aJ aZ cJ 6 fZ, oM aM aMM aML aMY aMT aMR aMB aMN mk mp, aI aMM cZ 36 fMM, aJ aML cJ 61 fML_432, aJ aMY cJ 6 fMY, aJ aMT cJ 6 fMT, aI aMR cI 60 fMR, aI aMB cI 60 fMB, aI aMN cI 60 fMN] := hD.sub [0, 1, 2, 3, 4, 5, 6, 7, 8, 9, 15, 16, 17, 10, 11, 12, 13, 14] rfl rfl
          refine lv_icmp_eq (tgt := 758) hx hb dL_law_435 (by decide) (fun q435 => ?_) (fun q435 => ?_)
          · have h := h.1 q435
            obtain ⟨v758, ev758⟩ : ∃ y : Int32, y = x3 + (4 : Int32) := ⟨_, rfl⟩
            have h := h v758 ev758
            refine lv_iinc (v := v758) (lv' := [(3, .int v758), (0, .ref aS), (1, .ref aR), (2, .ref aM)]) hx hb dL_law_758 hl (k := 3) rfl (by rw [ev758]; rfl) (by decide) rfl (fun ls hl => ?_)
            refine lv_goto (tgt := 18) hx hb dL_law_761 (by decide) ?_
            exact h H locs ls hP hD hS (lv_sub hl [1, 2, 3, 0] rfl)
          · have h := h.2 q435
            refine lv_iconst (v := 0) hx hb dL_law_438 (by decide) ?_
            exact ret _ _ _ _ _ _ _ _ _ _ _ _ _ _ _ _ _ _ _ H locs ls _ dL_law_439 (Or.inl rfl) h hP hD hS
        · have h := h.2.2.2.2.2.2.2.2.2.2.1 q
          refine lv_tableIn (off := 408) (tgt := 440) hx hb dL_law_32 (by rw [q]; decide) (by rw [q]; decide) (by rw [q]; decide) (by decide) ?_
          refine lv_aload_n hx hb dL_law_440 rfl (lv_at hl 1 rfl) ?_
          refine mVi (wr := [oP aP aL aN pk, aI aL cI 60 fL, aI aN cI 60 fN, aI aWK cI 61 fWK, aJ aY cJ 6 fY, aJ aZ cJ 6 fZ, oM aM aMM aML aMY aMT aMR aMB aMN mk mp, aI aMM cZ 36 fMM, aJ aML cJ 61 fML, aJ aMY cJ 6 fMY, aJ aMT cJ 6 fMT, aI aMR cI 60 fMR, aI aMB cI 60 fMB, aI aMN cI 60 fMN]) (As := []) (rest := []) ⟨hx, hb, hml, hown, hts⟩ (c_X2_sure (l := l) (dC := dC) (dI := dI) (cI := cI) (cJ := cJ) (cZ := cZ) (aR := aR) (aT := aT) (aP := aP) (aB := aB) (aWK := aWK) (aRE := aRE) (aY := aY) (aZ := aZ) h) (cwV 0 hts gL_law_X2_sure rfl rfl rfl hv_X2_sure ⟨Nat.le_of_ble_eq_true rfl, Nat.le_of_ble_eq_true rfl⟩) hK hP hD hS hA [0, 4, 5, 7] [1, 2, 3, 6, 8, 9, 10, 11, 12, 13, 14, 15, 16, 17] rfl rfl rfl rfl (by decide) 2 rfl rfl rfl rfl hl.1 rfl (Nat.le_of_ble_eq_true rfl) ⟨Nat.le_of_ble_eq_true rfl, Nat.le_of_ble_eq_true rfl⟩ dL_law_441 (fun r441 fRE_441 H locs h hP hD hS => ?_)
          have hP : va_P (dC, dI) vwCl [oR aR aT aP, oP aP aL aN pk, aI aL cI 60 fL, aI aN cI 60 fN, oT aT aB aWK aRE aY aZ tk, aI aB cI 6 fB, aI aWK cI 61 fWK, aI aRE cI 61 fRE_441, aJ aY cJ 6 fY, aJ aZ cJ 6 fZ, oM aM aMM aML aMY aMT aMR aMB aMN mk mp, aI aMM cZ 36 fMM, aJ aML cJ 61 fML, aJ aMY cJ 6 fMY, aJ aMT cJ 6 fMT, aI aMR cI 60 fMR, aI aMB cI 60 fMB, aI aMN cI 60 fMN] H := hP.sub [14, 0, 1, 2, 15, 16, 3, 17, 4, 5, 6, 7, 8, 9, 10, 11, 12, 13] rfl
          have hD : va_D A [oR aR aT aP, oP aP aL aN pk, aI aL cI 60 fL, aI aN cI 60 fN, oT aT aB aWK aRE aY aZ tk, aI aB cI 6 fB, aI aWK cI 61 fWK, aI aRE cI 61 fRE_441, aJ aY cJ 6 fY, aJ aZ cJ 6 fZ, oM aM aMM aML aMY aMT aMR aMB aMN mk mp, aI aMM cZ 36 fMM, aJ aML cJ 61 fML, aJ aMY cJ 6 fMY, aJ aMT cJ 6 fMT, aI aMR cI 60 fMR, aI aMB cI 60 fMB, aI aMN cI 60 fMN] := hD.sub [14, 0, 1, 2, 15, 16, 3, 17, 4, 5, 6, 7, 8, 9, 10, 11, 12, 13] rfl rfl
          refine lv_aload_n hx hb dL_law_444 rfl (lv_at hl 2 rfl) ?_
          refine mVi (wr := [oR aR aT aP, oP aP aL aN pk, aI aL cI 60 fL, aI aN cI 60 fN, oT aT aB aWK aRE aY aZ tk, aI aB cI 6 fB, aI aWK cI 61 fWK, aI aRE cI 61 fRE_441, aJ aY cJ 6 fY, aJ aZ cJ 6 fZ, aJ aMY cJ 6 fMY, aJ aMT cJ 6 fMT, aI aMR cI 60 fMR, aI aMB cI 60 fMB, aI aMN cI 60 fMN]) (As := []) (rest := [.int r441]) ⟨hx, hb, hml, hown, hts⟩ (c_X3_sure (l := l) (dC := dC) (dI := dI) (cI := cI) (cJ := cJ) (cZ := cZ) (aM := aM) (aMM := aMM) (aML := aML) (aMY := aMY) (aMT := aMT) (aMR := aMR) (aMB := aMB) (aMN := aMN) h) (cwV 0 hts gL_law_X3_sure rfl rfl rfl hv_X3_sure ⟨Nat.le_of_ble_eq_true rfl, Nat.le_of_ble_eq_true rfl⟩) hK hP hD hS hA [10, 11, 12] [0, 1, 2, 3, 4, 5, 6, 7, 8, 9, 13, 14, 15, 16, 17] rfl rfl rfl rfl (by decide) 3 rfl rfl rfl rfl hl.1 rfl (Nat.le_of_ble_eq_true rfl) ⟨Nat.le_of_ble_eq_true rfl, Nat.le_of_ble_eq_true rfl⟩ dL_law_445 (fun r445 fML_445 H locs h hP hD hS => ?_)
          have hP : va_P (dC, dI) vwCl [oR aR aT aP, oP aP aL aN pk, aI aL cI 60 fL, aI aN cI 60 fN, oT aT aB aWK aRE aY aZ tk, aI aB cI 6 fB, aI aWK cI 61 fWK, aI aRE cI 61 fRE_441, aJ aY cJ 6 fY, aJ aZ cJ 6 fZ, oM aM aMM aML aMY aMT aMR aMB aMN mk mp, aI aMM cZ 36 fMM, aJ aML cJ 61 fML_445, aJ aMY cJ 6 fMY, aJ aMT cJ 6 fMT, aI aMR cI 60 fMR, aI aMB cI 60 fMB, aI aMN cI 60 fMN] H := hP.sub [0, 1, 2, 3, 4, 5, 6, 7, 8, 9, 15, 16, 17, 10, 11, 12, 13, 14] rfl
          have hD : va_D A [oR aR aT aP, oP aP aL aN pk, aI aL cI 60 fL, aI aN cI 60 fN, oT aT aB aWK aRE aY aZ tk, aI aB cI 6 fB, aI aWK cI 61 fWK, aI aRE cI 61 fRE_441, aJ aY cJ 6 fY, aJ aZ cJ 6 fZ, oM aM aMM aML aMY aMT aMR aMB aMN mk mp, aI aMM cZ 36 fMM, aJ aML cJ 61 fML_445, aJ aMY cJ 6 fMY, aJ aMT cJ 6 fMT, aI aMR cI 60 fMR, aI aMB cI 60 fMB, aI aMN cI 60 fMN] := hD.sub [0, 1, 2, 3, 4, 5, 6, 7, 8, 9, 15, 16, 17, 10, 11, 12, 13, 14] rfl rfl
          refine lv_icmp_eq (tgt := 758) hx hb dL_law_448 (by decide) (fun q448 => ?_) (fun q448 => ?_)
          · have h := h.1 q448
            obtain ⟨v758, ev758⟩ : ∃ y : Int32, y = x3 + (4 : Int32) := ⟨_, rfl⟩
            have h := h v758 ev758
            refine lv_iinc (v := v758) (lv' := [(3, .int v758), (0, .ref aS), (1, .ref aR), (2, .ref aM)]) hx hb dL_law_758 hl (k := 3) rfl (by rw [ev758]; rfl) (by decide) rfl (fun ls hl => ?_)
            refine lv_goto (tgt := 18) hx hb dL_law_761 (by decide) ?_
            exact h H locs ls hP hD hS (lv_sub hl [1, 2, 3, 0] rfl)
          · have h := h.2 q448
            refine lv_iconst (v := 0) hx hb dL_law_451 (by decide) ?_
            exact ret _ _ _ _ _ _ _ _ _ _ _ _ _ _ _ _ _ _ _ H locs ls _ dL_law_452 (Or.inl rfl) h hP hD hS
        · have h := h.2.2.2.2.2.2.2.2.2.2.2.1 q
          refine lv_tableIn (off := 421) (tgt := 453) hx hb dL_law_32 (by rw [q]; decide) (by rw [q]; decide) (by rw [q]; decide) (by decide) ?_
          refine lv_aload_n hx hb dL_law_453 rfl (lv_at hl 1 rfl) ?_
          refine lv_aload_n hx hb dL_law_454 rfl (lv_at hl 0 rfl) ?_
          refine lv_iload_n hx hb dL_law_455 rfl (lv_at hl 3 rfl) ?_
          refine lv_iconst (v := 1) hx hb dL_law_456 (by decide) ?_
          refine lv_iadd hx hb dL_law_457 ?_
          refine va_sld hx hb hX hbl hbA hS h.1 dL_law_458 ?_
          have h := h.2
          refine mVi (wr := [oP aP aL aN pk, aI aL cI 60 fL, aI aN cI 60 fN, aI aWK cI 61 fWK, aJ aY cJ 6 fY, aJ aZ cJ 6 fZ, oM aM aMM aML aMY aMT aMR aMB aMN mk mp, aI aMM cZ 36 fMM, aJ aML cJ 61 fML, aJ aMY cJ 6 fMY, aJ aMT cJ 6 fMT, aI aMR cI 60 fMR, aI aMB cI 60 fMB, aI aMN cI 60 fMN]) (As := [.int (xs (x3 + (1 : Int32)).toNatClampNeg)]) (rest := []) ⟨hx, hb, hml, hown, hts⟩ (c_X2_free (l := l) (dC := dC) (dI := dI) (cI := cI) (cJ := cJ) (cZ := cZ) (aR := aR) (aT := aT) (aP := aP) (aB := aB) (aWK := aWK) (aRE := aRE) (aY := aY) (aZ := aZ) h) (cwV 1 hts gL_law_X2_free rfl rfl rfl hv_X2_free ⟨Nat.le_of_ble_eq_true rfl, Nat.le_of_ble_eq_true rfl⟩) hK hP hD hS hA [0, 4, 5, 7] [1, 2, 3, 6, 8, 9, 10, 11, 12, 13, 14, 15, 16, 17] rfl rfl rfl rfl (by decide) 2 rfl rfl rfl rfl hl.1 rfl (Nat.le_of_ble_eq_true rfl) ⟨Nat.le_of_ble_eq_true rfl, Nat.le_of_ble_eq_true rfl⟩ dL_law_459 (fun r459 fRE_459 H locs h hP hD hS => ?_)
          have hP : va_P (dC, dI) vwCl [oR aR aT aP, oP aP aL aN pk, aI aL cI 60 fL, aI aN cI 60 fN, oT aT aB aWK aRE aY aZ tk, aI aB cI 6 fB, aI aWK cI 61 fWK, aI aRE cI 61 fRE_459, aJ aY cJ 6 fY, aJ aZ cJ 6 fZ, oM aM aMM aML aMY aMT aMR aMB aMN mk mp, aI aMM cZ 36 fMM, aJ aML cJ 61 fML, aJ aMY cJ 6 fMY, aJ aMT cJ 6 fMT, aI aMR cI 60 fMR, aI aMB cI 60 fMB, aI aMN cI 60 fMN] H := hP.sub [14, 0, 1, 2, 15, 16, 3, 17, 4, 5, 6, 7, 8, 9, 10, 11, 12, 13] rfl
          have hD : va_D A [oR aR aT aP, oP aP aL aN pk, aI aL cI 60 fL, aI aN cI 60 fN, oT aT aB aWK aRE aY aZ tk, aI aB cI 6 fB, aI aWK cI 61 fWK, aI aRE cI 61 fRE_459, aJ aY cJ 6 fY, aJ aZ cJ 6 fZ, oM aM aMM aML aMY aMT aMR aMB aMN mk mp, aI aMM cZ 36 fMM, aJ aML cJ 61 fML, aJ aMY cJ 6 fMY, aJ aMT cJ 6 fMT, aI aMR cI 60 fMR, aI aMB cI 60 fMB, aI aMN cI 60 fMN] := hD.sub [14, 0, 1, 2, 15, 16, 3, 17, 4, 5, 6, 7, 8, 9, 10, 11, 12, 13] rfl rfl
          refine lv_aload_n hx hb dL_law_462 rfl (lv_at hl 2 rfl) ?_
          refine lv_aload_n hx hb dL_law_463 rfl (lv_at hl 0 rfl) ?_
          refine lv_iload_n hx hb dL_law_464 rfl (lv_at hl 3 rfl) ?_
          refine lv_iconst (v := 1) hx hb dL_law_465 (by decide) ?_
          refine lv_iadd hx hb dL_law_466 ?_
          refine va_sld hx hb hX hbl hbA hS h.1 dL_law_467 ?_
          have h := h.2
          refine mVi (wr := [oR aR aT aP, oP aP aL aN pk, aI aL cI 60 fL, aI aN cI 60 fN, oT aT aB aWK aRE aY aZ tk, aI aB cI 6 fB, aI aWK cI 61 fWK, aI aRE cI 61 fRE_459, aJ aY cJ 6 fY, aJ aZ cJ 6 fZ, aJ aMY cJ 6 fMY, aJ aMT cJ 6 fMT, aI aMR cI 60 fMR, aI aMB cI 60 fMB, aI aMN cI 60 fMN]) (As := [.int (xs (x3 + (1 : Int32)).toNatClampNeg)]) (rest := [.int r459]) ⟨hx, hb, hml, hown, hts⟩ (c_X3_free (l := l) (dC := dC) (dI := dI) (cI := cI) (cJ := cJ) (cZ := cZ) (aM := aM) (aMM := aMM) (aML := aML) (aMY := aMY) (aMT := aMT) (aMR := aMR) (aMB := aMB) (aMN := aMN) h) (cwV 1 hts gL_law_X3_free rfl rfl rfl hv_X3_free ⟨Nat.le_of_ble_eq_true rfl, Nat.le_of_ble_eq_true rfl⟩) hK hP hD hS hA [10, 11, 12] [0, 1, 2, 3, 4, 5, 6, 7, 8, 9, 13, 14, 15, 16, 17] rfl rfl rfl rfl (by decide) 3 rfl rfl rfl rfl hl.1 rfl (Nat.le_of_ble_eq_true rfl) ⟨Nat.le_of_ble_eq_true rfl, Nat.le_of_ble_eq_true rfl⟩ dL_law_468 (fun r468 fML_468 H locs h hP hD hS => ?_)
          have hP : va_P (dC, dI) vwCl [oR aR aT aP, oP aP aL aN pk, aI aL cI 60 fL, aI aN cI 60 fN, oT aT aB aWK aRE aY aZ tk, aI aB cI 6 fB, aI aWK cI 61 fWK, aI aRE cI 61 fRE_459, aJ aY cJ 6 fY, aJ aZ cJ 6 fZ, oM aM aMM aML aMY aMT aMR aMB aMN mk mp, aI aMM cZ 36 fMM, aJ aML cJ 61 fML_468, aJ aMY cJ 6 fMY, aJ aMT cJ 6 fMT, aI aMR cI 60 fMR, aI aMB cI 60 fMB, aI aMN cI 60 fMN] H := hP.sub [0, 1, 2, 3, 4, 5, 6, 7, 8, 9, 15, 16, 17, 10, 11, 12, 13, 14] rfl
          have hD : va_D A [oR aR aT aP, oP aP aL aN pk, aI aL cI 60 fL, aI aN cI 60 fN, oT aT aB aWK aRE aY aZ tk, aI aB cI 6 fB, aI aWK cI 61 fWK, aI aRE cI 61 fRE_459, aJ aY cJ 6 fY, aJ aZ cJ 6 fZ, oM aM aMM aML aMY aMT aMR aMB aMN mk mp, aI aMM cZ 36 fMM, aJ aML cJ 61 fML_468, aJ aMY cJ 6 fMY, aJ aMT cJ 6 fMT, aI aMR cI 60 fMR, aI aMB cI 60 fMB, aI aMN cI 60 fMN] := hD.sub [0, 1, 2, 3, 4, 5, 6, 7, 8, 9, 15, 16, 17, 10, 11, 12, 13, 14] rfl rfl
          refine lv_icmp_eq (tgt := 758) hx hb dL_law_471 (by decide) (fun q471 => ?_) (fun q471 => ?_)
          · have h := h.1 q471
            obtain ⟨v758, ev758⟩ : ∃ y : Int32, y = x3 + (4 : Int32) := ⟨_, rfl⟩
            have h := h v758 ev758
            refine lv_iinc (v := v758) (lv' := [(3, .int v758), (0, .ref aS), (1, .ref aR), (2, .ref aM)]) hx hb dL_law_758 hl (k := 3) rfl (by rw [ev758]; rfl) (by decide) rfl (fun ls hl => ?_)
            refine lv_goto (tgt := 18) hx hb dL_law_761 (by decide) ?_
            exact h H locs ls hP hD hS (lv_sub hl [1, 2, 3, 0] rfl)
          · have h := h.2 q471
            refine lv_iconst (v := 0) hx hb dL_law_474 (by decide) ?_
            exact ret _ _ _ _ _ _ _ _ _ _ _ _ _ _ _ _ _ _ _ H locs ls _ dL_law_475 (Or.inl rfl) h hP hD hS
        · have h := h.2.2.2.2.2.2.2.2.2.2.2.2.1 q
          refine lv_tableIn (off := 444) (tgt := 476) hx hb dL_law_32 (by rw [q]; decide) (by rw [q]; decide) (by rw [q]; decide) (by decide) ?_
          refine lv_aload_n hx hb dL_law_476 rfl (lv_at hl 1 rfl) ?_
          refine mVi (wr := [oP aP aL aN pk, aI aL cI 60 fL, aI aN cI 60 fN, aI aWK cI 61 fWK, aI aRE cI 61 fRE, aJ aY cJ 6 fY, aJ aZ cJ 6 fZ, oM aM aMM aML aMY aMT aMR aMB aMN mk mp, aI aMM cZ 36 fMM, aJ aML cJ 61 fML, aJ aMY cJ 6 fMY, aJ aMT cJ 6 fMT, aI aMR cI 60 fMR, aI aMB cI 60 fMB, aI aMN cI 60 fMN]) (As := []) (rest := []) ⟨hx, hb, hml, hown, hts⟩ (c_X2_mirrors (l := l) (dC := dC) (dI := dI) (cI := cI) (cJ := cJ) (cZ := cZ) (aR := aR) (aT := aT) (aP := aP) (aB := aB) (aWK := aWK) (aRE := aRE) (aY := aY) (aZ := aZ) h) (cwV 0 hts gL_law_X2_mirrors rfl rfl rfl hv_X2_mirrors ⟨Nat.le_of_ble_eq_true rfl, Nat.le_of_ble_eq_true rfl⟩) hK hP hD hS hA [0, 4, 5] [1, 2, 3, 6, 7, 8, 9, 10, 11, 12, 13, 14, 15, 16, 17] rfl rfl rfl rfl (by decide) 2 rfl rfl rfl rfl hl.1 rfl (Nat.le_of_ble_eq_true rfl) ⟨Nat.le_of_ble_eq_true rfl, Nat.le_of_ble_eq_true rfl⟩ dL_law_477 (fun r477 u477 H locs h hP hD hS => ?_)
          have hP : va_P (dC, dI) vwCl [oR aR aT aP, oP aP aL aN pk, aI aL cI 60 fL, aI aN cI 60 fN, oT aT aB aWK aRE aY aZ tk, aI aB cI 6 fB, aI aWK cI 61 fWK, aI aRE cI 61 fRE, aJ aY cJ 6 fY, aJ aZ cJ 6 fZ, oM aM aMM aML aMY aMT aMR aMB aMN mk mp, aI aMM cZ 36 fMM, aJ aML cJ 61 fML, aJ aMY cJ 6 fMY, aJ aMT cJ 6 fMT, aI aMR cI 60 fMR, aI aMB cI 60 fMB, aI aMN cI 60 fMN] H := hP.sub [15, 0, 1, 2, 16, 17, 3, 4, 5, 6, 7, 8, 9, 10, 11, 12, 13, 14] rfl
          have hD : va_D A [oR aR aT aP, oP aP aL aN pk, aI aL cI 60 fL, aI aN cI 60 fN, oT aT aB aWK aRE aY aZ tk, aI aB cI 6 fB, aI aWK cI 61 fWK, aI aRE cI 61 fRE, aJ aY cJ 6 fY, aJ aZ cJ 6 fZ, oM aM aMM aML aMY aMT aMR aMB aMN mk mp, aI aMM cZ 36 fMM, aJ aML cJ 61 fML, aJ aMY cJ 6 fMY, aJ aMT cJ 6 fMT, aI aMR cI 60 fMR, aI aMB cI 60 fMB, aI aMN cI 60 fMN] := hD.sub [15, 0, 1, 2, 16, 17, 3, 4, 5, 6, 7, 8, 9, 10, 11, 12, 13, 14] rfl rfl
          refine lv_aload_n hx hb dL_law_480 rfl (lv_at hl 2 rfl) ?_
          refine mVi (wr := [oR aR aT aP, oP aP aL aN pk, aI aL cI 60 fL, aI aN cI 60 fN, oT aT aB aWK aRE aY aZ tk, aI aB cI 6 fB, aI aWK cI 61 fWK, aI aRE cI 61 fRE, aJ aY cJ 6 fY, aJ aZ cJ 6 fZ, aJ aMY cJ 6 fMY, aJ aMT cJ 6 fMT, aI aMR cI 60 fMR, aI aMB cI 60 fMB, aI aMN cI 60 fMN]) (As := []) (rest := [.int r477]) ⟨hx, hb, hml, hown, hts⟩ (c_X3_mirrors (l := l) (dC := dC) (dI := dI) (cI := cI) (cJ := cJ) (cZ := cZ) (aM := aM) (aMM := aMM) (aML := aML) (aMY := aMY) (aMT := aMT) (aMR := aMR) (aMB := aMB) (aMN := aMN) h) (cwV 0 hts gL_law_X3_mirrors rfl rfl rfl hv_X3_mirrors ⟨Nat.le_of_ble_eq_true rfl, Nat.le_of_ble_eq_true rfl⟩) hK hP hD hS hA [10, 11, 12] [0, 1, 2, 3, 4, 5, 6, 7, 8, 9, 13, 14, 15, 16, 17] rfl rfl rfl rfl (by decide) 3 rfl rfl rfl rfl hl.1 rfl (Nat.le_of_ble_eq_true rfl) ⟨Nat.le_of_ble_eq_true rfl, Nat.le_of_ble_eq_true rfl⟩ dL_law_481 (fun r481 fML_481 H locs h hP hD hS => ?_)
          have hP : va_P (dC, dI) vwCl [oR aR aT aP, oP aP aL aN pk, aI aL cI 60 fL, aI aN cI 60 fN, oT aT aB aWK aRE aY aZ tk, aI aB cI 6 fB, aI aWK cI 61 fWK, aI aRE cI 61 fRE, aJ aY cJ 6 fY, aJ aZ cJ 6 fZ, oM aM aMM aML aMY aMT aMR aMB aMN mk mp, aI aMM cZ 36 fMM, aJ aML cJ 61 fML_481, aJ aMY cJ 6 fMY, aJ aMT cJ 6 fMT, aI aMR cI 60 fMR, aI aMB cI 60 fMB, aI aMN cI 60 fMN] H := hP.sub [0, 1, 2, 3, 4, 5, 6, 7, 8, 9, 15, 16, 17, 10, 11, 12, 13, 14] rfl
          have hD : va_D A [oR aR aT aP, oP aP aL aN pk, aI aL cI 60 fL, aI aN cI 60 fN, oT aT aB aWK aRE aY aZ tk, aI aB cI 6 fB, aI aWK cI 61 fWK, aI aRE cI 61 fRE, aJ aY cJ 6 fY, aJ aZ cJ 6 fZ, oM aM aMM aML aMY aMT aMR aMB aMN mk mp, aI aMM cZ 36 fMM, aJ aML cJ 61 fML_481, aJ aMY cJ 6 fMY, aJ aMT cJ 6 fMT, aI aMR cI 60 fMR, aI aMB cI 60 fMB, aI aMN cI 60 fMN] := hD.sub [0, 1, 2, 3, 4, 5, 6, 7, 8, 9, 15, 16, 17, 10, 11, 12, 13, 14] rfl rfl
          refine lv_icmp_eq (tgt := 758) hx hb dL_law_484 (by decide) (fun q484 => ?_) (fun q484 => ?_)
          · have h := h.1 q484
            obtain ⟨v758, ev758⟩ : ∃ y : Int32, y = x3 + (4 : Int32) := ⟨_, rfl⟩
            have h := h v758 ev758
            refine lv_iinc (v := v758) (lv' := [(3, .int v758), (0, .ref aS), (1, .ref aR), (2, .ref aM)]) hx hb dL_law_758 hl (k := 3) rfl (by rw [ev758]; rfl) (by decide) rfl (fun ls hl => ?_)
            refine lv_goto (tgt := 18) hx hb dL_law_761 (by decide) ?_
            exact h H locs ls hP hD hS (lv_sub hl [1, 2, 3, 0] rfl)
          · have h := h.2 q484
            refine lv_iconst (v := 0) hx hb dL_law_487 (by decide) ?_
            exact ret _ _ _ _ _ _ _ _ _ _ _ _ _ _ _ _ _ _ _ H locs ls _ dL_law_488 (Or.inl rfl) h hP hD hS
        · have h := h.2.2.2.2.2.2.2.2.2.2.2.2.2.1 q
          refine lv_tableIn (off := 457) (tgt := 489) hx hb dL_law_32 (by rw [q]; decide) (by rw [q]; decide) (by rw [q]; decide) (by decide) ?_
          refine lv_aload_n hx hb dL_law_489 rfl (lv_at hl 1 rfl) ?_
          refine lv_aload_n hx hb dL_law_490 rfl (lv_at hl 0 rfl) ?_
          refine lv_iload_n hx hb dL_law_491 rfl (lv_at hl 3 rfl) ?_
          refine lv_iconst (v := 1) hx hb dL_law_492 (by decide) ?_
          refine lv_iadd hx hb dL_law_493 ?_
          refine va_sld hx hb hX hbl hbA hS h.1 dL_law_494 ?_
          have h := h.2
          refine mVi (wr := [oT aT aB aWK aRE aY aZ tk, aI aB cI 6 fB, aI aWK cI 61 fWK, aI aRE cI 61 fRE, aJ aY cJ 6 fY, aJ aZ cJ 6 fZ, oM aM aMM aML aMY aMT aMR aMB aMN mk mp, aI aMM cZ 36 fMM, aJ aML cJ 61 fML, aJ aMY cJ 6 fMY, aJ aMT cJ 6 fMT, aI aMR cI 60 fMR, aI aMB cI 60 fMB, aI aMN cI 60 fMN]) (As := [.int (xs (x3 + (1 : Int32)).toNatClampNeg)]) (rest := []) ⟨hx, hb, hml, hown, hts⟩ (c_X2_ring (l := l) (dC := dC) (dI := dI) (cI := cI) (cJ := cJ) (cZ := cZ) (aR := aR) (aT := aT) (aP := aP) (aL := aL) (aN := aN) h) (cwV 1 hts gL_law_X2_ring rfl rfl rfl hv_X2_ring ⟨Nat.le_of_ble_eq_true rfl, Nat.le_of_ble_eq_true rfl⟩) hK hP hD hS hA [0, 1, 2, 3] [4, 5, 6, 7, 8, 9, 10, 11, 12, 13, 14, 15, 16, 17] rfl rfl rfl rfl (by decide) 2 rfl rfl rfl rfl hl.1 rfl (Nat.le_of_ble_eq_true rfl) ⟨Nat.le_of_ble_eq_true rfl, Nat.le_of_ble_eq_true rfl⟩ dL_law_495 (fun r495 u495 H locs h hP hD hS => ?_)
          obtain ⟨pk_495, fL_495, fN_495⟩ := u495
          have hP : va_P (dC, dI) vwCl [oR aR aT aP, oP aP aL aN pk_495, aI aL cI 60 fL_495, aI aN cI 60 fN_495, oT aT aB aWK aRE aY aZ tk, aI aB cI 6 fB, aI aWK cI 61 fWK, aI aRE cI 61 fRE, aJ aY cJ 6 fY, aJ aZ cJ 6 fZ, oM aM aMM aML aMY aMT aMR aMB aMN mk mp, aI aMM cZ 36 fMM, aJ aML cJ 61 fML, aJ aMY cJ 6 fMY, aJ aMT cJ 6 fMT, aI aMR cI 60 fMR, aI aMB cI 60 fMB, aI aMN cI 60 fMN] H := hP.sub [14, 15, 16, 17, 0, 1, 2, 3, 4, 5, 6, 7, 8, 9, 10, 11, 12, 13] rfl
          have hD : va_D A [oR aR aT aP, oP aP aL aN pk_495, aI aL cI 60 fL_495, aI aN cI 60 fN_495, oT aT aB aWK aRE aY aZ tk, aI aB cI 6 fB, aI aWK cI 61 fWK, aI aRE cI 61 fRE, aJ aY cJ 6 fY, aJ aZ cJ 6 fZ, oM aM aMM aML aMY aMT aMR aMB aMN mk mp, aI aMM cZ 36 fMM, aJ aML cJ 61 fML, aJ aMY cJ 6 fMY, aJ aMT cJ 6 fMT, aI aMR cI 60 fMR, aI aMB cI 60 fMB, aI aMN cI 60 fMN] := hD.sub [14, 15, 16, 17, 0, 1, 2, 3, 4, 5, 6, 7, 8, 9, 10, 11, 12, 13] rfl rfl
          refine lv_aload_n hx hb dL_law_498 rfl (lv_at hl 2 rfl) ?_
          refine lv_aload_n hx hb dL_law_499 rfl (lv_at hl 0 rfl) ?_
          refine lv_iload_n hx hb dL_law_500 rfl (lv_at hl 3 rfl) ?_
          refine lv_iconst (v := 1) hx hb dL_law_501 (by decide) ?_
          refine lv_iadd hx hb dL_law_502 ?_
          refine va_sld hx hb hX hbl hbA hS h.1 dL_law_503 ?_
          have h := h.2
          refine mVi (wr := [oR aR aT aP, oP aP aL aN pk_495, aI aL cI 60 fL_495, aI aN cI 60 fN_495, oT aT aB aWK aRE aY aZ tk, aI aB cI 6 fB, aI aWK cI 61 fWK, aI aRE cI 61 fRE, aJ aY cJ 6 fY, aJ aZ cJ 6 fZ, aI aMM cZ 36 fMM, aJ aML cJ 61 fML, aJ aMY cJ 6 fMY, aJ aMT cJ 6 fMT, aI aMR cI 60 fMR]) (As := [.int (xs (x3 + (1 : Int32)).toNatClampNeg)]) (rest := [.int r495]) ⟨hx, hb, hml, hown, hts⟩ (c_X3_ring (l := l) (dC := dC) (dI := dI) (cI := cI) (cJ := cJ) (cZ := cZ) (aM := aM) (aMM := aMM) (aML := aML) (aMY := aMY) (aMT := aMT) (aMR := aMR) (aMB := aMB) (aMN := aMN) h) (cwV 1 hts gL_law_X3_ring rfl rfl rfl hv_X3_ring ⟨Nat.le_of_ble_eq_true rfl, Nat.le_of_ble_eq_true rfl⟩) hK hP hD hS hA [10, 16, 17] [0, 1, 2, 3, 4, 5, 6, 7, 8, 9, 11, 12, 13, 14, 15] rfl rfl rfl rfl (by decide) 3 rfl rfl rfl rfl hl.1 rfl (Nat.le_of_ble_eq_true rfl) ⟨Nat.le_of_ble_eq_true rfl, Nat.le_of_ble_eq_true rfl⟩ dL_law_504 (fun r504 u504 H locs h hP hD hS => ?_)
          obtain ⟨mp_504, fMB_504, fMN_504⟩ := u504
          have hP : va_P (dC, dI) vwCl [oR aR aT aP, oP aP aL aN pk_495, aI aL cI 60 fL_495, aI aN cI 60 fN_495, oT aT aB aWK aRE aY aZ tk, aI aB cI 6 fB, aI aWK cI 61 fWK, aI aRE cI 61 fRE, aJ aY cJ 6 fY, aJ aZ cJ 6 fZ, oM aM aMM aML aMY aMT aMR aMB aMN mk mp_504, aI aMM cZ 36 fMM, aJ aML cJ 61 fML, aJ aMY cJ 6 fMY, aJ aMT cJ 6 fMT, aI aMR cI 60 fMR, aI aMB cI 60 fMB_504, aI aMN cI 60 fMN_504] H := hP.sub [0, 1, 2, 3, 4, 5, 6, 7, 8, 9, 15, 10, 11, 12, 13, 14, 16, 17] rfl
          have hD : va_D A [oR aR aT aP, oP aP aL aN pk_495, aI aL cI 60 fL_495, aI aN cI 60 fN_495, oT aT aB aWK aRE aY aZ tk, aI aB cI 6 fB, aI aWK cI 61 fWK, aI aRE cI 61 fRE, aJ aY cJ 6 fY, aJ aZ cJ 6 fZ, oM aM aMM aML aMY aMT aMR aMB aMN mk mp_504, aI aMM cZ 36 fMM, aJ aML cJ 61 fML, aJ aMY cJ 6 fMY, aJ aMT cJ 6 fMT, aI aMR cI 60 fMR, aI aMB cI 60 fMB_504, aI aMN cI 60 fMN_504] := hD.sub [0, 1, 2, 3, 4, 5, 6, 7, 8, 9, 15, 10, 11, 12, 13, 14, 16, 17] rfl rfl
          refine lv_icmp_eq (tgt := 758) hx hb dL_law_507 (by decide) (fun q507 => ?_) (fun q507 => ?_)
          · have h := h.1 q507
            obtain ⟨v758, ev758⟩ : ∃ y : Int32, y = x3 + (4 : Int32) := ⟨_, rfl⟩
            have h := h v758 ev758
            refine lv_iinc (v := v758) (lv' := [(3, .int v758), (0, .ref aS), (1, .ref aR), (2, .ref aM)]) hx hb dL_law_758 hl (k := 3) rfl (by rw [ev758]; rfl) (by decide) rfl (fun ls hl => ?_)
            refine lv_goto (tgt := 18) hx hb dL_law_761 (by decide) ?_
            exact h H locs ls hP hD hS (lv_sub hl [1, 2, 3, 0] rfl)
          · have h := h.2 q507
            refine lv_iconst (v := 0) hx hb dL_law_510 (by decide) ?_
            exact ret _ _ _ _ _ _ _ _ _ _ _ _ _ _ _ _ _ _ _ H locs ls _ dL_law_511 (Or.inl rfl) h hP hD hS
        · have h := h.2.2.2.2.2.2.2.2.2.2.2.2.2.2.1 q
          refine lv_tableIn (off := 480) (tgt := 512) hx hb dL_law_32 (by rw [q]; decide) (by rw [q]; decide) (by rw [q]; decide) (by decide) ?_
          refine lv_aload_n hx hb dL_law_512 rfl (lv_at hl 1 rfl) ?_
          refine lv_aload_n hx hb dL_law_513 rfl (lv_at hl 0 rfl) ?_
          refine lv_iload_n hx hb dL_law_514 rfl (lv_at hl 3 rfl) ?_
          refine lv_iconst (v := 1) hx hb dL_law_515 (by decide) ?_
          refine lv_iadd hx hb dL_law_516 ?_
          refine va_sld hx hb hX hbl hbA hS h.1 dL_law_517 ?_
          have h := h.2
          refine lv_aload_n hx hb dL_law_518 rfl (lv_at hl 0 rfl) ?_
          refine lv_iload_n hx hb dL_law_519 rfl (lv_at hl 3 rfl) ?_
          refine lv_iconst (v := 2) hx hb dL_law_520 (by decide) ?_
          refine lv_iadd hx hb dL_law_521 ?_
          refine va_sld hx hb hX hbl hbA hS h.1 dL_law_522 ?_
          have h := h.2
          refine mVi (wr := [aI aN cI 60 fN, aI aB cI 6 fB, aI aWK cI 61 fWK, aI aRE cI 61 fRE, aJ aY cJ 6 fY, aJ aZ cJ 6 fZ, oM aM aMM aML aMY aMT aMR aMB aMN mk mp, aI aMM cZ 36 fMM, aJ aML cJ 61 fML, aJ aMY cJ 6 fMY, aJ aMT cJ 6 fMT, aI aMR cI 60 fMR, aI aMB cI 60 fMB, aI aMN cI 60 fMN]) (As := [.int (xs (x3 + (1 : Int32)).toNatClampNeg), .int (xs (x3 + (2 : Int32)).toNatClampNeg)]) (rest := []) ⟨hx, hb, hml, hown, hts⟩ (c_X2_put (l := l) (dC := dC) (dI := dI) (cI := cI) (cJ := cJ) (cZ := cZ) (aR := aR) (aT := aT) (aP := aP) (aL := aL) (aN := aN) (aB := aB) (aWK := aWK) (aRE := aRE) (aY := aY) (aZ := aZ) h) (cwV 2 hts gL_law_X2_put rfl rfl rfl hv_X2_put ⟨Nat.le_of_ble_eq_true rfl, Nat.le_of_ble_eq_true rfl⟩) hK hP hD hS hA [0, 1, 2, 4] [3, 5, 6, 7, 8, 9, 10, 11, 12, 13, 14, 15, 16, 17] rfl rfl rfl rfl (by decide) 2 rfl rfl rfl rfl hl.1 rfl (Nat.le_of_ble_eq_true rfl) ⟨Nat.le_of_ble_eq_true rfl, Nat.le_of_ble_eq_true rfl⟩ dL_law_523 (fun r523 fL_523 H locs h hP hD hS => ?_)
          have hP : va_P (dC, dI) vwCl [oR aR aT aP, oP aP aL aN pk, aI aL cI 60 fL_523, aI aN cI 60 fN, oT aT aB aWK aRE aY aZ tk, aI aB cI 6 fB, aI aWK cI 61 fWK, aI aRE cI 61 fRE, aJ aY cJ 6 fY, aJ aZ cJ 6 fZ, oM aM aMM aML aMY aMT aMR aMB aMN mk mp, aI aMM cZ 36 fMM, aJ aML cJ 61 fML, aJ aMY cJ 6 fMY, aJ aMT cJ 6 fMT, aI aMR cI 60 fMR, aI aMB cI 60 fMB, aI aMN cI 60 fMN] H := hP.sub [14, 15, 16, 0, 17, 1, 2, 3, 4, 5, 6, 7, 8, 9, 10, 11, 12, 13] rfl
          have hD : va_D A [oR aR aT aP, oP aP aL aN pk, aI aL cI 60 fL_523, aI aN cI 60 fN, oT aT aB aWK aRE aY aZ tk, aI aB cI 6 fB, aI aWK cI 61 fWK, aI aRE cI 61 fRE, aJ aY cJ 6 fY, aJ aZ cJ 6 fZ, oM aM aMM aML aMY aMT aMR aMB aMN mk mp, aI aMM cZ 36 fMM, aJ aML cJ 61 fML, aJ aMY cJ 6 fMY, aJ aMT cJ 6 fMT, aI aMR cI 60 fMR, aI aMB cI 60 fMB, aI aMN cI 60 fMN] := hD.sub [14, 15, 16, 0, 17, 1, 2, 3, 4, 5, 6, 7, 8, 9, 10, 11, 12, 13] rfl rfl
          refine lv_aload_n hx hb dL_law_526 rfl (lv_at hl 2 rfl) ?_
          refine lv_aload_n hx hb dL_law_527 rfl (lv_at hl 0 rfl) ?_
          refine lv_iload_n hx hb dL_law_528 rfl (lv_at hl 3 rfl) ?_
          refine lv_iconst (v := 1) hx hb dL_law_529 (by decide) ?_
          refine lv_iadd hx hb dL_law_530 ?_
          refine va_sld hx hb hX hbl hbA hS h.1 dL_law_531 ?_
          have h := h.2
          refine lv_aload_n hx hb dL_law_532 rfl (lv_at hl 0 rfl) ?_
          refine lv_iload_n hx hb dL_law_533 rfl (lv_at hl 3 rfl) ?_
          refine lv_iconst (v := 2) hx hb dL_law_534 (by decide) ?_
          refine lv_iadd hx hb dL_law_535 ?_
          refine va_sld hx hb hX hbl hbA hS h.1 dL_law_536 ?_
          have h := h.2
          refine mVi (wr := [oR aR aT aP, oP aP aL aN pk, aI aL cI 60 fL_523, aI aN cI 60 fN, oT aT aB aWK aRE aY aZ tk, aI aB cI 6 fB, aI aWK cI 61 fWK, aI aRE cI 61 fRE, aJ aY cJ 6 fY, aJ aZ cJ 6 fZ, aI aMM cZ 36 fMM, aJ aML cJ 61 fML, aJ aMY cJ 6 fMY, aJ aMT cJ 6 fMT, aI aMR cI 60 fMR, aI aMN cI 60 fMN]) (As := [.int (xs (x3 + (1 : Int32)).toNatClampNeg), .int (xs (x3 + (2 : Int32)).toNatClampNeg)]) (rest := [.int r523]) ⟨hx, hb, hml, hown, hts⟩ (c_X3_put (l := l) (dC := dC) (dI := dI) (cI := cI) (cJ := cJ) (cZ := cZ) (aM := aM) (aMM := aMM) (aML := aML) (aMY := aMY) (aMT := aMT) (aMR := aMR) (aMB := aMB) (aMN := aMN) h) (cwV 2 hts gL_law_X3_put rfl rfl rfl hv_X3_put ⟨Nat.le_of_ble_eq_true rfl, Nat.le_of_ble_eq_true rfl⟩) hK hP hD hS hA [10, 16] [0, 1, 2, 3, 4, 5, 6, 7, 8, 9, 11, 12, 13, 14, 15, 17] rfl rfl rfl rfl (by decide) 3 rfl rfl rfl rfl hl.1 rfl (Nat.le_of_ble_eq_true rfl) ⟨Nat.le_of_ble_eq_true rfl, Nat.le_of_ble_eq_true rfl⟩ dL_law_537 (fun r537 fMB_537 H locs h hP hD hS => ?_)
          have hP : va_P (dC, dI) vwCl [oR aR aT aP, oP aP aL aN pk, aI aL cI 60 fL_523, aI aN cI 60 fN, oT aT aB aWK aRE aY aZ tk, aI aB cI 6 fB, aI aWK cI 61 fWK, aI aRE cI 61 fRE, aJ aY cJ 6 fY, aJ aZ cJ 6 fZ, oM aM aMM aML aMY aMT aMR aMB aMN mk mp, aI aMM cZ 36 fMM, aJ aML cJ 61 fML, aJ aMY cJ 6 fMY, aJ aMT cJ 6 fMT, aI aMR cI 60 fMR, aI aMB cI 60 fMB_537, aI aMN cI 60 fMN] H := hP.sub [0, 1, 2, 3, 4, 5, 6, 7, 8, 9, 16, 10, 11, 12, 13, 14, 17, 15] rfl
          have hD : va_D A [oR aR aT aP, oP aP aL aN pk, aI aL cI 60 fL_523, aI aN cI 60 fN, oT aT aB aWK aRE aY aZ tk, aI aB cI 6 fB, aI aWK cI 61 fWK, aI aRE cI 61 fRE, aJ aY cJ 6 fY, aJ aZ cJ 6 fZ, oM aM aMM aML aMY aMT aMR aMB aMN mk mp, aI aMM cZ 36 fMM, aJ aML cJ 61 fML, aJ aMY cJ 6 fMY, aJ aMT cJ 6 fMT, aI aMR cI 60 fMR, aI aMB cI 60 fMB_537, aI aMN cI 60 fMN] := hD.sub [0, 1, 2, 3, 4, 5, 6, 7, 8, 9, 16, 10, 11, 12, 13, 14, 17, 15] rfl rfl
          refine lv_icmp_eq (tgt := 758) hx hb dL_law_540 (by decide) (fun q540 => ?_) (fun q540 => ?_)
          · have h := h.1 q540
            obtain ⟨v758, ev758⟩ : ∃ y : Int32, y = x3 + (4 : Int32) := ⟨_, rfl⟩
            have h := h v758 ev758
            refine lv_iinc (v := v758) (lv' := [(3, .int v758), (0, .ref aS), (1, .ref aR), (2, .ref aM)]) hx hb dL_law_758 hl (k := 3) rfl (by rw [ev758]; rfl) (by decide) rfl (fun ls hl => ?_)
            refine lv_goto (tgt := 18) hx hb dL_law_761 (by decide) ?_
            exact h H locs ls hP hD hS (lv_sub hl [1, 2, 3, 0] rfl)
          · have h := h.2 q540
            refine lv_iconst (v := 0) hx hb dL_law_543 (by decide) ?_
            exact ret _ _ _ _ _ _ _ _ _ _ _ _ _ _ _ _ _ _ _ H locs ls _ dL_law_544 (Or.inl rfl) h hP hD hS
        · have h := h.2.2.2.2.2.2.2.2.2.2.2.2.2.2.2.1 q
          refine lv_tableIn (off := 513) (tgt := 545) hx hb dL_law_32 (by rw [q]; decide) (by rw [q]; decide) (by rw [q]; decide) (by decide) ?_
          refine lv_aload_n hx hb dL_law_545 rfl (lv_at hl 1 rfl) ?_
          refine lv_aload_n hx hb dL_law_546 rfl (lv_at hl 0 rfl) ?_
          refine lv_iload_n hx hb dL_law_547 rfl (lv_at hl 3 rfl) ?_
          refine lv_iconst (v := 1) hx hb dL_law_548 (by decide) ?_
          refine lv_iadd hx hb dL_law_549 ?_
          refine va_sld hx hb hX hbl hbA hS h.1 dL_law_550 ?_
          have h := h.2
          refine mVi (wr := [aI aN cI 60 fN, oT aT aB aWK aRE aY aZ tk, aI aB cI 6 fB, aI aWK cI 61 fWK, aI aRE cI 61 fRE, aJ aY cJ 6 fY, aJ aZ cJ 6 fZ, oM aM aMM aML aMY aMT aMR aMB aMN mk mp, aI aMM cZ 36 fMM, aJ aML cJ 61 fML, aJ aMY cJ 6 fMY, aJ aMT cJ 6 fMT, aI aMR cI 60 fMR, aI aMB cI 60 fMB, aI aMN cI 60 fMN]) (As := [.int (xs (x3 + (1 : Int32)).toNatClampNeg)]) (rest := []) ⟨hx, hb, hml, hown, hts⟩ (c_X2_at (l := l) (dC := dC) (dI := dI) (cI := cI) (cJ := cJ) (cZ := cZ) (aR := aR) (aT := aT) (aP := aP) (aL := aL) (aN := aN) h) (cwV 1 hts gL_law_X2_at rfl rfl rfl hv_X2_at ⟨Nat.le_of_ble_eq_true rfl, Nat.le_of_ble_eq_true rfl⟩) hK hP hD hS hA [0, 1, 2] [3, 4, 5, 6, 7, 8, 9, 10, 11, 12, 13, 14, 15, 16, 17] rfl rfl rfl rfl (by decide) 2 rfl rfl rfl rfl hl.1 rfl (Nat.le_of_ble_eq_true rfl) ⟨Nat.le_of_ble_eq_true rfl, Nat.le_of_ble_eq_true rfl⟩ dL_law_551 (fun r551 u551 H locs h hP hD hS => ?_)
          have hP : va_P (dC, dI) vwCl [oR aR aT aP, oP aP aL aN pk, aI aL cI 60 fL, aI aN cI 60 fN, oT aT aB aWK aRE aY aZ tk, aI aB cI 6 fB, aI aWK cI 61 fWK, aI aRE cI 61 fRE, aJ aY cJ 6 fY, aJ aZ cJ 6 fZ, oM aM aMM aML aMY aMT aMR aMB aMN mk mp, aI aMM cZ 36 fMM, aJ aML cJ 61 fML, aJ aMY cJ 6 fMY, aJ aMT cJ 6 fMT, aI aMR cI 60 fMR, aI aMB cI 60 fMB, aI aMN cI 60 fMN] H := hP.sub [15, 16, 17, 0, 1, 2, 3, 4, 5, 6, 7, 8, 9, 10, 11, 12, 13, 14] rfl
          have hD : va_D A [oR aR aT aP, oP aP aL aN pk, aI aL cI 60 fL, aI aN cI 60 fN, oT aT aB aWK aRE aY aZ tk, aI aB cI 6 fB, aI aWK cI 61 fWK, aI aRE cI 61 fRE, aJ aY cJ 6 fY, aJ aZ cJ 6 fZ, oM aM aMM aML aMY aMT aMR aMB aMN mk mp, aI aMM cZ 36 fMM, aJ aML cJ 61 fML, aJ aMY cJ 6 fMY, aJ aMT cJ 6 fMT, aI aMR cI 60 fMR, aI aMB cI 60 fMB, aI aMN cI 60 fMN] := hD.sub [15, 16, 17, 0, 1, 2, 3, 4, 5, 6, 7, 8, 9, 10, 11, 12, 13, 14] rfl rfl
          refine lv_aload_n hx hb dL_law_554 rfl (lv_at hl 2 rfl) ?_
          refine lv_aload_n hx hb dL_law_555 rfl (lv_at hl 0 rfl) ?_
          refine lv_iload_n hx hb dL_law_556 rfl (lv_at hl 3 rfl) ?_
          refine lv_iconst (v := 1) hx hb dL_law_557 (by decide) ?_
          refine lv_iadd hx hb dL_law_558 ?_
          refine va_sld hx hb hX hbl hbA hS h.1 dL_law_559 ?_
          have h := h.2
          refine mVi (wr := [oR aR aT aP, oP aP aL aN pk, aI aL cI 60 fL, aI aN cI 60 fN, oT aT aB aWK aRE aY aZ tk, aI aB cI 6 fB, aI aWK cI 61 fWK, aI aRE cI 61 fRE, aJ aY cJ 6 fY, aJ aZ cJ 6 fZ, aI aMM cZ 36 fMM, aJ aML cJ 61 fML, aJ aMY cJ 6 fMY, aJ aMT cJ 6 fMT, aI aMR cI 60 fMR, aI aMN cI 60 fMN]) (As := [.int (xs (x3 + (1 : Int32)).toNatClampNeg)]) (rest := [.int r551]) ⟨hx, hb, hml, hown, hts⟩ (c_X3_at (l := l) (dC := dC) (dI := dI) (cI := cI) (cJ := cJ) (cZ := cZ) (aM := aM) (aMM := aMM) (aML := aML) (aMY := aMY) (aMT := aMT) (aMR := aMR) (aMB := aMB) (aMN := aMN) h) (cwV 1 hts gL_law_X3_at rfl rfl rfl hv_X3_at ⟨Nat.le_of_ble_eq_true rfl, Nat.le_of_ble_eq_true rfl⟩) hK hP hD hS hA [10, 16] [0, 1, 2, 3, 4, 5, 6, 7, 8, 9, 11, 12, 13, 14, 15, 17] rfl rfl rfl rfl (by decide) 3 rfl rfl rfl rfl hl.1 rfl (Nat.le_of_ble_eq_true rfl) ⟨Nat.le_of_ble_eq_true rfl, Nat.le_of_ble_eq_true rfl⟩ dL_law_560 (fun r560 u560 H locs h hP hD hS => ?_)
          have hP : va_P (dC, dI) vwCl [oR aR aT aP, oP aP aL aN pk, aI aL cI 60 fL, aI aN cI 60 fN, oT aT aB aWK aRE aY aZ tk, aI aB cI 6 fB, aI aWK cI 61 fWK, aI aRE cI 61 fRE, aJ aY cJ 6 fY, aJ aZ cJ 6 fZ, oM aM aMM aML aMY aMT aMR aMB aMN mk mp, aI aMM cZ 36 fMM, aJ aML cJ 61 fML, aJ aMY cJ 6 fMY, aJ aMT cJ 6 fMT, aI aMR cI 60 fMR, aI aMB cI 60 fMB, aI aMN cI 60 fMN] H := hP.sub [0, 1, 2, 3, 4, 5, 6, 7, 8, 9, 16, 10, 11, 12, 13, 14, 17, 15] rfl
          have hD : va_D A [oR aR aT aP, oP aP aL aN pk, aI aL cI 60 fL, aI aN cI 60 fN, oT aT aB aWK aRE aY aZ tk, aI aB cI 6 fB, aI aWK cI 61 fWK, aI aRE cI 61 fRE, aJ aY cJ 6 fY, aJ aZ cJ 6 fZ, oM aM aMM aML aMY aMT aMR aMB aMN mk mp, aI aMM cZ 36 fMM, aJ aML cJ 61 fML, aJ aMY cJ 6 fMY, aJ aMT cJ 6 fMT, aI aMR cI 60 fMR, aI aMB cI 60 fMB, aI aMN cI 60 fMN] := hD.sub [0, 1, 2, 3, 4, 5, 6, 7, 8, 9, 16, 10, 11, 12, 13, 14, 17, 15] rfl rfl
          refine lv_icmp_eq (tgt := 758) hx hb dL_law_563 (by decide) (fun q563 => ?_) (fun q563 => ?_)
          · have h := h.1 q563
            obtain ⟨v758, ev758⟩ : ∃ y : Int32, y = x3 + (4 : Int32) := ⟨_, rfl⟩
            have h := h v758 ev758
            refine lv_iinc (v := v758) (lv' := [(3, .int v758), (0, .ref aS), (1, .ref aR), (2, .ref aM)]) hx hb dL_law_758 hl (k := 3) rfl (by rw [ev758]; rfl) (by decide) rfl (fun ls hl => ?_)
            refine lv_goto (tgt := 18) hx hb dL_law_761 (by decide) ?_
            exact h H locs ls hP hD hS (lv_sub hl [1, 2, 3, 0] rfl)
          · have h := h.2 q563
            refine lv_iconst (v := 0) hx hb dL_law_566 (by decide) ?_
            exact ret _ _ _ _ _ _ _ _ _ _ _ _ _ _ _ _ _ _ _ H locs ls _ dL_law_567 (Or.inl rfl) h hP hD hS
        · have h := h.2.2.2.2.2.2.2.2.2.2.2.2.2.2.2.2.1 q
          refine lv_tableIn (off := 536) (tgt := 568) hx hb dL_law_32 (by rw [q]; decide) (by rw [q]; decide) (by rw [q]; decide) (by decide) ?_
          refine lv_aload_n hx hb dL_law_568 rfl (lv_at hl 1 rfl) ?_
          refine mVi (wr := [aI aN cI 60 fN, aI aWK cI 61 fWK, aI aRE cI 61 fRE, aJ aY cJ 6 fY, aJ aZ cJ 6 fZ, oM aM aMM aML aMY aMT aMR aMB aMN mk mp, aI aMM cZ 36 fMM, aJ aML cJ 61 fML, aJ aMY cJ 6 fMY, aJ aMT cJ 6 fMT, aI aMR cI 60 fMR, aI aMB cI 60 fMB, aI aMN cI 60 fMN]) (As := []) (rest := []) ⟨hx, hb, hml, hown, hts⟩ (c_X2_faults (l := l) (dC := dC) (dI := dI) (cI := cI) (cJ := cJ) (cZ := cZ) (aR := aR) (aT := aT) (aP := aP) (aL := aL) (aN := aN) (aB := aB) (aWK := aWK) (aRE := aRE) (aY := aY) (aZ := aZ) h) (cwV 0 hts gL_law_X2_faults rfl rfl rfl hv_X2_faults ⟨Nat.le_of_ble_eq_true rfl, Nat.le_of_ble_eq_true rfl⟩) hK hP hD hS hA [0, 1, 2, 4, 5] [3, 6, 7, 8, 9, 10, 11, 12, 13, 14, 15, 16, 17] rfl rfl rfl rfl (by decide) 2 rfl rfl rfl rfl hl.1 rfl (Nat.le_of_ble_eq_true rfl) ⟨Nat.le_of_ble_eq_true rfl, Nat.le_of_ble_eq_true rfl⟩ dL_law_569 (fun r569 u569 H locs h hP hD hS => ?_)
          have hP : va_P (dC, dI) vwCl [oR aR aT aP, oP aP aL aN pk, aI aL cI 60 fL, aI aN cI 60 fN, oT aT aB aWK aRE aY aZ tk, aI aB cI 6 fB, aI aWK cI 61 fWK, aI aRE cI 61 fRE, aJ aY cJ 6 fY, aJ aZ cJ 6 fZ, oM aM aMM aML aMY aMT aMR aMB aMN mk mp, aI aMM cZ 36 fMM, aJ aML cJ 61 fML, aJ aMY cJ 6 fMY, aJ aMT cJ 6 fMT, aI aMR cI 60 fMR, aI aMB cI 60 fMB, aI aMN cI 60 fMN] H := hP.sub [13, 14, 15, 0, 16, 17, 1, 2, 3, 4, 5, 6, 7, 8, 9, 10, 11, 12] rfl
          have hD : va_D A [oR aR aT aP, oP aP aL aN pk, aI aL cI 60 fL, aI aN cI 60 fN, oT aT aB aWK aRE aY aZ tk, aI aB cI 6 fB, aI aWK cI 61 fWK, aI aRE cI 61 fRE, aJ aY cJ 6 fY, aJ aZ cJ 6 fZ, oM aM aMM aML aMY aMT aMR aMB aMN mk mp, aI aMM cZ 36 fMM, aJ aML cJ 61 fML, aJ aMY cJ 6 fMY, aJ aMT cJ 6 fMT, aI aMR cI 60 fMR, aI aMB cI 60 fMB, aI aMN cI 60 fMN] := hD.sub [13, 14, 15, 0, 16, 17, 1, 2, 3, 4, 5, 6, 7, 8, 9, 10, 11, 12] rfl rfl
          refine lv_aload_n hx hb dL_law_572 rfl (lv_at hl 2 rfl) ?_
          refine mVi (wr := [oR aR aT aP, oP aP aL aN pk, aI aL cI 60 fL, aI aN cI 60 fN, oT aT aB aWK aRE aY aZ tk, aI aB cI 6 fB, aI aWK cI 61 fWK, aI aRE cI 61 fRE, aJ aY cJ 6 fY, aJ aZ cJ 6 fZ, aJ aML cJ 61 fML, aJ aMY cJ 6 fMY, aJ aMT cJ 6 fMT, aI aMR cI 60 fMR, aI aMN cI 60 fMN]) (As := []) (rest := [.int r569]) ⟨hx, hb, hml, hown, hts⟩ (c_X3_faults (l := l) (dC := dC) (dI := dI) (cI := cI) (cJ := cJ) (cZ := cZ) (aM := aM) (aMM := aMM) (aML := aML) (aMY := aMY) (aMT := aMT) (aMR := aMR) (aMB := aMB) (aMN := aMN) h) (cwV 0 hts gL_law_X3_faults rfl rfl rfl hv_X3_faults ⟨Nat.le_of_ble_eq_true rfl, Nat.le_of_ble_eq_true rfl⟩) hK hP hD hS hA [10, 11, 16] [0, 1, 2, 3, 4, 5, 6, 7, 8, 9, 12, 13, 14, 15, 17] rfl rfl rfl rfl (by decide) 3 rfl rfl rfl rfl hl.1 rfl (Nat.le_of_ble_eq_true rfl) ⟨Nat.le_of_ble_eq_true rfl, Nat.le_of_ble_eq_true rfl⟩ dL_law_573 (fun r573 u573 H locs h hP hD hS => ?_)
          have hP : va_P (dC, dI) vwCl [oR aR aT aP, oP aP aL aN pk, aI aL cI 60 fL, aI aN cI 60 fN, oT aT aB aWK aRE aY aZ tk, aI aB cI 6 fB, aI aWK cI 61 fWK, aI aRE cI 61 fRE, aJ aY cJ 6 fY, aJ aZ cJ 6 fZ, oM aM aMM aML aMY aMT aMR aMB aMN mk mp, aI aMM cZ 36 fMM, aJ aML cJ 61 fML, aJ aMY cJ 6 fMY, aJ aMT cJ 6 fMT, aI aMR cI 60 fMR, aI aMB cI 60 fMB, aI aMN cI 60 fMN] H := hP.sub [0, 1, 2, 3, 4, 5, 6, 7, 8, 9, 15, 16, 10, 11, 12, 13, 17, 14] rfl
          have hD : va_D A [oR aR aT aP, oP aP aL aN pk, aI aL cI 60 fL, aI aN cI 60 fN, oT aT aB aWK aRE aY aZ tk, aI aB cI 6 fB, aI aWK cI 61 fWK, aI aRE cI 61 fRE, aJ aY cJ 6 fY, aJ aZ cJ 6 fZ, oM aM aMM aML aMY aMT aMR aMB aMN mk mp, aI aMM cZ 36 fMM, aJ aML cJ 61 fML, aJ aMY cJ 6 fMY, aJ aMT cJ 6 fMT, aI aMR cI 60 fMR, aI aMB cI 60 fMB, aI aMN cI 60 fMN] := hD.sub [0, 1, 2, 3, 4, 5, 6, 7, 8, 9, 15, 16, 10, 11, 12, 13, 17, 14] rfl rfl
          refine lv_icmp_eq (tgt := 758) hx hb dL_law_576 (by decide) (fun q576 => ?_) (fun q576 => ?_)
          · have h := h.1 q576
            obtain ⟨v758, ev758⟩ : ∃ y : Int32, y = x3 + (4 : Int32) := ⟨_, rfl⟩
            have h := h v758 ev758
            refine lv_iinc (v := v758) (lv' := [(3, .int v758), (0, .ref aS), (1, .ref aR), (2, .ref aM)]) hx hb dL_law_758 hl (k := 3) rfl (by rw [ev758]; rfl) (by decide) rfl (fun ls hl => ?_)
            refine lv_goto (tgt := 18) hx hb dL_law_761 (by decide) ?_
            exact h H locs ls hP hD hS (lv_sub hl [1, 2, 3, 0] rfl)
          · have h := h.2 q576
            refine lv_iconst (v := 0) hx hb dL_law_579 (by decide) ?_
            exact ret _ _ _ _ _ _ _ _ _ _ _ _ _ _ _ _ _ _ _ H locs ls _ dL_law_580 (Or.inl rfl) h hP hD hS
        · have h := h.2.2.2.2.2.2.2.2.2.2.2.2.2.2.2.2.2.1 q
          refine lv_tableIn (off := 549) (tgt := 581) hx hb dL_law_32 (by rw [q]; decide) (by rw [q]; decide) (by rw [q]; decide) (by decide) ?_
          refine lv_aload_n hx hb dL_law_581 rfl (lv_at hl 1 rfl) ?_
          refine lv_aload_n hx hb dL_law_582 rfl (lv_at hl 0 rfl) ?_
          refine lv_iload_n hx hb dL_law_583 rfl (lv_at hl 3 rfl) ?_
          refine lv_iconst (v := 1) hx hb dL_law_584 (by decide) ?_
          refine lv_iadd hx hb dL_law_585 ?_
          refine va_sld hx hb hX hbl hbA hS h.1 dL_law_586 ?_
          have h := h.2
          refine mVi (wr := [aI aN cI 60 fN, aI aWK cI 61 fWK, aI aRE cI 61 fRE, aJ aY cJ 6 fY, aJ aZ cJ 6 fZ, oM aM aMM aML aMY aMT aMR aMB aMN mk mp, aI aMM cZ 36 fMM, aJ aML cJ 61 fML, aJ aMY cJ 6 fMY, aJ aMT cJ 6 fMT, aI aMR cI 60 fMR, aI aMB cI 60 fMB, aI aMN cI 60 fMN]) (As := [.int (xs (x3 + (1 : Int32)).toNatClampNeg)]) (rest := []) ⟨hx, hb, hml, hown, hts⟩ (c_X2_fault (l := l) (dC := dC) (dI := dI) (cI := cI) (cJ := cJ) (cZ := cZ) (aR := aR) (aT := aT) (aP := aP) (aL := aL) (aN := aN) (aB := aB) (aWK := aWK) (aRE := aRE) (aY := aY) (aZ := aZ) h) (cwV 1 hts gL_law_X2_fault rfl rfl rfl hv_X2_fault ⟨Nat.le_of_ble_eq_true rfl, Nat.le_of_ble_eq_true rfl⟩) hK hP hD hS hA [0, 1, 2, 4, 5] [3, 6, 7, 8, 9, 10, 11, 12, 13, 14, 15, 16, 17] rfl rfl rfl rfl (by decide) 2 rfl rfl rfl rfl hl.1 rfl (Nat.le_of_ble_eq_true rfl) ⟨Nat.le_of_ble_eq_true rfl, Nat.le_of_ble_eq_true rfl⟩ dL_law_587 (fun r587 u587 H locs h hP hD hS => ?_)
          have hP : va_P (dC, dI) vwCl [oR aR aT aP, oP aP aL aN pk, aI aL cI 60 fL, aI aN cI 60 fN, oT aT aB aWK aRE aY aZ tk, aI aB cI 6 fB, aI aWK cI 61 fWK, aI aRE cI 61 fRE, aJ aY cJ 6 fY, aJ aZ cJ 6 fZ, oM aM aMM aML aMY aMT aMR aMB aMN mk mp, aI aMM cZ 36 fMM, aJ aML cJ 61 fML, aJ aMY cJ 6 fMY, aJ aMT cJ 6 fMT, aI aMR cI 60 fMR, aI aMB cI 60 fMB, aI aMN cI 60 fMN] H := hP.sub [13, 14, 15, 0, 16, 17, 1, 2, 3, 4, 5, 6, 7, 8, 9, 10, 11, 12] rfl
          have hD : va_D A [oR aR aT aP, oP aP aL aN pk, aI aL cI 60 fL, aI aN cI 60 fN, oT aT aB aWK aRE aY aZ tk, aI aB cI 6 fB, aI aWK cI 61 fWK, aI aRE cI 61 fRE, aJ aY cJ 6 fY, aJ aZ cJ 6 fZ, oM aM aMM aML aMY aMT aMR aMB aMN mk mp, aI aMM cZ 36 fMM, aJ aML cJ 61 fML, aJ aMY cJ 6 fMY, aJ aMT cJ 6 fMT, aI aMR cI 60 fMR, aI aMB cI 60 fMB, aI aMN cI 60 fMN] := hD.sub [13, 14, 15, 0, 16, 17, 1, 2, 3, 4, 5, 6, 7, 8, 9, 10, 11, 12] rfl rfl
          refine lv_aload_n hx hb dL_law_590 rfl (lv_at hl 2 rfl) ?_
          refine lv_aload_n hx hb dL_law_591 rfl (lv_at hl 0 rfl) ?_
          refine lv_iload_n hx hb dL_law_592 rfl (lv_at hl 3 rfl) ?_
          refine lv_iconst (v := 1) hx hb dL_law_593 (by decide) ?_
          refine lv_iadd hx hb dL_law_594 ?_
          refine va_sld hx hb hX hbl hbA hS h.1 dL_law_595 ?_
          have h := h.2
          refine mVi (wr := [oR aR aT aP, oP aP aL aN pk, aI aL cI 60 fL, aI aN cI 60 fN, oT aT aB aWK aRE aY aZ tk, aI aB cI 6 fB, aI aWK cI 61 fWK, aI aRE cI 61 fRE, aJ aY cJ 6 fY, aJ aZ cJ 6 fZ, aJ aML cJ 61 fML, aJ aMY cJ 6 fMY, aJ aMT cJ 6 fMT, aI aMR cI 60 fMR, aI aMN cI 60 fMN]) (As := [.int (xs (x3 + (1 : Int32)).toNatClampNeg)]) (rest := [.int r587]) ⟨hx, hb, hml, hown, hts⟩ (c_X3_fault (l := l) (dC := dC) (dI := dI) (cI := cI) (cJ := cJ) (cZ := cZ) (aM := aM) (aMM := aMM) (aML := aML) (aMY := aMY) (aMT := aMT) (aMR := aMR) (aMB := aMB) (aMN := aMN) h) (cwV 1 hts gL_law_X3_fault rfl rfl rfl hv_X3_fault ⟨Nat.le_of_ble_eq_true rfl, Nat.le_of_ble_eq_true rfl⟩) hK hP hD hS hA [10, 11, 16] [0, 1, 2, 3, 4, 5, 6, 7, 8, 9, 12, 13, 14, 15, 17] rfl rfl rfl rfl (by decide) 3 rfl rfl rfl rfl hl.1 rfl (Nat.le_of_ble_eq_true rfl) ⟨Nat.le_of_ble_eq_true rfl, Nat.le_of_ble_eq_true rfl⟩ dL_law_596 (fun r596 u596 H locs h hP hD hS => ?_)
          have hP : va_P (dC, dI) vwCl [oR aR aT aP, oP aP aL aN pk, aI aL cI 60 fL, aI aN cI 60 fN, oT aT aB aWK aRE aY aZ tk, aI aB cI 6 fB, aI aWK cI 61 fWK, aI aRE cI 61 fRE, aJ aY cJ 6 fY, aJ aZ cJ 6 fZ, oM aM aMM aML aMY aMT aMR aMB aMN mk mp, aI aMM cZ 36 fMM, aJ aML cJ 61 fML, aJ aMY cJ 6 fMY, aJ aMT cJ 6 fMT, aI aMR cI 60 fMR, aI aMB cI 60 fMB, aI aMN cI 60 fMN] H := hP.sub [0, 1, 2, 3, 4, 5, 6, 7, 8, 9, 15, 16, 10, 11, 12, 13, 17, 14] rfl
          have hD : va_D A [oR aR aT aP, oP aP aL aN pk, aI aL cI 60 fL, aI aN cI 60 fN, oT aT aB aWK aRE aY aZ tk, aI aB cI 6 fB, aI aWK cI 61 fWK, aI aRE cI 61 fRE, aJ aY cJ 6 fY, aJ aZ cJ 6 fZ, oM aM aMM aML aMY aMT aMR aMB aMN mk mp, aI aMM cZ 36 fMM, aJ aML cJ 61 fML, aJ aMY cJ 6 fMY, aJ aMT cJ 6 fMT, aI aMR cI 60 fMR, aI aMB cI 60 fMB, aI aMN cI 60 fMN] := hD.sub [0, 1, 2, 3, 4, 5, 6, 7, 8, 9, 15, 16, 10, 11, 12, 13, 17, 14] rfl rfl
          refine lv_icmp_eq (tgt := 758) hx hb dL_law_599 (by decide) (fun q599 => ?_) (fun q599 => ?_)
          · have h := h.1 q599
            obtain ⟨v758, ev758⟩ : ∃ y : Int32, y = x3 + (4 : Int32) := ⟨_, rfl⟩
            have h := h v758 ev758
            refine lv_iinc (v := v758) (lv' := [(3, .int v758), (0, .ref aS), (1, .ref aR), (2, .ref aM)]) hx hb dL_law_758 hl (k := 3) rfl (by rw [ev758]; rfl) (by decide) rfl (fun ls hl => ?_)
            refine lv_goto (tgt := 18) hx hb dL_law_761 (by decide) ?_
            exact h H locs ls hP hD hS (lv_sub hl [1, 2, 3, 0] rfl)
          · have h := h.2 q599
            refine lv_iconst (v := 0) hx hb dL_law_602 (by decide) ?_
            exact ret _ _ _ _ _ _ _ _ _ _ _ _ _ _ _ _ _ _ _ H locs ls _ dL_law_603 (Or.inl rfl) h hP hD hS
        · have h := h.2.2.2.2.2.2.2.2.2.2.2.2.2.2.2.2.2.2.1 q
          refine lv_tableIn (off := 572) (tgt := 604) hx hb dL_law_32 (by rw [q]; decide) (by rw [q]; decide) (by rw [q]; decide) (by decide) ?_
          refine lv_aload_n hx hb dL_law_604 rfl (lv_at hl 1 rfl) ?_
          refine lv_aload_n hx hb dL_law_605 rfl (lv_at hl 0 rfl) ?_
          refine lv_iload_n hx hb dL_law_606 rfl (lv_at hl 3 rfl) ?_
          refine lv_iconst (v := 1) hx hb dL_law_607 (by decide) ?_
          refine lv_iadd hx hb dL_law_608 ?_
          refine va_sld hx hb hX hbl hbA hS h.1 dL_law_609 ?_
          have h := h.2
          refine mVi (wr := [aI aN cI 60 fN, aJ aY cJ 6 fY, aJ aZ cJ 6 fZ, oM aM aMM aML aMY aMT aMR aMB aMN mk mp, aI aMM cZ 36 fMM, aJ aML cJ 61 fML, aJ aMY cJ 6 fMY, aJ aMT cJ 6 fMT, aI aMR cI 60 fMR, aI aMB cI 60 fMB, aI aMN cI 60 fMN]) (As := [.int (xs (x3 + (1 : Int32)).toNatClampNeg)]) (rest := []) ⟨hx, hb, hml, hown, hts⟩ (c_X2_mend (l := l) (dC := dC) (dI := dI) (cI := cI) (cJ := cJ) (cZ := cZ) (aR := aR) (aT := aT) (aP := aP) (aL := aL) (aN := aN) (aB := aB) (aWK := aWK) (aRE := aRE) (aY := aY) (aZ := aZ) h) (cwV 1 hts gL_law_X2_mend rfl rfl rfl hv_X2_mend ⟨Nat.le_of_ble_eq_true rfl, Nat.le_of_ble_eq_true rfl⟩) hK hP hD hS hA [0, 1, 2, 4, 5, 6, 7] [3, 8, 9, 10, 11, 12, 13, 14, 15, 16, 17] rfl rfl rfl rfl (by decide) 2 rfl rfl rfl rfl hl.1 rfl (Nat.le_of_ble_eq_true rfl) ⟨Nat.le_of_ble_eq_true rfl, Nat.le_of_ble_eq_true rfl⟩ dL_law_610 (fun r610 u610 H locs h hP hD hS => ?_)
          obtain ⟨fL_610, fWK_610, fRE_610⟩ := u610
          have hP : va_P (dC, dI) vwCl [oR aR aT aP, oP aP aL aN pk, aI aL cI 60 fL_610, aI aN cI 60 fN, oT aT aB aWK aRE aY aZ tk, aI aB cI 6 fB, aI aWK cI 61 fWK_610, aI aRE cI 61 fRE_610, aJ aY cJ 6 fY, aJ aZ cJ 6 fZ, oM aM aMM aML aMY aMT aMR aMB aMN mk mp, aI aMM cZ 36 fMM, aJ aML cJ 61 fML, aJ aMY cJ 6 fMY, aJ aMT cJ 6 fMT, aI aMR cI 60 fMR, aI aMB cI 60 fMB, aI aMN cI 60 fMN] H := hP.sub [11, 12, 13, 0, 14, 15, 16, 17, 1, 2, 3, 4, 5, 6, 7, 8, 9, 10] rfl
          have hD : va_D A [oR aR aT aP, oP aP aL aN pk, aI aL cI 60 fL_610, aI aN cI 60 fN, oT aT aB aWK aRE aY aZ tk, aI aB cI 6 fB, aI aWK cI 61 fWK_610, aI aRE cI 61 fRE_610, aJ aY cJ 6 fY, aJ aZ cJ 6 fZ, oM aM aMM aML aMY aMT aMR aMB aMN mk mp, aI aMM cZ 36 fMM, aJ aML cJ 61 fML, aJ aMY cJ 6 fMY, aJ aMT cJ 6 fMT, aI aMR cI 60 fMR, aI aMB cI 60 fMB, aI aMN cI 60 fMN] := hD.sub [11, 12, 13, 0, 14, 15, 16, 17, 1, 2, 3, 4, 5, 6, 7, 8, 9, 10] rfl rfl
          refine lv_aload_n hx hb dL_law_613 rfl (lv_at hl 2 rfl) ?_
          refine lv_aload_n hx hb dL_law_614 rfl (lv_at hl 0 rfl) ?_
          refine lv_iload_n hx hb dL_law_615 rfl (lv_at hl 3 rfl) ?_
          refine lv_iconst (v := 1) hx hb dL_law_616 (by decide) ?_
          refine lv_iadd hx hb dL_law_617 ?_
          refine va_sld hx hb hX hbl hbA hS h.1 dL_law_618 ?_
          have h := h.2
          refine mVi (wr := [oR aR aT aP, oP aP aL aN pk, aI aL cI 60 fL_610, aI aN cI 60 fN, oT aT aB aWK aRE aY aZ tk, aI aB cI 6 fB, aI aWK cI 61 fWK_610, aI aRE cI 61 fRE_610, aJ aY cJ 6 fY, aJ aZ cJ 6 fZ, aJ aMY cJ 6 fMY, aJ aMT cJ 6 fMT, aI aMN cI 60 fMN]) (As := [.int (xs (x3 + (1 : Int32)).toNatClampNeg)]) (rest := [.int r610]) ⟨hx, hb, hml, hown, hts⟩ (c_X3_mend (l := l) (dC := dC) (dI := dI) (cI := cI) (cJ := cJ) (cZ := cZ) (aM := aM) (aMM := aMM) (aML := aML) (aMY := aMY) (aMT := aMT) (aMR := aMR) (aMB := aMB) (aMN := aMN) h) (cwV 1 hts gL_law_X3_mend rfl rfl rfl hv_X3_mend ⟨Nat.le_of_ble_eq_true rfl, Nat.le_of_ble_eq_true rfl⟩) hK hP hD hS hA [10, 11, 12, 15, 16] [0, 1, 2, 3, 4, 5, 6, 7, 8, 9, 13, 14, 17] rfl rfl rfl rfl (by decide) 3 rfl rfl rfl rfl hl.1 rfl (Nat.le_of_ble_eq_true rfl) ⟨Nat.le_of_ble_eq_true rfl, Nat.le_of_ble_eq_true rfl⟩ dL_law_619 (fun r619 u619 H locs h hP hD hS => ?_)
          obtain ⟨fML_619, fMR_619, fMB_619⟩ := u619
          have hP : va_P (dC, dI) vwCl [oR aR aT aP, oP aP aL aN pk, aI aL cI 60 fL_610, aI aN cI 60 fN, oT aT aB aWK aRE aY aZ tk, aI aB cI 6 fB, aI aWK cI 61 fWK_610, aI aRE cI 61 fRE_610, aJ aY cJ 6 fY, aJ aZ cJ 6 fZ, oM aM aMM aML aMY aMT aMR aMB aMN mk mp, aI aMM cZ 36 fMM, aJ aML cJ 61 fML_619, aJ aMY cJ 6 fMY, aJ aMT cJ 6 fMT, aI aMR cI 60 fMR_619, aI aMB cI 60 fMB_619, aI aMN cI 60 fMN] H := hP.sub [0, 1, 2, 3, 4, 5, 6, 7, 8, 9, 13, 14, 15, 10, 11, 16, 17, 12] rfl
          have hD : va_D A [oR aR aT aP, oP aP aL aN pk, aI aL cI 60 fL_610, aI aN cI 60 fN, oT aT aB aWK aRE aY aZ tk, aI aB cI 6 fB, aI aWK cI 61 fWK_610, aI aRE cI 61 fRE_610, aJ aY cJ 6 fY, aJ aZ cJ 6 fZ, oM aM aMM aML aMY aMT aMR aMB aMN mk mp, aI aMM cZ 36 fMM, aJ aML cJ 61 fML_619, aJ aMY cJ 6 fMY, aJ aMT cJ 6 fMT, aI aMR cI 60 fMR_619, aI aMB cI 60 fMB_619, aI aMN cI 60 fMN] := hD.sub [0, 1, 2, 3, 4, 5, 6, 7, 8, 9, 13, 14, 15, 10, 11, 16, 17, 12] rfl rfl
          refine lv_icmp_eq (tgt := 758) hx hb dL_law_622 (by decide) (fun q622 => ?_) (fun q622 => ?_)
          · have h := h.1 q622
            obtain ⟨v758, ev758⟩ : ∃ y : Int32, y = x3 + (4 : Int32) := ⟨_, rfl⟩
            have h := h v758 ev758
            refine lv_iinc (v := v758) (lv' := [(3, .int v758), (0, .ref aS), (1, .ref aR), (2, .ref aM)]) hx hb dL_law_758 hl (k := 3) rfl (by rw [ev758]; rfl) (by decide) rfl (fun ls hl => ?_)
            refine lv_goto (tgt := 18) hx hb dL_law_761 (by decide) ?_
            exact h H locs ls hP hD hS (lv_sub hl [1, 2, 3, 0] rfl)
          · have h := h.2 q622
            refine lv_iconst (v := 0) hx hb dL_law_625 (by decide) ?_
            exact ret _ _ _ _ _ _ _ _ _ _ _ _ _ _ _ _ _ _ _ H locs ls _ dL_law_626 (Or.inl rfl) h hP hD hS
        · have h := h.2.2.2.2.2.2.2.2.2.2.2.2.2.2.2.2.2.2.2.1 q
          refine lv_tableIn (off := 595) (tgt := 627) hx hb dL_law_32 (by rw [q]; decide) (by rw [q]; decide) (by rw [q]; decide) (by decide) ?_
          refine lv_aload_n hx hb dL_law_627 rfl (lv_at hl 1 rfl) ?_
          refine mVi (wr := [aI aN cI 60 fN, aJ aY cJ 6 fY, aJ aZ cJ 6 fZ, oM aM aMM aML aMY aMT aMR aMB aMN mk mp, aI aMM cZ 36 fMM, aJ aML cJ 61 fML, aJ aMY cJ 6 fMY, aJ aMT cJ 6 fMT, aI aMR cI 60 fMR, aI aMB cI 60 fMB, aI aMN cI 60 fMN]) (As := []) (rest := []) ⟨hx, hb, hml, hown, hts⟩ (c_X2_fresh (l := l) (dC := dC) (dI := dI) (cI := cI) (cJ := cJ) (cZ := cZ) (aR := aR) (aT := aT) (aP := aP) (aL := aL) (aN := aN) (aB := aB) (aWK := aWK) (aRE := aRE) (aY := aY) (aZ := aZ) h) (cwV 0 hts gL_law_X2_fresh rfl rfl rfl hv_X2_fresh ⟨Nat.le_of_ble_eq_true rfl, Nat.le_of_ble_eq_true rfl⟩) hK hP hD hS hA [0, 1, 2, 4, 5, 6, 7] [3, 8, 9, 10, 11, 12, 13, 14, 15, 16, 17] rfl rfl rfl rfl (by decide) 2 rfl rfl rfl rfl hl.1 rfl (Nat.le_of_ble_eq_true rfl) ⟨Nat.le_of_ble_eq_true rfl, Nat.le_of_ble_eq_true rfl⟩ dL_law_628 (fun r628 u628 H locs h hP hD hS => ?_)
          obtain ⟨fL_628, fWK_628, fRE_628⟩ := u628
          have hP : va_P (dC, dI) vwCl [oR aR aT aP, oP aP aL aN pk, aI aL cI 60 fL_628, aI aN cI 60 fN, oT aT aB aWK aRE aY aZ tk, aI aB cI 6 fB, aI aWK cI 61 fWK_628, aI aRE cI 61 fRE_628, aJ aY cJ 6 fY, aJ aZ cJ 6 fZ, oM aM aMM aML aMY aMT aMR aMB aMN mk mp, aI aMM cZ 36 fMM, aJ aML cJ 61 fML, aJ aMY cJ 6 fMY, aJ aMT cJ 6 fMT, aI aMR cI 60 fMR, aI aMB cI 60 fMB, aI aMN cI 60 fMN] H := hP.sub [11, 12, 13, 0, 14, 15, 16, 17, 1, 2, 3, 4, 5, 6, 7, 8, 9, 10] rfl
          have hD : va_D A [oR aR aT aP, oP aP aL aN pk, aI aL cI 60 fL_628, aI aN cI 60 fN, oT aT aB aWK aRE aY aZ tk, aI aB cI 6 fB, aI aWK cI 61 fWK_628, aI aRE cI 61 fRE_628, aJ aY cJ 6 fY, aJ aZ cJ 6 fZ, oM aM aMM aML aMY aMT aMR aMB aMN mk mp, aI aMM cZ 36 fMM, aJ aML cJ 61 fML, aJ aMY cJ 6 fMY, aJ aMT cJ 6 fMT, aI aMR cI 60 fMR, aI aMB cI 60 fMB, aI aMN cI 60 fMN] := hD.sub [11, 12, 13, 0, 14, 15, 16, 17, 1, 2, 3, 4, 5, 6, 7, 8, 9, 10] rfl rfl
          refine lv_aload_n hx hb dL_law_631 rfl (lv_at hl 2 rfl) ?_
          refine mVi (wr := [oR aR aT aP, oP aP aL aN pk, aI aL cI 60 fL_628, aI aN cI 60 fN, oT aT aB aWK aRE aY aZ tk, aI aB cI 6 fB, aI aWK cI 61 fWK_628, aI aRE cI 61 fRE_628, aJ aY cJ 6 fY, aJ aZ cJ 6 fZ, aJ aMY cJ 6 fMY, aJ aMT cJ 6 fMT, aI aMN cI 60 fMN]) (As := []) (rest := [.int r628]) ⟨hx, hb, hml, hown, hts⟩ (c_X3_fresh (l := l) (dC := dC) (dI := dI) (cI := cI) (cJ := cJ) (cZ := cZ) (aM := aM) (aMM := aMM) (aML := aML) (aMY := aMY) (aMT := aMT) (aMR := aMR) (aMB := aMB) (aMN := aMN) h) (cwV 0 hts gL_law_X3_fresh rfl rfl rfl hv_X3_fresh ⟨Nat.le_of_ble_eq_true rfl, Nat.le_of_ble_eq_true rfl⟩) hK hP hD hS hA [10, 11, 12, 15, 16] [0, 1, 2, 3, 4, 5, 6, 7, 8, 9, 13, 14, 17] rfl rfl rfl rfl (by decide) 3 rfl rfl rfl rfl hl.1 rfl (Nat.le_of_ble_eq_true rfl) ⟨Nat.le_of_ble_eq_true rfl, Nat.le_of_ble_eq_true rfl⟩ dL_law_632 (fun r632 u632 H locs h hP hD hS => ?_)
          obtain ⟨fML_632, fMR_632, fMB_632⟩ := u632
          have hP : va_P (dC, dI) vwCl [oR aR aT aP, oP aP aL aN pk, aI aL cI 60 fL_628, aI aN cI 60 fN, oT aT aB aWK aRE aY aZ tk, aI aB cI 6 fB, aI aWK cI 61 fWK_628, aI aRE cI 61 fRE_628, aJ aY cJ 6 fY, aJ aZ cJ 6 fZ, oM aM aMM aML aMY aMT aMR aMB aMN mk mp, aI aMM cZ 36 fMM, aJ aML cJ 61 fML_632, aJ aMY cJ 6 fMY, aJ aMT cJ 6 fMT, aI aMR cI 60 fMR_632, aI aMB cI 60 fMB_632, aI aMN cI 60 fMN] H := hP.sub [0, 1, 2, 3, 4, 5, 6, 7, 8, 9, 13, 14, 15, 10, 11, 16, 17, 12] rfl
          have hD : va_D A [oR aR aT aP, oP aP aL aN pk, aI aL cI 60 fL_628, aI aN cI 60 fN, oT aT aB aWK aRE aY aZ tk, aI aB cI 6 fB, aI aWK cI 61 fWK_628, aI aRE cI 61 fRE_628, aJ aY cJ 6 fY, aJ aZ cJ 6 fZ, oM aM aMM aML aMY aMT aMR aMB aMN mk mp, aI aMM cZ 36 fMM, aJ aML cJ 61 fML_632, aJ aMY cJ 6 fMY, aJ aMT cJ 6 fMT, aI aMR cI 60 fMR_632, aI aMB cI 60 fMB_632, aI aMN cI 60 fMN] := hD.sub [0, 1, 2, 3, 4, 5, 6, 7, 8, 9, 13, 14, 15, 10, 11, 16, 17, 12] rfl rfl
          refine lv_icmp_eq (tgt := 758) hx hb dL_law_635 (by decide) (fun q635 => ?_) (fun q635 => ?_)
          · have h := h.1 q635
            obtain ⟨v758, ev758⟩ : ∃ y : Int32, y = x3 + (4 : Int32) := ⟨_, rfl⟩
            have h := h v758 ev758
            refine lv_iinc (v := v758) (lv' := [(3, .int v758), (0, .ref aS), (1, .ref aR), (2, .ref aM)]) hx hb dL_law_758 hl (k := 3) rfl (by rw [ev758]; rfl) (by decide) rfl (fun ls hl => ?_)
            refine lv_goto (tgt := 18) hx hb dL_law_761 (by decide) ?_
            exact h H locs ls hP hD hS (lv_sub hl [1, 2, 3, 0] rfl)
          · have h := h.2 q635
            refine lv_iconst (v := 0) hx hb dL_law_638 (by decide) ?_
            exact ret _ _ _ _ _ _ _ _ _ _ _ _ _ _ _ _ _ _ _ H locs ls _ dL_law_639 (Or.inl rfl) h hP hD hS
        · have h := h.2.2.2.2.2.2.2.2.2.2.2.2.2.2.2.2.2.2.2.2.1 q
          refine lv_tableIn (off := 608) (tgt := 640) hx hb dL_law_32 (by rw [q]; decide) (by rw [q]; decide) (by rw [q]; decide) (by decide) ?_
          refine lv_aload_n hx hb dL_law_640 rfl (lv_at hl 1 rfl) ?_
          refine lv_aload_n hx hb dL_law_641 rfl (lv_at hl 0 rfl) ?_
          refine lv_iload_n hx hb dL_law_642 rfl (lv_at hl 3 rfl) ?_
          refine lv_iconst (v := 1) hx hb dL_law_643 (by decide) ?_
          refine lv_iadd hx hb dL_law_644 ?_
          refine va_sld hx hb hX hbl hbA hS h.1 dL_law_645 ?_
          have h := h.2
          refine lv_aload_n hx hb dL_law_646 rfl (lv_at hl 0 rfl) ?_
          refine lv_iload_n hx hb dL_law_647 rfl (lv_at hl 3 rfl) ?_
          refine lv_iconst (v := 2) hx hb dL_law_648 (by decide) ?_
          refine lv_iadd hx hb dL_law_649 ?_
          refine va_sld hx hb hX hbl hbA hS h.1 dL_law_650 ?_
          have h := h.2
          refine mVi (wr := [aI aL cI 60 fL, oT aT aB aWK aRE aY aZ tk, aI aB cI 6 fB, aI aWK cI 61 fWK, aI aRE cI 61 fRE, aJ aY cJ 6 fY, aJ aZ cJ 6 fZ, oM aM aMM aML aMY aMT aMR aMB aMN mk mp, aI aMM cZ 36 fMM, aJ aML cJ 61 fML, aJ aMY cJ 6 fMY, aJ aMT cJ 6 fMT, aI aMR cI 60 fMR, aI aMB cI 60 fMB, aI aMN cI 60 fMN]) (As := [.int (xs (x3 + (1 : Int32)).toNatClampNeg), .int (xs (x3 + (2 : Int32)).toNatClampNeg)]) (rest := []) ⟨hx, hb, hml, hown, hts⟩ (c_X2_number (l := l) (dC := dC) (dI := dI) (cI := cI) (cJ := cJ) (cZ := cZ) (aR := aR) (aT := aT) (aP := aP) (aL := aL) (aN := aN) h) (cwV 2 hts gL_law_X2_number rfl rfl rfl hv_X2_number ⟨Nat.le_of_ble_eq_true rfl, Nat.le_of_ble_eq_true rfl⟩) hK hP hD hS hA [0, 1, 3] [2, 4, 5, 6, 7, 8, 9, 10, 11, 12, 13, 14, 15, 16, 17] rfl rfl rfl rfl (by decide) 2 rfl rfl rfl rfl hl.1 rfl (Nat.le_of_ble_eq_true rfl) ⟨Nat.le_of_ble_eq_true rfl, Nat.le_of_ble_eq_true rfl⟩ dL_law_651 (fun r651 fN_651 H locs h hP hD hS => ?_)
          have hP : va_P (dC, dI) vwCl [oR aR aT aP, oP aP aL aN pk, aI aL cI 60 fL, aI aN cI 60 fN_651, oT aT aB aWK aRE aY aZ tk, aI aB cI 6 fB, aI aWK cI 61 fWK, aI aRE cI 61 fRE, aJ aY cJ 6 fY, aJ aZ cJ 6 fZ, oM aM aMM aML aMY aMT aMR aMB aMN mk mp, aI aMM cZ 36 fMM, aJ aML cJ 61 fML, aJ aMY cJ 6 fMY, aJ aMT cJ 6 fMT, aI aMR cI 60 fMR, aI aMB cI 60 fMB, aI aMN cI 60 fMN] H := hP.sub [15, 16, 0, 17, 1, 2, 3, 4, 5, 6, 7, 8, 9, 10, 11, 12, 13, 14] rfl
          have hD : va_D A [oR aR aT aP, oP aP aL aN pk, aI aL cI 60 fL, aI aN cI 60 fN_651, oT aT aB aWK aRE aY aZ tk, aI aB cI 6 fB, aI aWK cI 61 fWK, aI aRE cI 61 fRE, aJ aY cJ 6 fY, aJ aZ cJ 6 fZ, oM aM aMM aML aMY aMT aMR aMB aMN mk mp, aI aMM cZ 36 fMM, aJ aML cJ 61 fML, aJ aMY cJ 6 fMY, aJ aMT cJ 6 fMT, aI aMR cI 60 fMR, aI aMB cI 60 fMB, aI aMN cI 60 fMN] := hD.sub [15, 16, 0, 17, 1, 2, 3, 4, 5, 6, 7, 8, 9, 10, 11, 12, 13, 14] rfl rfl
          refine lv_aload_n hx hb dL_law_654 rfl (lv_at hl 2 rfl) ?_
          refine lv_aload_n hx hb dL_law_655 rfl (lv_at hl 0 rfl) ?_
          refine lv_iload_n hx hb dL_law_656 rfl (lv_at hl 3 rfl) ?_
          refine lv_iconst (v := 1) hx hb dL_law_657 (by decide) ?_
          refine lv_iadd hx hb dL_law_658 ?_
          refine va_sld hx hb hX hbl hbA hS h.1 dL_law_659 ?_
          have h := h.2
          refine lv_aload_n hx hb dL_law_660 rfl (lv_at hl 0 rfl) ?_
          refine lv_iload_n hx hb dL_law_661 rfl (lv_at hl 3 rfl) ?_
          refine lv_iconst (v := 2) hx hb dL_law_662 (by decide) ?_
          refine lv_iadd hx hb dL_law_663 ?_
          refine va_sld hx hb hX hbl hbA hS h.1 dL_law_664 ?_
          have h := h.2
          refine mVi (wr := [oR aR aT aP, oP aP aL aN pk, aI aL cI 60 fL, aI aN cI 60 fN_651, oT aT aB aWK aRE aY aZ tk, aI aB cI 6 fB, aI aWK cI 61 fWK, aI aRE cI 61 fRE, aJ aY cJ 6 fY, aJ aZ cJ 6 fZ, aI aMM cZ 36 fMM, aJ aML cJ 61 fML, aJ aMY cJ 6 fMY, aJ aMT cJ 6 fMT, aI aMR cI 60 fMR, aI aMB cI 60 fMB]) (As := [.int (xs (x3 + (1 : Int32)).toNatClampNeg), .int (xs (x3 + (2 : Int32)).toNatClampNeg)]) (rest := [.int r651]) ⟨hx, hb, hml, hown, hts⟩ (c_X3_number (l := l) (dC := dC) (dI := dI) (cI := cI) (cJ := cJ) (cZ := cZ) (aM := aM) (aMM := aMM) (aML := aML) (aMY := aMY) (aMT := aMT) (aMR := aMR) (aMB := aMB) (aMN := aMN) h) (cwV 2 hts gL_law_X3_number rfl rfl rfl hv_X3_number ⟨Nat.le_of_ble_eq_true rfl, Nat.le_of_ble_eq_true rfl⟩) hK hP hD hS hA [10, 17] [0, 1, 2, 3, 4, 5, 6, 7, 8, 9, 11, 12, 13, 14, 15, 16] rfl rfl rfl rfl (by decide) 3 rfl rfl rfl rfl hl.1 rfl (Nat.le_of_ble_eq_true rfl) ⟨Nat.le_of_ble_eq_true rfl, Nat.le_of_ble_eq_true rfl⟩ dL_law_665 (fun r665 fMN_665 H locs h hP hD hS => ?_)
          have hP : va_P (dC, dI) vwCl [oR aR aT aP, oP aP aL aN pk, aI aL cI 60 fL, aI aN cI 60 fN_651, oT aT aB aWK aRE aY aZ tk, aI aB cI 6 fB, aI aWK cI 61 fWK, aI aRE cI 61 fRE, aJ aY cJ 6 fY, aJ aZ cJ 6 fZ, oM aM aMM aML aMY aMT aMR aMB aMN mk mp, aI aMM cZ 36 fMM, aJ aML cJ 61 fML, aJ aMY cJ 6 fMY, aJ aMT cJ 6 fMT, aI aMR cI 60 fMR, aI aMB cI 60 fMB, aI aMN cI 60 fMN_665] H := hP.sub [0, 1, 2, 3, 4, 5, 6, 7, 8, 9, 16, 10, 11, 12, 13, 14, 15, 17] rfl
          have hD : va_D A [oR aR aT aP, oP aP aL aN pk, aI aL cI 60 fL, aI aN cI 60 fN_651, oT aT aB aWK aRE aY aZ tk, aI aB cI 6 fB, aI aWK cI 61 fWK, aI aRE cI 61 fRE, aJ aY cJ 6 fY, aJ aZ cJ 6 fZ, oM aM aMM aML aMY aMT aMR aMB aMN mk mp, aI aMM cZ 36 fMM, aJ aML cJ 61 fML, aJ aMY cJ 6 fMY, aJ aMT cJ 6 fMT, aI aMR cI 60 fMR, aI aMB cI 60 fMB, aI aMN cI 60 fMN_665] := hD.sub [0, 1, 2, 3, 4, 5, 6, 7, 8, 9, 16, 10, 11, 12, 13, 14, 15, 17] rfl rfl
          refine lv_icmp_eq (tgt := 758) hx hb dL_law_668 (by decide) (fun q668 => ?_) (fun q668 => ?_)
          · have h := h.1 q668
            obtain ⟨v758, ev758⟩ : ∃ y : Int32, y = x3 + (4 : Int32) := ⟨_, rfl⟩
            have h := h v758 ev758
            refine lv_iinc (v := v758) (lv' := [(3, .int v758), (0, .ref aS), (1, .ref aR), (2, .ref aM)]) hx hb dL_law_758 hl (k := 3) rfl (by rw [ev758]; rfl) (by decide) rfl (fun ls hl => ?_)
            refine lv_goto (tgt := 18) hx hb dL_law_761 (by decide) ?_
            exact h H locs ls hP hD hS (lv_sub hl [1, 2, 3, 0] rfl)
          · have h := h.2 q668
            refine lv_iconst (v := 0) hx hb dL_law_671 (by decide) ?_
            exact ret _ _ _ _ _ _ _ _ _ _ _ _ _ _ _ _ _ _ _ H locs ls _ dL_law_672 (Or.inl rfl) h hP hD hS
        · have h := h.2.2.2.2.2.2.2.2.2.2.2.2.2.2.2.2.2.2.2.2.2.1 q
          refine lv_tableIn (off := 641) (tgt := 673) hx hb dL_law_32 (by rw [q]; decide) (by rw [q]; decide) (by rw [q]; decide) (by decide) ?_
          refine lv_aload_n hx hb dL_law_673 rfl (lv_at hl 1 rfl) ?_
          refine lv_aload_n hx hb dL_law_674 rfl (lv_at hl 0 rfl) ?_
          refine lv_iload_n hx hb dL_law_675 rfl (lv_at hl 3 rfl) ?_
          refine lv_iconst (v := 1) hx hb dL_law_676 (by decide) ?_
          refine lv_iadd hx hb dL_law_677 ?_
          refine va_sld hx hb hX hbl hbA hS h.1 dL_law_678 ?_
          have h := h.2
          refine mVi (wr := [aI aL cI 60 fL, oT aT aB aWK aRE aY aZ tk, aI aB cI 6 fB, aI aWK cI 61 fWK, aI aRE cI 61 fRE, aJ aY cJ 6 fY, aJ aZ cJ 6 fZ, oM aM aMM aML aMY aMT aMR aMB aMN mk mp, aI aMM cZ 36 fMM, aJ aML cJ 61 fML, aJ aMY cJ 6 fMY, aJ aMT cJ 6 fMT, aI aMR cI 60 fMR, aI aMB cI 60 fMB, aI aMN cI 60 fMN]) (As := [.int (xs (x3 + (1 : Int32)).toNatClampNeg)]) (rest := []) ⟨hx, hb, hml, hown, hts⟩ (c_X2_told (l := l) (dC := dC) (dI := dI) (cI := cI) (cJ := cJ) (cZ := cZ) (aR := aR) (aT := aT) (aP := aP) (aL := aL) (aN := aN) h) (cwV 1 hts gL_law_X2_told rfl rfl rfl hv_X2_told ⟨Nat.le_of_ble_eq_true rfl, Nat.le_of_ble_eq_true rfl⟩) hK hP hD hS hA [0, 1, 3] [2, 4, 5, 6, 7, 8, 9, 10, 11, 12, 13, 14, 15, 16, 17] rfl rfl rfl rfl (by decide) 2 rfl rfl rfl rfl hl.1 rfl (Nat.le_of_ble_eq_true rfl) ⟨Nat.le_of_ble_eq_true rfl, Nat.le_of_ble_eq_true rfl⟩ dL_law_679 (fun r679 u679 H locs h hP hD hS => ?_)
          have hP : va_P (dC, dI) vwCl [oR aR aT aP, oP aP aL aN pk, aI aL cI 60 fL, aI aN cI 60 fN, oT aT aB aWK aRE aY aZ tk, aI aB cI 6 fB, aI aWK cI 61 fWK, aI aRE cI 61 fRE, aJ aY cJ 6 fY, aJ aZ cJ 6 fZ, oM aM aMM aML aMY aMT aMR aMB aMN mk mp, aI aMM cZ 36 fMM, aJ aML cJ 61 fML, aJ aMY cJ 6 fMY, aJ aMT cJ 6 fMT, aI aMR cI 60 fMR, aI aMB cI 60 fMB, aI aMN cI 60 fMN] H := hP.sub [15, 16, 0, 17, 1, 2, 3, 4, 5, 6, 7, 8, 9, 10, 11, 12, 13, 14] rfl
          have hD : va_D A [oR aR aT aP, oP aP aL aN pk, aI aL cI 60 fL, aI aN cI 60 fN, oT aT aB aWK aRE aY aZ tk, aI aB cI 6 fB, aI aWK cI 61 fWK, aI aRE cI 61 fRE, aJ aY cJ 6 fY, aJ aZ cJ 6 fZ, oM aM aMM aML aMY aMT aMR aMB aMN mk mp, aI aMM cZ 36 fMM, aJ aML cJ 61 fML, aJ aMY cJ 6 fMY, aJ aMT cJ 6 fMT, aI aMR cI 60 fMR, aI aMB cI 60 fMB, aI aMN cI 60 fMN] := hD.sub [15, 16, 0, 17, 1, 2, 3, 4, 5, 6, 7, 8, 9, 10, 11, 12, 13, 14] rfl rfl
          refine lv_aload_n hx hb dL_law_682 rfl (lv_at hl 2 rfl) ?_
          refine lv_aload_n hx hb dL_law_683 rfl (lv_at hl 0 rfl) ?_
          refine lv_iload_n hx hb dL_law_684 rfl (lv_at hl 3 rfl) ?_
          refine lv_iconst (v := 1) hx hb dL_law_685 (by decide) ?_
          refine lv_iadd hx hb dL_law_686 ?_
          refine va_sld hx hb hX hbl hbA hS h.1 dL_law_687 ?_
          have h := h.2
          refine mVi (wr := [oR aR aT aP, oP aP aL aN pk, aI aL cI 60 fL, aI aN cI 60 fN, oT aT aB aWK aRE aY aZ tk, aI aB cI 6 fB, aI aWK cI 61 fWK, aI aRE cI 61 fRE, aJ aY cJ 6 fY, aJ aZ cJ 6 fZ, aI aMM cZ 36 fMM, aJ aML cJ 61 fML, aJ aMY cJ 6 fMY, aJ aMT cJ 6 fMT, aI aMR cI 60 fMR, aI aMB cI 60 fMB]) (As := [.int (xs (x3 + (1 : Int32)).toNatClampNeg)]) (rest := [.int r679]) ⟨hx, hb, hml, hown, hts⟩ (c_X3_told (l := l) (dC := dC) (dI := dI) (cI := cI) (cJ := cJ) (cZ := cZ) (aM := aM) (aMM := aMM) (aML := aML) (aMY := aMY) (aMT := aMT) (aMR := aMR) (aMB := aMB) (aMN := aMN) h) (cwV 1 hts gL_law_X3_told rfl rfl rfl hv_X3_told ⟨Nat.le_of_ble_eq_true rfl, Nat.le_of_ble_eq_true rfl⟩) hK hP hD hS hA [10, 17] [0, 1, 2, 3, 4, 5, 6, 7, 8, 9, 11, 12, 13, 14, 15, 16] rfl rfl rfl rfl (by decide) 3 rfl rfl rfl rfl hl.1 rfl (Nat.le_of_ble_eq_true rfl) ⟨Nat.le_of_ble_eq_true rfl, Nat.le_of_ble_eq_true rfl⟩ dL_law_688 (fun r688 u688 H locs h hP hD hS => ?_)
          have hP : va_P (dC, dI) vwCl [oR aR aT aP, oP aP aL aN pk, aI aL cI 60 fL, aI aN cI 60 fN, oT aT aB aWK aRE aY aZ tk, aI aB cI 6 fB, aI aWK cI 61 fWK, aI aRE cI 61 fRE, aJ aY cJ 6 fY, aJ aZ cJ 6 fZ, oM aM aMM aML aMY aMT aMR aMB aMN mk mp, aI aMM cZ 36 fMM, aJ aML cJ 61 fML, aJ aMY cJ 6 fMY, aJ aMT cJ 6 fMT, aI aMR cI 60 fMR, aI aMB cI 60 fMB, aI aMN cI 60 fMN] H := hP.sub [0, 1, 2, 3, 4, 5, 6, 7, 8, 9, 16, 10, 11, 12, 13, 14, 15, 17] rfl
          have hD : va_D A [oR aR aT aP, oP aP aL aN pk, aI aL cI 60 fL, aI aN cI 60 fN, oT aT aB aWK aRE aY aZ tk, aI aB cI 6 fB, aI aWK cI 61 fWK, aI aRE cI 61 fRE, aJ aY cJ 6 fY, aJ aZ cJ 6 fZ, oM aM aMM aML aMY aMT aMR aMB aMN mk mp, aI aMM cZ 36 fMM, aJ aML cJ 61 fML, aJ aMY cJ 6 fMY, aJ aMT cJ 6 fMT, aI aMR cI 60 fMR, aI aMB cI 60 fMB, aI aMN cI 60 fMN] := hD.sub [0, 1, 2, 3, 4, 5, 6, 7, 8, 9, 16, 10, 11, 12, 13, 14, 15, 17] rfl rfl
          refine lv_icmp_eq (tgt := 758) hx hb dL_law_691 (by decide) (fun q691 => ?_) (fun q691 => ?_)
          · have h := h.1 q691
            obtain ⟨v758, ev758⟩ : ∃ y : Int32, y = x3 + (4 : Int32) := ⟨_, rfl⟩
            have h := h v758 ev758
            refine lv_iinc (v := v758) (lv' := [(3, .int v758), (0, .ref aS), (1, .ref aR), (2, .ref aM)]) hx hb dL_law_758 hl (k := 3) rfl (by rw [ev758]; rfl) (by decide) rfl (fun ls hl => ?_)
            refine lv_goto (tgt := 18) hx hb dL_law_761 (by decide) ?_
            exact h H locs ls hP hD hS (lv_sub hl [1, 2, 3, 0] rfl)
          · have h := h.2 q691
            refine lv_iconst (v := 0) hx hb dL_law_694 (by decide) ?_
            exact ret _ _ _ _ _ _ _ _ _ _ _ _ _ _ _ _ _ _ _ H locs ls _ dL_law_695 (Or.inl rfl) h hP hD hS
        · have h := h.2.2.2.2.2.2.2.2.2.2.2.2.2.2.2.2.2.2.2.2.2.2.1 q
          refine lv_tableIn (off := 664) (tgt := 696) hx hb dL_law_32 (by rw [q]; decide) (by rw [q]; decide) (by rw [q]; decide) (by decide) ?_
          refine lv_aload_n hx hb dL_law_696 rfl (lv_at hl 1 rfl) ?_
          refine mVi (wr := [aI aL cI 60 fL, oT aT aB aWK aRE aY aZ tk, aI aB cI 6 fB, aI aWK cI 61 fWK, aI aRE cI 61 fRE, aJ aY cJ 6 fY, aJ aZ cJ 6 fZ, oM aM aMM aML aMY aMT aMR aMB aMN mk mp, aI aMM cZ 36 fMM, aJ aML cJ 61 fML, aJ aMY cJ 6 fMY, aJ aMT cJ 6 fMT, aI aMR cI 60 fMR, aI aMB cI 60 fMB, aI aMN cI 60 fMN]) (As := []) (rest := []) ⟨hx, hb, hml, hown, hts⟩ (c_X2_round (l := l) (dC := dC) (dI := dI) (cI := cI) (cJ := cJ) (cZ := cZ) (aR := aR) (aT := aT) (aP := aP) (aL := aL) (aN := aN) h) (cwV 0 hts gL_law_X2_round rfl rfl rfl hv_X2_round ⟨Nat.le_of_ble_eq_true rfl, Nat.le_of_ble_eq_true rfl⟩) hK hP hD hS hA [0, 1, 3] [2, 4, 5, 6, 7, 8, 9, 10, 11, 12, 13, 14, 15, 16, 17] rfl rfl rfl rfl (by decide) 2 rfl rfl rfl rfl hl.1 rfl (Nat.le_of_ble_eq_true rfl) ⟨Nat.le_of_ble_eq_true rfl, Nat.le_of_ble_eq_true rfl⟩ dL_law_697 (fun r697 fN_697 H locs h hP hD hS => ?_)
          have hP : va_P (dC, dI) vwCl [oR aR aT aP, oP aP aL aN pk, aI aL cI 60 fL, aI aN cI 60 fN_697, oT aT aB aWK aRE aY aZ tk, aI aB cI 6 fB, aI aWK cI 61 fWK, aI aRE cI 61 fRE, aJ aY cJ 6 fY, aJ aZ cJ 6 fZ, oM aM aMM aML aMY aMT aMR aMB aMN mk mp, aI aMM cZ 36 fMM, aJ aML cJ 61 fML, aJ aMY cJ 6 fMY, aJ aMT cJ 6 fMT, aI aMR cI 60 fMR, aI aMB cI 60 fMB, aI aMN cI 60 fMN] H := hP.sub [15, 16, 0, 17, 1, 2, 3, 4, 5, 6, 7, 8, 9, 10, 11, 12, 13, 14] rfl
          have hD : va_D A [oR aR aT aP, oP aP aL aN pk, aI aL cI 60 fL, aI aN cI 60 fN_697, oT aT aB aWK aRE aY aZ tk, aI aB cI 6 fB, aI aWK cI 61 fWK, aI aRE cI 61 fRE, aJ aY cJ 6 fY, aJ aZ cJ 6 fZ, oM aM aMM aML aMY aMT aMR aMB aMN mk mp, aI aMM cZ 36 fMM, aJ aML cJ 61 fML, aJ aMY cJ 6 fMY, aJ aMT cJ 6 fMT, aI aMR cI 60 fMR, aI aMB cI 60 fMB, aI aMN cI 60 fMN] := hD.sub [15, 16, 0, 17, 1, 2, 3, 4, 5, 6, 7, 8, 9, 10, 11, 12, 13, 14] rfl rfl
          refine lv_aload_n hx hb dL_law_700 rfl (lv_at hl 2 rfl) ?_
          refine mVi (wr := [oR aR aT aP, oP aP aL aN pk, aI aL cI 60 fL, aI aN cI 60 fN_697, oT aT aB aWK aRE aY aZ tk, aI aB cI 6 fB, aI aWK cI 61 fWK, aI aRE cI 61 fRE, aJ aY cJ 6 fY, aJ aZ cJ 6 fZ, aI aMM cZ 36 fMM, aJ aML cJ 61 fML, aJ aMY cJ 6 fMY, aJ aMT cJ 6 fMT, aI aMB cI 60 fMB]) (As := []) (rest := [.int r697]) ⟨hx, hb, hml, hown, hts⟩ (c_X3_round (l := l) (dC := dC) (dI := dI) (cI := cI) (cJ := cJ) (cZ := cZ) (aM := aM) (aMM := aMM) (aML := aML) (aMY := aMY) (aMT := aMT) (aMR := aMR) (aMB := aMB) (aMN := aMN) h) (cwV 0 hts gL_law_X3_round rfl rfl rfl hv_X3_round ⟨Nat.le_of_ble_eq_true rfl, Nat.le_of_ble_eq_true rfl⟩) hK hP hD hS hA [10, 15, 17] [0, 1, 2, 3, 4, 5, 6, 7, 8, 9, 11, 12, 13, 14, 16] rfl rfl rfl rfl (by decide) 3 rfl rfl rfl rfl hl.1 rfl (Nat.le_of_ble_eq_true rfl) ⟨Nat.le_of_ble_eq_true rfl, Nat.le_of_ble_eq_true rfl⟩ dL_law_701 (fun r701 u701 H locs h hP hD hS => ?_)
          obtain ⟨fMR_701, fMN_701⟩ := u701
          have hP : va_P (dC, dI) vwCl [oR aR aT aP, oP aP aL aN pk, aI aL cI 60 fL, aI aN cI 60 fN_697, oT aT aB aWK aRE aY aZ tk, aI aB cI 6 fB, aI aWK cI 61 fWK, aI aRE cI 61 fRE, aJ aY cJ 6 fY, aJ aZ cJ 6 fZ, oM aM aMM aML aMY aMT aMR aMB aMN mk mp, aI aMM cZ 36 fMM, aJ aML cJ 61 fML, aJ aMY cJ 6 fMY, aJ aMT cJ 6 fMT, aI aMR cI 60 fMR_701, aI aMB cI 60 fMB, aI aMN cI 60 fMN_701] H := hP.sub [0, 1, 2, 3, 4, 5, 6, 7, 8, 9, 15, 10, 11, 12, 13, 16, 14, 17] rfl
          have hD : va_D A [oR aR aT aP, oP aP aL aN pk, aI aL cI 60 fL, aI aN cI 60 fN_697, oT aT aB aWK aRE aY aZ tk, aI aB cI 6 fB, aI aWK cI 61 fWK, aI aRE cI 61 fRE, aJ aY cJ 6 fY, aJ aZ cJ 6 fZ, oM aM aMM aML aMY aMT aMR aMB aMN mk mp, aI aMM cZ 36 fMM, aJ aML cJ 61 fML, aJ aMY cJ 6 fMY, aJ aMT cJ 6 fMT, aI aMR cI 60 fMR_701, aI aMB cI 60 fMB, aI aMN cI 60 fMN_701] := hD.sub [0, 1, 2, 3, 4, 5, 6, 7, 8, 9, 15, 10, 11, 12, 13, 16, 14, 17] rfl rfl
          refine lv_icmp_eq (tgt := 758) hx hb dL_law_704 (by decide) (fun q704 => ?_) (fun q704 => ?_)
          · have h := h.1 q704
            obtain ⟨v758, ev758⟩ : ∃ y : Int32, y = x3 + (4 : Int32) := ⟨_, rfl⟩
            have h := h v758 ev758
            refine lv_iinc (v := v758) (lv' := [(3, .int v758), (0, .ref aS), (1, .ref aR), (2, .ref aM)]) hx hb dL_law_758 hl (k := 3) rfl (by rw [ev758]; rfl) (by decide) rfl (fun ls hl => ?_)
            refine lv_goto (tgt := 18) hx hb dL_law_761 (by decide) ?_
            exact h H locs ls hP hD hS (lv_sub hl [1, 2, 3, 0] rfl)
          · have h := h.2 q704
            refine lv_iconst (v := 0) hx hb dL_law_707 (by decide) ?_
            exact ret _ _ _ _ _ _ _ _ _ _ _ _ _ _ _ _ _ _ _ H locs ls _ dL_law_708 (Or.inl rfl) h hP hD hS
        · have h := h.2.2.2.2.2.2.2.2.2.2.2.2.2.2.2.2.2.2.2.2.2.2.2.1 q
          refine lv_tableIn (off := 677) (tgt := 709) hx hb dL_law_32 (by rw [q]; decide) (by rw [q]; decide) (by rw [q]; decide) (by decide) ?_
          refine lv_aload_n hx hb dL_law_709 rfl (lv_at hl 1 rfl) ?_
          refine mVi (wr := [aI aL cI 60 fL, oT aT aB aWK aRE aY aZ tk, aI aB cI 6 fB, aI aWK cI 61 fWK, aI aRE cI 61 fRE, aJ aY cJ 6 fY, aJ aZ cJ 6 fZ, oM aM aMM aML aMY aMT aMR aMB aMN mk mp, aI aMM cZ 36 fMM, aJ aML cJ 61 fML, aJ aMY cJ 6 fMY, aJ aMT cJ 6 fMT, aI aMR cI 60 fMR, aI aMB cI 60 fMB, aI aMN cI 60 fMN]) (As := []) (rest := []) ⟨hx, hb, hml, hown, hts⟩ (c_X2_colours (l := l) (dC := dC) (dI := dI) (cI := cI) (cJ := cJ) (cZ := cZ) (aR := aR) (aT := aT) (aP := aP) (aL := aL) (aN := aN) h) (cwV 0 hts gL_law_X2_colours rfl rfl rfl hv_X2_colours ⟨Nat.le_of_ble_eq_true rfl, Nat.le_of_ble_eq_true rfl⟩) hK hP hD hS hA [0, 1, 3] [2, 4, 5, 6, 7, 8, 9, 10, 11, 12, 13, 14, 15, 16, 17] rfl rfl rfl rfl (by decide) 2 rfl rfl rfl rfl hl.1 rfl (Nat.le_of_ble_eq_true rfl) ⟨Nat.le_of_ble_eq_true rfl, Nat.le_of_ble_eq_true rfl⟩ dL_law_710 (fun r710 fN_710 H locs h hP hD hS => ?_)
          have hP : va_P (dC, dI) vwCl [oR aR aT aP, oP aP aL aN pk, aI aL cI 60 fL, aI aN cI 60 fN_710, oT aT aB aWK aRE aY aZ tk, aI aB cI 6 fB, aI aWK cI 61 fWK, aI aRE cI 61 fRE, aJ aY cJ 6 fY, aJ aZ cJ 6 fZ, oM aM aMM aML aMY aMT aMR aMB aMN mk mp, aI aMM cZ 36 fMM, aJ aML cJ 61 fML, aJ aMY cJ 6 fMY, aJ aMT cJ 6 fMT, aI aMR cI 60 fMR, aI aMB cI 60 fMB, aI aMN cI 60 fMN] H := hP.sub [15, 16, 0, 17, 1, 2, 3, 4, 5, 6, 7, 8, 9, 10, 11, 12, 13, 14] rfl
          have hD : va_D A [oR aR aT aP, oP aP aL aN pk, aI aL cI 60 fL, aI aN cI 60 fN_710, oT aT aB aWK aRE aY aZ tk, aI aB cI 6 fB, aI aWK cI 61 fWK, aI aRE cI 61 fRE, aJ aY cJ 6 fY, aJ aZ cJ 6 fZ, oM aM aMM aML aMY aMT aMR aMB aMN mk mp, aI aMM cZ 36 fMM, aJ aML cJ 61 fML, aJ aMY cJ 6 fMY, aJ aMT cJ 6 fMT, aI aMR cI 60 fMR, aI aMB cI 60 fMB, aI aMN cI 60 fMN] := hD.sub [15, 16, 0, 17, 1, 2, 3, 4, 5, 6, 7, 8, 9, 10, 11, 12, 13, 14] rfl rfl
          refine lv_aload_n hx hb dL_law_713 rfl (lv_at hl 2 rfl) ?_
          refine mVi (wr := [oR aR aT aP, oP aP aL aN pk, aI aL cI 60 fL, aI aN cI 60 fN_710, oT aT aB aWK aRE aY aZ tk, aI aB cI 6 fB, aI aWK cI 61 fWK, aI aRE cI 61 fRE, aJ aY cJ 6 fY, aJ aZ cJ 6 fZ, aI aMM cZ 36 fMM, aJ aML cJ 61 fML, aJ aMY cJ 6 fMY, aJ aMT cJ 6 fMT, aI aMB cI 60 fMB]) (As := []) (rest := [.int r710]) ⟨hx, hb, hml, hown, hts⟩ (c_X3_colours (l := l) (dC := dC) (dI := dI) (cI := cI) (cJ := cJ) (cZ := cZ) (aM := aM) (aMM := aMM) (aML := aML) (aMY := aMY) (aMT := aMT) (aMR := aMR) (aMB := aMB) (aMN := aMN) h) (cwV 0 hts gL_law_X3_colours rfl rfl rfl hv_X3_colours ⟨Nat.le_of_ble_eq_true rfl, Nat.le_of_ble_eq_true rfl⟩) hK hP hD hS hA [10, 15, 17] [0, 1, 2, 3, 4, 5, 6, 7, 8, 9, 11, 12, 13, 14, 16] rfl rfl rfl rfl (by decide) 3 rfl rfl rfl rfl hl.1 rfl (Nat.le_of_ble_eq_true rfl) ⟨Nat.le_of_ble_eq_true rfl, Nat.le_of_ble_eq_true rfl⟩ dL_law_714 (fun r714 u714 H locs h hP hD hS => ?_)
          obtain ⟨fMR_714, fMN_714⟩ := u714
          have hP : va_P (dC, dI) vwCl [oR aR aT aP, oP aP aL aN pk, aI aL cI 60 fL, aI aN cI 60 fN_710, oT aT aB aWK aRE aY aZ tk, aI aB cI 6 fB, aI aWK cI 61 fWK, aI aRE cI 61 fRE, aJ aY cJ 6 fY, aJ aZ cJ 6 fZ, oM aM aMM aML aMY aMT aMR aMB aMN mk mp, aI aMM cZ 36 fMM, aJ aML cJ 61 fML, aJ aMY cJ 6 fMY, aJ aMT cJ 6 fMT, aI aMR cI 60 fMR_714, aI aMB cI 60 fMB, aI aMN cI 60 fMN_714] H := hP.sub [0, 1, 2, 3, 4, 5, 6, 7, 8, 9, 15, 10, 11, 12, 13, 16, 14, 17] rfl
          have hD : va_D A [oR aR aT aP, oP aP aL aN pk, aI aL cI 60 fL, aI aN cI 60 fN_710, oT aT aB aWK aRE aY aZ tk, aI aB cI 6 fB, aI aWK cI 61 fWK, aI aRE cI 61 fRE, aJ aY cJ 6 fY, aJ aZ cJ 6 fZ, oM aM aMM aML aMY aMT aMR aMB aMN mk mp, aI aMM cZ 36 fMM, aJ aML cJ 61 fML, aJ aMY cJ 6 fMY, aJ aMT cJ 6 fMT, aI aMR cI 60 fMR_714, aI aMB cI 60 fMB, aI aMN cI 60 fMN_714] := hD.sub [0, 1, 2, 3, 4, 5, 6, 7, 8, 9, 15, 10, 11, 12, 13, 16, 14, 17] rfl rfl
          refine lv_icmp_eq (tgt := 758) hx hb dL_law_717 (by decide) (fun q717 => ?_) (fun q717 => ?_)
          · have h := h.1 q717
            obtain ⟨v758, ev758⟩ : ∃ y : Int32, y = x3 + (4 : Int32) := ⟨_, rfl⟩
            have h := h v758 ev758
            refine lv_iinc (v := v758) (lv' := [(3, .int v758), (0, .ref aS), (1, .ref aR), (2, .ref aM)]) hx hb dL_law_758 hl (k := 3) rfl (by rw [ev758]; rfl) (by decide) rfl (fun ls hl => ?_)
            refine lv_goto (tgt := 18) hx hb dL_law_761 (by decide) ?_
            exact h H locs ls hP hD hS (lv_sub hl [1, 2, 3, 0] rfl)
          · have h := h.2 q717
            refine lv_iconst (v := 0) hx hb dL_law_720 (by decide) ?_
            exact ret _ _ _ _ _ _ _ _ _ _ _ _ _ _ _ _ _ _ _ H locs ls _ dL_law_721 (Or.inl rfl) h hP hD hS
        · have h := h.2.2.2.2.2.2.2.2.2.2.2.2.2.2.2.2.2.2.2.2.2.2.2.2.1 q
          refine lv_tableIn (off := 690) (tgt := 722) hx hb dL_law_32 (by rw [q]; decide) (by rw [q]; decide) (by rw [q]; decide) (by decide) ?_
          refine lv_aload_n hx hb dL_law_722 rfl (lv_at hl 1 rfl) ?_
          refine mVi (wr := [aI aB cI 6 fB, aI aWK cI 61 fWK, aI aRE cI 61 fRE, aJ aY cJ 6 fY, aJ aZ cJ 6 fZ, oM aM aMM aML aMY aMT aMR aMB aMN mk mp, aI aMM cZ 36 fMM, aJ aML cJ 61 fML, aJ aMY cJ 6 fMY, aJ aMT cJ 6 fMT, aI aMR cI 60 fMR, aI aMB cI 60 fMB, aI aMN cI 60 fMN]) (As := []) (rest := []) ⟨hx, hb, hml, hown, hts⟩ (c_X2_take (l := l) (dC := dC) (dI := dI) (cI := cI) (cJ := cJ) (cZ := cZ) (aR := aR) (aT := aT) (aP := aP) (aL := aL) (aN := aN) (aB := aB) (aWK := aWK) (aRE := aRE) (aY := aY) (aZ := aZ) h) (cwV 0 hts gL_law_X2_take rfl rfl rfl hv_X2_take ⟨Nat.le_of_ble_eq_true rfl, Nat.le_of_ble_eq_true rfl⟩) hK hP hD hS hA [0, 1, 2, 3, 4] [5, 6, 7, 8, 9, 10, 11, 12, 13, 14, 15, 16, 17] rfl rfl rfl rfl (by decide) 2 rfl rfl rfl rfl hl.1 rfl (Nat.le_of_ble_eq_true rfl) ⟨Nat.le_of_ble_eq_true rfl, Nat.le_of_ble_eq_true rfl⟩ dL_law_723 (fun r723 fL_723 H locs h hP hD hS => ?_)
          have hP : va_P (dC, dI) vwCl [oR aR aT aP, oP aP aL aN pk, aI aL cI 60 fL_723, aI aN cI 60 fN, oT aT aB aWK aRE aY aZ tk, aI aB cI 6 fB, aI aWK cI 61 fWK, aI aRE cI 61 fRE, aJ aY cJ 6 fY, aJ aZ cJ 6 fZ, oM aM aMM aML aMY aMT aMR aMB aMN mk mp, aI aMM cZ 36 fMM, aJ aML cJ 61 fML, aJ aMY cJ 6 fMY, aJ aMT cJ 6 fMT, aI aMR cI 60 fMR, aI aMB cI 60 fMB, aI aMN cI 60 fMN] H := hP.sub [13, 14, 15, 16, 17, 0, 1, 2, 3, 4, 5, 6, 7, 8, 9, 10, 11, 12] rfl
          have hD : va_D A [oR aR aT aP, oP aP aL aN pk, aI aL cI 60 fL_723, aI aN cI 60 fN, oT aT aB aWK aRE aY aZ tk, aI aB cI 6 fB, aI aWK cI 61 fWK, aI aRE cI 61 fRE, aJ aY cJ 6 fY, aJ aZ cJ 6 fZ, oM aM aMM aML aMY aMT aMR aMB aMN mk mp, aI aMM cZ 36 fMM, aJ aML cJ 61 fML, aJ aMY cJ 6 fMY, aJ aMT cJ 6 fMT, aI aMR cI 60 fMR, aI aMB cI 60 fMB, aI aMN cI 60 fMN] := hD.sub [13, 14, 15, 16, 17, 0, 1, 2, 3, 4, 5, 6, 7, 8, 9, 10, 11, 12] rfl rfl
          refine lv_aload_n hx hb dL_law_726 rfl (lv_at hl 2 rfl) ?_
          refine mVi (wr := [oR aR aT aP, oP aP aL aN pk, aI aL cI 60 fL_723, aI aN cI 60 fN, oT aT aB aWK aRE aY aZ tk, aI aB cI 6 fB, aI aWK cI 61 fWK, aI aRE cI 61 fRE, aJ aY cJ 6 fY, aJ aZ cJ 6 fZ, aI aMM cZ 36 fMM, aJ aML cJ 61 fML, aJ aMY cJ 6 fMY, aJ aMT cJ 6 fMT, aI aMR cI 60 fMR]) (As := []) (rest := [.int r723]) ⟨hx, hb, hml, hown, hts⟩ (c_X3_take (l := l) (dC := dC) (dI := dI) (cI := cI) (cJ := cJ) (cZ := cZ) (aM := aM) (aMM := aMM) (aML := aML) (aMY := aMY) (aMT := aMT) (aMR := aMR) (aMB := aMB) (aMN := aMN) h) (cwV 0 hts gL_law_X3_take rfl rfl rfl hv_X3_take ⟨Nat.le_of_ble_eq_true rfl, Nat.le_of_ble_eq_true rfl⟩) hK hP hD hS hA [10, 16, 17] [0, 1, 2, 3, 4, 5, 6, 7, 8, 9, 11, 12, 13, 14, 15] rfl rfl rfl rfl (by decide) 3 rfl rfl rfl rfl hl.1 rfl (Nat.le_of_ble_eq_true rfl) ⟨Nat.le_of_ble_eq_true rfl, Nat.le_of_ble_eq_true rfl⟩ dL_law_727 (fun r727 fMB_727 H locs h hP hD hS => ?_)
          have hP : va_P (dC, dI) vwCl [oR aR aT aP, oP aP aL aN pk, aI aL cI 60 fL_723, aI aN cI 60 fN, oT aT aB aWK aRE aY aZ tk, aI aB cI 6 fB, aI aWK cI 61 fWK, aI aRE cI 61 fRE, aJ aY cJ 6 fY, aJ aZ cJ 6 fZ, oM aM aMM aML aMY aMT aMR aMB aMN mk mp, aI aMM cZ 36 fMM, aJ aML cJ 61 fML, aJ aMY cJ 6 fMY, aJ aMT cJ 6 fMT, aI aMR cI 60 fMR, aI aMB cI 60 fMB_727, aI aMN cI 60 fMN] H := hP.sub [0, 1, 2, 3, 4, 5, 6, 7, 8, 9, 15, 10, 11, 12, 13, 14, 16, 17] rfl
          have hD : va_D A [oR aR aT aP, oP aP aL aN pk, aI aL cI 60 fL_723, aI aN cI 60 fN, oT aT aB aWK aRE aY aZ tk, aI aB cI 6 fB, aI aWK cI 61 fWK, aI aRE cI 61 fRE, aJ aY cJ 6 fY, aJ aZ cJ 6 fZ, oM aM aMM aML aMY aMT aMR aMB aMN mk mp, aI aMM cZ 36 fMM, aJ aML cJ 61 fML, aJ aMY cJ 6 fMY, aJ aMT cJ 6 fMT, aI aMR cI 60 fMR, aI aMB cI 60 fMB_727, aI aMN cI 60 fMN] := hD.sub [0, 1, 2, 3, 4, 5, 6, 7, 8, 9, 15, 10, 11, 12, 13, 14, 16, 17] rfl rfl
          refine lv_icmp_eq (tgt := 758) hx hb dL_law_730 (by decide) (fun q730 => ?_) (fun q730 => ?_)
          · have h := h.1 q730
            obtain ⟨v758, ev758⟩ : ∃ y : Int32, y = x3 + (4 : Int32) := ⟨_, rfl⟩
            have h := h v758 ev758
            refine lv_iinc (v := v758) (lv' := [(3, .int v758), (0, .ref aS), (1, .ref aR), (2, .ref aM)]) hx hb dL_law_758 hl (k := 3) rfl (by rw [ev758]; rfl) (by decide) rfl (fun ls hl => ?_)
            refine lv_goto (tgt := 18) hx hb dL_law_761 (by decide) ?_
            exact h H locs ls hP hD hS (lv_sub hl [1, 2, 3, 0] rfl)
          · have h := h.2 q730
            refine lv_iconst (v := 0) hx hb dL_law_733 (by decide) ?_
            exact ret _ _ _ _ _ _ _ _ _ _ _ _ _ _ _ _ _ _ _ H locs ls _ dL_law_734 (Or.inl rfl) h hP hD hS
        · have h := h.2.2.2.2.2.2.2.2.2.2.2.2.2.2.2.2.2.2.2.2.2.2.2.2.2 q
          refine lv_tableIn (off := 703) (tgt := 735) hx hb dL_law_32 (by rw [q]; decide) (by rw [q]; decide) (by rw [q]; decide) (by decide) ?_
          refine lv_aload_n hx hb dL_law_735 rfl (lv_at hl 1 rfl) ?_
          refine lv_aload_n hx hb dL_law_736 rfl (lv_at hl 0 rfl) ?_
          refine lv_iload_n hx hb dL_law_737 rfl (lv_at hl 3 rfl) ?_
          refine lv_iconst (v := 1) hx hb dL_law_738 (by decide) ?_
          refine lv_iadd hx hb dL_law_739 ?_
          refine va_sld hx hb hX hbl hbA hS h.1 dL_law_740 ?_
          have h := h.2
          refine mVi (wr := [aI aWK cI 61 fWK, aI aRE cI 61 fRE, aJ aY cJ 6 fY, aJ aZ cJ 6 fZ, oM aM aMM aML aMY aMT aMR aMB aMN mk mp, aI aMM cZ 36 fMM, aJ aML cJ 61 fML, aJ aMY cJ 6 fMY, aJ aMT cJ 6 fMT, aI aMR cI 60 fMR, aI aMB cI 60 fMB, aI aMN cI 60 fMN]) (As := [.int (xs (x3 + (1 : Int32)).toNatClampNeg)]) (rest := []) ⟨hx, hb, hml, hown, hts⟩ (c_X2_count (l := l) (dC := dC) (dI := dI) (cI := cI) (cJ := cJ) (cZ := cZ) (aR := aR) (aT := aT) (aP := aP) (aL := aL) (aN := aN) (aB := aB) (aWK := aWK) (aRE := aRE) (aY := aY) (aZ := aZ) h) (cwV 1 hts gL_law_X2_count rfl rfl rfl hv_X2_count ⟨Nat.le_of_ble_eq_true rfl, Nat.le_of_ble_eq_true rfl⟩) hK hP hD hS hA [0, 1, 2, 3, 4, 5] [6, 7, 8, 9, 10, 11, 12, 13, 14, 15, 16, 17] rfl rfl rfl rfl (by decide) 2 rfl rfl rfl rfl hl.1 rfl (Nat.le_of_ble_eq_true rfl) ⟨Nat.le_of_ble_eq_true rfl, Nat.le_of_ble_eq_true rfl⟩ dL_law_741 (fun r741 u741 H locs h hP hD hS => ?_)
          have hP : va_P (dC, dI) vwCl [oR aR aT aP, oP aP aL aN pk, aI aL cI 60 fL, aI aN cI 60 fN, oT aT aB aWK aRE aY aZ tk, aI aB cI 6 fB, aI aWK cI 61 fWK, aI aRE cI 61 fRE, aJ aY cJ 6 fY, aJ aZ cJ 6 fZ, oM aM aMM aML aMY aMT aMR aMB aMN mk mp, aI aMM cZ 36 fMM, aJ aML cJ 61 fML, aJ aMY cJ 6 fMY, aJ aMT cJ 6 fMT, aI aMR cI 60 fMR, aI aMB cI 60 fMB, aI aMN cI 60 fMN] H := hP.sub [12, 13, 14, 15, 16, 17, 0, 1, 2, 3, 4, 5, 6, 7, 8, 9, 10, 11] rfl
          have hD : va_D A [oR aR aT aP, oP aP aL aN pk, aI aL cI 60 fL, aI aN cI 60 fN, oT aT aB aWK aRE aY aZ tk, aI aB cI 6 fB, aI aWK cI 61 fWK, aI aRE cI 61 fRE, aJ aY cJ 6 fY, aJ aZ cJ 6 fZ, oM aM aMM aML aMY aMT aMR aMB aMN mk mp, aI aMM cZ 36 fMM, aJ aML cJ 61 fML, aJ aMY cJ 6 fMY, aJ aMT cJ 6 fMT, aI aMR cI 60 fMR, aI aMB cI 60 fMB, aI aMN cI 60 fMN] := hD.sub [12, 13, 14, 15, 16, 17, 0, 1, 2, 3, 4, 5, 6, 7, 8, 9, 10, 11] rfl rfl
          refine lv_aload_n hx hb dL_law_744 rfl (lv_at hl 2 rfl) ?_
          refine lv_aload_n hx hb dL_law_745 rfl (lv_at hl 0 rfl) ?_
          refine lv_iload_n hx hb dL_law_746 rfl (lv_at hl 3 rfl) ?_
          refine lv_iconst (v := 1) hx hb dL_law_747 (by decide) ?_
          refine lv_iadd hx hb dL_law_748 ?_
          refine va_sld hx hb hX hbl hbA hS h.1 dL_law_749 ?_
          have h := h.2
          refine mVi (wr := [oR aR aT aP, oP aP aL aN pk, aI aL cI 60 fL, aI aN cI 60 fN, oT aT aB aWK aRE aY aZ tk, aI aB cI 6 fB, aI aWK cI 61 fWK, aI aRE cI 61 fRE, aJ aY cJ 6 fY, aJ aZ cJ 6 fZ, aJ aML cJ 61 fML, aJ aMY cJ 6 fMY, aJ aMT cJ 6 fMT, aI aMR cI 60 fMR]) (As := [.int (xs (x3 + (1 : Int32)).toNatClampNeg)]) (rest := [.int r741]) ⟨hx, hb, hml, hown, hts⟩ (c_X3_count (l := l) (dC := dC) (dI := dI) (cI := cI) (cJ := cJ) (cZ := cZ) (aM := aM) (aMM := aMM) (aML := aML) (aMY := aMY) (aMT := aMT) (aMR := aMR) (aMB := aMB) (aMN := aMN) h) (cwV 1 hts gL_law_X3_count rfl rfl rfl hv_X3_count ⟨Nat.le_of_ble_eq_true rfl, Nat.le_of_ble_eq_true rfl⟩) hK hP hD hS hA [10, 11, 16, 17] [0, 1, 2, 3, 4, 5, 6, 7, 8, 9, 12, 13, 14, 15] rfl rfl rfl rfl (by decide) 3 rfl rfl rfl rfl hl.1 rfl (Nat.le_of_ble_eq_true rfl) ⟨Nat.le_of_ble_eq_true rfl, Nat.le_of_ble_eq_true rfl⟩ dL_law_750 (fun r750 u750 H locs h hP hD hS => ?_)
          have hP : va_P (dC, dI) vwCl [oR aR aT aP, oP aP aL aN pk, aI aL cI 60 fL, aI aN cI 60 fN, oT aT aB aWK aRE aY aZ tk, aI aB cI 6 fB, aI aWK cI 61 fWK, aI aRE cI 61 fRE, aJ aY cJ 6 fY, aJ aZ cJ 6 fZ, oM aM aMM aML aMY aMT aMR aMB aMN mk mp, aI aMM cZ 36 fMM, aJ aML cJ 61 fML, aJ aMY cJ 6 fMY, aJ aMT cJ 6 fMT, aI aMR cI 60 fMR, aI aMB cI 60 fMB, aI aMN cI 60 fMN] H := hP.sub [0, 1, 2, 3, 4, 5, 6, 7, 8, 9, 14, 15, 10, 11, 12, 13, 16, 17] rfl
          have hD : va_D A [oR aR aT aP, oP aP aL aN pk, aI aL cI 60 fL, aI aN cI 60 fN, oT aT aB aWK aRE aY aZ tk, aI aB cI 6 fB, aI aWK cI 61 fWK, aI aRE cI 61 fRE, aJ aY cJ 6 fY, aJ aZ cJ 6 fZ, oM aM aMM aML aMY aMT aMR aMB aMN mk mp, aI aMM cZ 36 fMM, aJ aML cJ 61 fML, aJ aMY cJ 6 fMY, aJ aMT cJ 6 fMT, aI aMR cI 60 fMR, aI aMB cI 60 fMB, aI aMN cI 60 fMN] := hD.sub [0, 1, 2, 3, 4, 5, 6, 7, 8, 9, 14, 15, 10, 11, 12, 13, 16, 17] rfl rfl
          refine lv_icmp_eq (tgt := 758) hx hb dL_law_753 (by decide) (fun q753 => ?_) (fun q753 => ?_)
          · have h := h.1 q753
            obtain ⟨v758, ev758⟩ : ∃ y : Int32, y = x3 + (4 : Int32) := ⟨_, rfl⟩
            have h := h v758 ev758
            refine lv_iinc (v := v758) (lv' := [(3, .int v758), (0, .ref aS), (1, .ref aR), (2, .ref aM)]) hx hb dL_law_758 hl (k := 3) rfl (by rw [ev758]; rfl) (by decide) rfl (fun ls hl => ?_)
            refine lv_goto (tgt := 18) hx hb dL_law_761 (by decide) ?_
            exact h H locs ls hP hD hS (lv_sub hl [1, 2, 3, 0] rfl)
          · have h := h.2 q753
            refine lv_iconst (v := 0) hx hb dL_law_756 (by decide) ?_
            exact ret _ _ _ _ _ _ _ _ _ _ _ _ _ _ _ _ _ _ _ H locs ls _ dL_law_757 (Or.inl rfl) h hP hD hS
  exact B18 x3 pk fL fN tk fB fWK fRE fY fZ mk mp fMM fML fMY fMT fMR fMB fMN h
