set_option maxHeartbeats 4000000 in
set_option maxRecDepth 100000 in
/-- the law's way through repeat_ -/
theorem st_repeat_ {p : Program} {l : Launch} {e : Env} {R : Room} {s : State} {m : MethodId} {args : Array Value} {below : List Frame} {meth : Method} {c : Code} {Q : State → Prop} {A : Nat → Prop} {D : va_G} {cI cZ cJ cO : ClassId} {e0 mi sa9 ln : Nat} {sc : Nat → Int32} {out o7 dT gT la ca aa na ya ta o n i cells slots : Nat} (hlt : l.stackTraces = false) (hF9 : CallFix p m c c_L_law 8 s args GT "RubbingMirrorsLaw") (hK : va_K D cls (TY cI cZ cJ cO) s) (hN : nW s) (hA : ∀ q, s.heap.size ≤ q → A q) (hU : vx_Zq Bundle.tN "UNASSIGNED_STACK" Bundle.steD A s s.heap) (hV : vx_Zq Bundle.tN "SUPPRESSED_SENTINEL" Bundle.listD A s s.heap) (hsP : sP A e0 mi s s.heap) (hX9 : va_X sa9 ln sc s s.heap) (hb9 : sa9 < s.heap.size) (hbA : ¬ A sa9) (hR1 : 9 ≤ R.frames) (hR2 : 260 ≤ R.locals) (h4 : 4 ≤ n) (h64 : n ≤ 64) (hln : ln < 2 ^ 20) (hin : i + 7 ≤ ln) (hc1 : cells + 3 ≤ R.cells) (hc2 : slots + 40 ≤ R.slots) (hk : LK p l e R s m args below meth c Q A D cI cZ cJ cO e0 sa9 ln sc out o7 dT gT la ca aa na ya ta o n i 1049 (cells + 3) (slots + 40)) : LK p l e R s m args below meth c Q A D cI cZ cJ cO e0 sa9 ln sc out o7 dT gT la ca aa na ya ta o n i 350 cells slots := by
  intro d g ns sl cr nn ak no ye nr tl th be bp bm bo u fo H locs ls hSI hCI hP hD hS hl
  obtain ⟨hx, hb, hml, hown, hg⟩ := hF9
  have hF9 : CallFix p m c c_L_law 8 s args GT "RubbingMirrorsLaw" := ⟨hx, hb, hml, hown, hg⟩
  obtain ⟨p0, hp0⟩ : ∃ x, x = sc (nI i + 1).toNatClampNeg := ⟨_, rfl⟩
  obtain ⟨p1, hp1⟩ : ∃ x, x = sc (nI i + 2).toNatClampNeg := ⟨_, rfl⟩
  refine lv_aload_n hx hb d_L_law_350 rfl (lv_at hl 1 rfl) ?_
  refine lv_aload_n hx hb d_L_law_351 rfl (lv_at hl 0 rfl) ?_
  refine lv_iload hx hb d_L_law_352 (lv_at hl 4 rfl) ?_
  refine lv_iconst (v := 1) hx hb d_L_law_354 (by decide) ?_
  refine lv_iadd hx hb d_L_law_355 ?_
  refine va_sld hx hb hX9 hb9 hbA hS (by rw [show nI i + 1 = nI (i + 1) from nI_k i 1]; exact vp_in_nI (by omega) (by omega)) d_L_law_356 ?_
  rw [← hp0]
  refine lv_aload_n hx hb d_L_law_357 rfl (lv_at hl 0 rfl) ?_
  refine lv_iload hx hb d_L_law_358 (lv_at hl 4 rfl) ?_
  refine lv_iconst (v := 2) hx hb d_L_law_360 (by decide) ?_
  refine lv_iadd hx hb d_L_law_361 ?_
  refine va_sld hx hb hX9 hb9 hbA hS (by rw [show nI i + 2 = nI (i + 2) from nI_k i 2]; exact vp_in_nI (by omega) (by omega)) d_L_law_362 ?_
  rw [← hp1]
  refine lv_aload_n hx hb d_L_law_363 rfl (lv_at hl 3 rfl) ?_
  have hP : va_P D cls (([oO cJ out fo] ++ u) ++ (oT cI cZ o7 dT gT la ca aa na ya ta n ns nn nr d g sl cr ak no ye tl th be bp bm bo)) H := ba_Pp pmL hP
  have hD : va_D A (([oO cJ out fo] ++ u) ++ (oT cI cZ o7 dT gT la ca aa na ya ta n ns nn nr d g sl cr ak no ye tl th be bp bm bo)) := ba_Dp pmL hD
  refine mcalli (wc := ([oO cJ out fo] ++ u)) (wr := (oT cI cZ o7 dT gT la ca aa na ya ta n ns nn nr d g sl cr ak no ye tl th be bp bm bo)) (vx_runSW (As := [.ref o, .int p0, .int p1, .ref out]) (rest := []) hF9 (c_L_repeat__ok l D cI cZ cJ cO H.size e0 mi o u (CI.o hCI) out fo p0 p1 (cRep n p0 p1) _ _ (K_repeat_ l hlt D cI cZ cJ cO e0 mi o n d g ns sl cr nn ak no ye nr tl h4 h64 u hCI  p0 p1) (fun _ _ h => h.1)) (vx_cwSW 4 hg (gqW g_345 g_346 g_17 g_347) rfl rfl rfl (by decide +kernel) ⟨Nat.le_trans (m := 9) (Nat.le_of_ble_eq_true rfl) hR1, Nat.le_trans (m := 260) (Nat.le_of_ble_eq_true rfl) hR2⟩) (kS hP hD hK hN hS hA hU hV hsP) rfl rfl hl.1 rfl (lv_room (Nat.le_of_ble_eq_true rfl)) d_L_law_364 ⟨by omega, by omega⟩) hP hD hS hA (fun r5 u9 H locs hq hP hD hS => ?_)
  obtain ⟨rfl, fo1, u1, rfl, hq⟩ := hq
  have hP : va_P D cls ([oO cJ out fo1] ++ ((oT cI cZ o7 dT gT la ca aa na ya ta n ns nn nr d g sl cr ak no ye tl th be bp bm bo) ++ u1)) H := ba_Pp pmL.symm hP
  have hD : va_D A ([oO cJ out fo1] ++ ((oT cI cZ o7 dT gT la ca aa na ya ta n ns nn nr d g sl cr ak no ye tl th be bp bm bo) ++ u1)) := ba_Dp pmL.symm hD
  refine W.widen (k := cells + 3) (n := slots + 40) (by omega) (by omega) ?_
  refine W.eq (g2 := F0 m 367 ls [.int (cRep n p0 p1)]) rfl ?_
  refine lv_istore (lv' := [(5, .int (cRep n p0 p1)), (0, .ref sa9), (1, .ref o), (2, .ref o7), (3, .ref out), (4, .int (nI i))]) hx hb d_L_law_367 hl (by decide) rfl (fun ls hl => ?_)
  refine lv_aload_n hx hb d_L_law_369 rfl (lv_at hl 3 rfl) ?_
  refine lv_aload_n hx hb d_L_law_370 rfl (lv_at hl 1 rfl) ?_
  refine lv_iload hx hb d_L_law_371 (lv_at hl 5 rfl) ?_
  refine lv_iconst (v := 1) hx hb d_L_law_373 (by decide) ?_
  refine lv_iadd hx hb d_L_law_374 ?_
  refine va_sld hx hb hX9 hb9 hbA hS (by rw [show nI i + 1 = nI (i + 1) from nI_k i 1]; exact vp_in_nI (by omega) (by omega)) d_L_law_375 ?_
  rw [← hp0]
  refine lv_aload_n hx hb d_L_law_376 rfl (lv_at hl 1 rfl) ?_
  refine lv_iload hx hb d_L_law_377 (lv_at hl 5 rfl) ?_
  refine lv_iconst (v := 2) hx hb d_L_law_379 (by decide) ?_
  refine lv_iadd hx hb d_L_law_380 ?_
  refine va_sld hx hb hX9 hb9 hbA hS (by rw [show nI i + 2 = nI (i + 2) from nI_k i 2]; exact vp_in_nI (by omega) (by omega)) d_L_law_381 ?_
  rw [← hp1]
  have hP : va_P D cls ((oT cI cZ o7 dT gT la ca aa na ya ta n ns nn nr d g sl cr ak no ye tl th be bp bm bo) ++ ([oO cJ out fo1] ++ u1)) H := ba_Pp pmT hP
  have hD : va_D A ((oT cI cZ o7 dT gT la ca aa na ya ta n ns nn nr d g sl cr ak no ye tl th be bp bm bo) ++ ([oO cJ out fo1] ++ u1)) := ba_Dp pmT hD
  refine mcalli (wc := (oT cI cZ o7 dT gT la ca aa na ya ta n ns nn nr d g sl cr ak no ye tl th be bp bm bo)) (wr := ([oO cJ out fo1] ++ u1)) (va_runV (As := [.int p0, .int p1]) (rest := []) hF9 (c_T_repeat__ok l D cI cZ cJ cO H.size o7 dT gT la ca aa na ya ta n ns nn nr d g sl cr ak no ye tl th be bp bm bo h4 h64 hSI.1 p0 p1 ) (cwV 2 hg (gv g_737 g_738 g_739 g_26 g_740) rfl rfl rfl (by decide +kernel) ⟨Nat.le_trans (m := 9) (Nat.le_of_ble_eq_true rfl) hR1, Nat.le_trans (m := 260) (Nat.le_of_ble_eq_true rfl) hR2⟩) (mV (ba_Pl hP) hK hN (ba_Dl hD) (va_recv hK (ba_Pl hP) (ci := 7) (q0 := 0) rfl rfl)) rfl rfl hl.1 rfl (lv_room (Nat.le_of_ble_eq_true rfl)) d_L_law_382 ⟨by omega, by omega⟩) hP hD hS hA (fun r6 u9 H locs hq2 hP hD hS => ?_)
  refine W.widen (k := cells + 3) (n := slots + 40) (by omega) (by omega) ?_
  obtain ⟨rfl, hv⟩ := hq2
  rcases hq with ⟨hc0, r1, hφ, hfo⟩ | ⟨hn0, hpx⟩
  · obtain rfl := hv hc0
    obtain ⟨-, rfl, hCI⟩ := hφ
    have hSI := hSI
    have hP : va_P D cls ((oT cI cZ o7 dT gT la ca aa na ya ta n ns nn nr d g sl cr ak no ye tl (cRep n p0 p1) be bp bm bo) ++ ([oO cJ out fo1] ++ u1)) H := hP
    have hD : va_D A ((oT cI cZ o7 dT gT la ca aa na ya ta n ns nn nr d g sl cr ak no ye tl (cRep n p0 p1) be bp bm bo) ++ ([oO cJ out fo1] ++ u1)) := hD
    refine W.eq (g2 := F0 m 385 ls [.int (nI (rp n d g p0.toNatClampNeg (p1.toNatClampNeg - p0.toNatClampNeg)))]) rfl ?_
    refine lv_istore (lv' := [(6, .int (nI (rp n d g p0.toNatClampNeg (p1.toNatClampNeg - p0.toNatClampNeg)))), (5, .int (cRep n p0 p1)), (0, .ref sa9), (1, .ref o), (2, .ref o7), (3, .ref out), (4, .int (nI i))]) hx hb d_L_law_385 hl (by decide) rfl (fun ls hl => ?_)
    refine lv_aload_n hx hb d_L_law_387 rfl (lv_at hl 4 rfl) ?_
    refine vp_callSi (va_Run.run (va_runV (As := []) (rest := []) hF9 (c_T_thrown_ok l D cI cZ cJ cO o7 dT gT la ca aa na ya ta n ns nn nr d g sl cr ak no ye tl (cRep n p0 p1) be bp bm bo h4 h64 hSI.1) (cwV 0 hg (gv g_691 g_692 g_693 g_26 g_694) rfl rfl rfl (by decide +kernel) ⟨Nat.le_trans (m := 9) (Nat.le_of_ble_eq_true rfl) hR1, Nat.le_trans (m := 260) (Nat.le_of_ble_eq_true rfl) hR2⟩) (pV (ba_Pl hP) hK hN (va_recv hK (ba_Pl hP) (ci := 7) (q0 := 0) rfl rfl)) rfl rfl hl.1 rfl (lv_room (Nat.le_of_ble_eq_true rfl)) d_L_law_388 ⟨by omega, by omega⟩)) (fun r7 hr7 => ?_)
    subst hr7
    refine W.eq (g2 := F0 m 391 ls [.int (cRep n p0 p1)]) rfl ?_
    have hP : va_P D cls ([oO cJ out fo1] ++ ((oT cI cZ o7 dT gT la ca aa na ya ta n ns nn nr d g sl cr ak no ye tl (cRep n p0 p1) be bp bm bo) ++ u1)) H := ba_Pp pmT.symm hP
    have hD : va_D A ([oO cJ out fo1] ++ ((oT cI cZ o7 dT gT la ca aa na ya ta n ns nn nr d g sl cr ak no ye tl (cRep n p0 p1) be bp bm bo) ++ u1)) := ba_Dp pmT.symm hD
    refine lv_iload hx hb d_L_law_391 (lv_at hl 1 rfl) ?_
    refine lv_icmp_eq (tgt := 398) hx hb d_L_law_393 (by decide) (fun c_393 => ?_) (fun c_393 => ?_)
    · refine lv_iload hx hb d_L_law_398 (lv_at hl 1 rfl) ?_
      refine lv_if_ne (tgt := 415) hx hb d_L_law_400 (by decide) (fun c_400 => ?_) (fun c_400 => ?_)
      · exact absurd hc0 c_400
      · refine lv_aload_n hx hb d_L_law_403 rfl (lv_at hl 5 rfl) ?_
        refine lv_iconst (v := 0) hx hb d_L_law_404 (by decide) ?_
        refine va_lald hx hb hK hP 0 2 rfl rfl (by unfold vp_in; decide) d_L_law_405 ?_
        rw [show fo1 (0 : Int32).toNatClampNeg = (nI (rp n d g p0.toNatClampNeg (p1.toNatClampNeg - p0.toNatClampNeg))).toInt64 from hfo]
        refine lv_iload hx hb d_L_law_406 (lv_at hl 0 rfl) ?_
        refine lv_i2l (v := (nI (rp n d g p0.toNatClampNeg (p1.toNatClampNeg - p0.toNatClampNeg))).toInt64) hx hb d_L_law_408 rfl ?_
        refine W.lcmp hx hb d_L_law_409 ?_
        refine lv_if_eq (tgt := 415) hx hb d_L_law_410 (by decide) (fun c_410 => ?_) (fun c_410 => ?_)
        · refine lv_goto (tgt := 1049) hx hb d_L_law_415 (by decide) ?_
          exact hk _ _ _ _ _ _ _ _ _ _ _ _ _ _ _ _ _ _ H locs ls hSI hCI hP hD hS (lv_sub hl [2, 3, 4, 5, 6] rfl)
        · exact absurd (cmp_s _) c_410
    · exact absurd rfl c_393
  · have hCI := hpx
    have hP : va_P D cls ((oT cI cZ o7 dT gT la ca aa na ya ta n ns nn nr d g sl cr ak no ye tl (cRep n p0 p1) be bp bm bo) ++ ([oO cJ out fo1] ++ u1)) H := hP
    have hD : va_D A ((oT cI cZ o7 dT gT la ca aa na ya ta n ns nn nr d g sl cr ak no ye tl (cRep n p0 p1) be bp bm bo) ++ ([oO cJ out fo1] ++ u1)) := hD
    refine W.eq (g2 := F0 m 385 ls [.int r6]) rfl ?_
    refine lv_istore (lv' := [(6, .int r6), (5, .int (cRep n p0 p1)), (0, .ref sa9), (1, .ref o), (2, .ref o7), (3, .ref out), (4, .int (nI i))]) hx hb d_L_law_385 hl (by decide) rfl (fun ls hl => ?_)
    refine lv_aload_n hx hb d_L_law_387 rfl (lv_at hl 4 rfl) ?_
    refine vp_callSi (va_Run.run (va_runV (As := []) (rest := []) hF9 (c_T_thrown_ok l D cI cZ cJ cO o7 dT gT la ca aa na ya ta n ns nn nr d g sl cr ak no ye tl (cRep n p0 p1) be bp bm bo h4 h64 hSI.1) (cwV 0 hg (gv g_691 g_692 g_693 g_26 g_694) rfl rfl rfl (by decide +kernel) ⟨Nat.le_trans (m := 9) (Nat.le_of_ble_eq_true rfl) hR1, Nat.le_trans (m := 260) (Nat.le_of_ble_eq_true rfl) hR2⟩) (pV (ba_Pl hP) hK hN (va_recv hK (ba_Pl hP) (ci := 7) (q0 := 0) rfl rfl)) rfl rfl hl.1 rfl (lv_room (Nat.le_of_ble_eq_true rfl)) d_L_law_388 ⟨by omega, by omega⟩)) (fun r7 hr7 => ?_)
    subst hr7
    refine W.eq (g2 := F0 m 391 ls [.int (cRep n p0 p1)]) rfl ?_
    have hP : va_P D cls ([oO cJ out fo1] ++ ((oT cI cZ o7 dT gT la ca aa na ya ta n ns nn nr d g sl cr ak no ye tl (cRep n p0 p1) be bp bm bo) ++ u1)) H := ba_Pp pmT.symm hP
    have hD : va_D A ([oO cJ out fo1] ++ ((oT cI cZ o7 dT gT la ca aa na ya ta n ns nn nr d g sl cr ak no ye tl (cRep n p0 p1) be bp bm bo) ++ u1)) := ba_Dp pmT.symm hD
    refine lv_iload hx hb d_L_law_391 (lv_at hl 1 rfl) ?_
    refine lv_icmp_eq (tgt := 398) hx hb d_L_law_393 (by decide) (fun c_393 => ?_) (fun c_393 => ?_)
    · refine lv_iload hx hb d_L_law_398 (lv_at hl 1 rfl) ?_
      refine lv_if_ne (tgt := 415) hx hb d_L_law_400 (by decide) (fun c_400 => ?_) (fun c_400 => ?_)
      · refine lv_goto (tgt := 1049) hx hb d_L_law_415 (by decide) ?_
        exact hk _ _ _ _ _ _ _ _ _ _ _ _ _ _ _ _ _ _ H locs ls hSI hCI hP hD hS (lv_sub hl [2, 3, 4, 5, 6] rfl)
      · exact absurd c_400 hn0
    · exact absurd rfl c_393

set_option maxHeartbeats 4000000 in
set_option maxRecDepth 100000 in
/-- the law's way through fill -/
theorem st_fill {p : Program} {l : Launch} {e : Env} {R : Room} {s : State} {m : MethodId} {args : Array Value} {below : List Frame} {meth : Method} {c : Code} {Q : State → Prop} {A : Nat → Prop} {D : va_G} {cI cZ cJ cO : ClassId} {e0 mi sa9 ln : Nat} {sc : Nat → Int32} {out o7 dT gT la ca aa na ya ta o n i cells slots : Nat} (hlt : l.stackTraces = false) (hF9 : CallFix p m c c_L_law 8 s args GT "RubbingMirrorsLaw") (hK : va_K D cls (TY cI cZ cJ cO) s) (hN : nW s) (hA : ∀ q, s.heap.size ≤ q → A q) (hU : vx_Zq Bundle.tN "UNASSIGNED_STACK" Bundle.steD A s s.heap) (hV : vx_Zq Bundle.tN "SUPPRESSED_SENTINEL" Bundle.listD A s s.heap) (hsP : sP A e0 mi s s.heap) (hX9 : va_X sa9 ln sc s s.heap) (hb9 : sa9 < s.heap.size) (hbA : ¬ A sa9) (hR1 : 9 ≤ R.frames) (hR2 : 260 ≤ R.locals) (h4 : 4 ≤ n) (h64 : n ≤ 64) (hln : ln < 2 ^ 20) (hin : i + 7 ≤ ln) (hc1 : cells + 3 ≤ R.cells) (hc2 : slots + 40 ≤ R.slots) (hk : LK p l e R s m args below meth c Q A D cI cZ cJ cO e0 sa9 ln sc out o7 dT gT la ca aa na ya ta o n i 1049 (cells + 3) (slots + 40)) : LK p l e R s m args below meth c Q A D cI cZ cJ cO e0 sa9 ln sc out o7 dT gT la ca aa na ya ta o n i 418 cells slots := by
  intro d g ns sl cr nn ak no ye nr tl th be bp bm bo u fo H locs ls hSI hCI hP hD hS hl
  obtain ⟨hx, hb, hml, hown, hg⟩ := hF9
  have hF9 : CallFix p m c c_L_law 8 s args GT "RubbingMirrorsLaw" := ⟨hx, hb, hml, hown, hg⟩
  obtain ⟨p0, hp0⟩ : ∃ x, x = sc (nI i + 1).toNatClampNeg := ⟨_, rfl⟩
  obtain ⟨p1, hp1⟩ : ∃ x, x = sc (nI i + 2).toNatClampNeg := ⟨_, rfl⟩
  refine lv_aload_n hx hb d_L_law_418 rfl (lv_at hl 1 rfl) ?_
  refine lv_aload_n hx hb d_L_law_419 rfl (lv_at hl 0 rfl) ?_
  refine lv_iload hx hb d_L_law_420 (lv_at hl 4 rfl) ?_
  refine lv_iconst (v := 1) hx hb d_L_law_422 (by decide) ?_
  refine lv_iadd hx hb d_L_law_423 ?_
  refine va_sld hx hb hX9 hb9 hbA hS (by rw [show nI i + 1 = nI (i + 1) from nI_k i 1]; exact vp_in_nI (by omega) (by omega)) d_L_law_424 ?_
  rw [← hp0]
  refine lv_aload_n hx hb d_L_law_425 rfl (lv_at hl 0 rfl) ?_
  refine lv_iload hx hb d_L_law_426 (lv_at hl 4 rfl) ?_
  refine lv_iconst (v := 2) hx hb d_L_law_428 (by decide) ?_
  refine lv_iadd hx hb d_L_law_429 ?_
  refine va_sld hx hb hX9 hb9 hbA hS (by rw [show nI i + 2 = nI (i + 2) from nI_k i 2]; exact vp_in_nI (by omega) (by omega)) d_L_law_430 ?_
  rw [← hp1]
  refine lv_aload_n hx hb d_L_law_431 rfl (lv_at hl 3 rfl) ?_
  have hP : va_P D cls (([oO cJ out fo] ++ u) ++ (oT cI cZ o7 dT gT la ca aa na ya ta n ns nn nr d g sl cr ak no ye tl th be bp bm bo)) H := ba_Pp pmL hP
  have hD : va_D A (([oO cJ out fo] ++ u) ++ (oT cI cZ o7 dT gT la ca aa na ya ta n ns nn nr d g sl cr ak no ye tl th be bp bm bo)) := ba_Dp pmL hD
  refine mcalli (wc := ([oO cJ out fo] ++ u)) (wr := (oT cI cZ o7 dT gT la ca aa na ya ta n ns nn nr d g sl cr ak no ye tl th be bp bm bo)) (vx_runSW (As := [.ref o, .int p0, .int p1, .ref out]) (rest := []) hF9 (c_L_fill_ok l D cI cZ cJ cO H.size e0 mi o u (CI.o hCI) out fo p0 p1 (cFil n p0 p1) _ _ (K_fill l hlt D cI cZ cJ cO e0 mi o n d g ns sl cr nn ak no ye nr tl h4 h64 u hCI  p0 p1) (fun _ _ h => h.1)) (vx_cwSW 4 hg (gqW g_353 g_354 g_17 g_355) rfl rfl rfl (by decide +kernel) ⟨Nat.le_trans (m := 9) (Nat.le_of_ble_eq_true rfl) hR1, Nat.le_trans (m := 260) (Nat.le_of_ble_eq_true rfl) hR2⟩) (kS hP hD hK hN hS hA hU hV hsP) rfl rfl hl.1 rfl (lv_room (Nat.le_of_ble_eq_true rfl)) d_L_law_432 ⟨by omega, by omega⟩) hP hD hS hA (fun r5 u9 H locs hq hP hD hS => ?_)
  obtain ⟨rfl, fo1, u1, rfl, hq⟩ := hq
  have hP : va_P D cls ([oO cJ out fo1] ++ ((oT cI cZ o7 dT gT la ca aa na ya ta n ns nn nr d g sl cr ak no ye tl th be bp bm bo) ++ u1)) H := ba_Pp pmL.symm hP
  have hD : va_D A ([oO cJ out fo1] ++ ((oT cI cZ o7 dT gT la ca aa na ya ta n ns nn nr d g sl cr ak no ye tl th be bp bm bo) ++ u1)) := ba_Dp pmL.symm hD
  refine W.widen (k := cells + 3) (n := slots + 40) (by omega) (by omega) ?_
  refine W.eq (g2 := F0 m 435 ls [.int (cFil n p0 p1)]) rfl ?_
  refine lv_istore (lv' := [(5, .int (cFil n p0 p1)), (0, .ref sa9), (1, .ref o), (2, .ref o7), (3, .ref out), (4, .int (nI i))]) hx hb d_L_law_435 hl (by decide) rfl (fun ls hl => ?_)
  refine lv_aload_n hx hb d_L_law_437 rfl (lv_at hl 3 rfl) ?_
  refine lv_aload_n hx hb d_L_law_438 rfl (lv_at hl 1 rfl) ?_
  refine lv_iload hx hb d_L_law_439 (lv_at hl 5 rfl) ?_
  refine lv_iconst (v := 1) hx hb d_L_law_441 (by decide) ?_
  refine lv_iadd hx hb d_L_law_442 ?_
  refine va_sld hx hb hX9 hb9 hbA hS (by rw [show nI i + 1 = nI (i + 1) from nI_k i 1]; exact vp_in_nI (by omega) (by omega)) d_L_law_443 ?_
  rw [← hp0]
  refine lv_aload_n hx hb d_L_law_444 rfl (lv_at hl 1 rfl) ?_
  refine lv_iload hx hb d_L_law_445 (lv_at hl 5 rfl) ?_
  refine lv_iconst (v := 2) hx hb d_L_law_447 (by decide) ?_
  refine lv_iadd hx hb d_L_law_448 ?_
  refine va_sld hx hb hX9 hb9 hbA hS (by rw [show nI i + 2 = nI (i + 2) from nI_k i 2]; exact vp_in_nI (by omega) (by omega)) d_L_law_449 ?_
  rw [← hp1]
  have hP : va_P D cls ((oT cI cZ o7 dT gT la ca aa na ya ta n ns nn nr d g sl cr ak no ye tl th be bp bm bo) ++ ([oO cJ out fo1] ++ u1)) H := ba_Pp pmT hP
  have hD : va_D A ((oT cI cZ o7 dT gT la ca aa na ya ta n ns nn nr d g sl cr ak no ye tl th be bp bm bo) ++ ([oO cJ out fo1] ++ u1)) := ba_Dp pmT hD
  refine mcalli (wc := (oT cI cZ o7 dT gT la ca aa na ya ta n ns nn nr d g sl cr ak no ye tl th be bp bm bo)) (wr := ([oO cJ out fo1] ++ u1)) (va_runV (As := [.int p0, .int p1]) (rest := []) hF9 (c_T_fill_ok l D cI cZ cJ cO H.size o7 dT gT la ca aa na ya ta n ns nn nr d g sl cr ak no ye tl th be bp bm bo h4 h64 hSI.1 p0 p1 ) (cwV 2 hg (gv g_741 g_742 g_743 g_26 g_744) rfl rfl rfl (by decide +kernel) ⟨Nat.le_trans (m := 9) (Nat.le_of_ble_eq_true rfl) hR1, Nat.le_trans (m := 260) (Nat.le_of_ble_eq_true rfl) hR2⟩) (mV (ba_Pl hP) hK hN (ba_Dl hD) (va_recv hK (ba_Pl hP) (ci := 7) (q0 := 0) rfl rfl)) rfl rfl hl.1 rfl (lv_room (Nat.le_of_ble_eq_true rfl)) d_L_law_450 ⟨by omega, by omega⟩) hP hD hS hA (fun r6 u9 H locs hq2 hP hD hS => ?_)
  refine W.widen (k := cells + 3) (n := slots + 40) (by omega) (by omega) ?_
  obtain ⟨rfl, hv⟩ := hq2
  rcases hq with ⟨hc0, r1, hφ, hfo⟩ | ⟨hn0, hpx⟩
  · obtain rfl := hv hc0
    obtain ⟨-, rfl, hCI⟩ := hφ
    have hSI := si_fil (g := g) (s := p0) (a := p1) hSI
    have hP : va_P D cls ((oT cI cZ o7 dT gT la ca aa na ya ta n ns nn nr ((fil n d g p0 p1).1) ((fil n d g p0 p1).2.1) sl cr ak no ye tl (cFil n p0 p1) be bp bm bo) ++ ([oO cJ out fo1] ++ u1)) H := hP
    have hD : va_D A ((oT cI cZ o7 dT gT la ca aa na ya ta n ns nn nr ((fil n d g p0 p1).1) ((fil n d g p0 p1).2.1) sl cr ak no ye tl (cFil n p0 p1) be bp bm bo) ++ ([oO cJ out fo1] ++ u1)) := hD
    refine W.eq (g2 := F0 m 453 ls [.int (nI (fil n d g p0 p1).2.2)]) rfl ?_
    refine lv_istore (lv' := [(6, .int (nI (fil n d g p0 p1).2.2)), (5, .int (cFil n p0 p1)), (0, .ref sa9), (1, .ref o), (2, .ref o7), (3, .ref out), (4, .int (nI i))]) hx hb d_L_law_453 hl (by decide) rfl (fun ls hl => ?_)
    refine lv_aload_n hx hb d_L_law_455 rfl (lv_at hl 4 rfl) ?_
    refine vp_callSi (va_Run.run (va_runV (As := []) (rest := []) hF9 (c_T_thrown_ok l D cI cZ cJ cO o7 dT gT la ca aa na ya ta n ns nn nr ((fil n d g p0 p1).1) ((fil n d g p0 p1).2.1) sl cr ak no ye tl (cFil n p0 p1) be bp bm bo h4 h64 hSI.1) (cwV 0 hg (gv g_691 g_692 g_693 g_26 g_694) rfl rfl rfl (by decide +kernel) ⟨Nat.le_trans (m := 9) (Nat.le_of_ble_eq_true rfl) hR1, Nat.le_trans (m := 260) (Nat.le_of_ble_eq_true rfl) hR2⟩) (pV (ba_Pl hP) hK hN (va_recv hK (ba_Pl hP) (ci := 7) (q0 := 0) rfl rfl)) rfl rfl hl.1 rfl (lv_room (Nat.le_of_ble_eq_true rfl)) d_L_law_456 ⟨by omega, by omega⟩)) (fun r7 hr7 => ?_)
    subst hr7
    refine W.eq (g2 := F0 m 459 ls [.int (cFil n p0 p1)]) rfl ?_
    have hP : va_P D cls ([oO cJ out fo1] ++ ((oT cI cZ o7 dT gT la ca aa na ya ta n ns nn nr ((fil n d g p0 p1).1) ((fil n d g p0 p1).2.1) sl cr ak no ye tl (cFil n p0 p1) be bp bm bo) ++ u1)) H := ba_Pp pmT.symm hP
    have hD : va_D A ([oO cJ out fo1] ++ ((oT cI cZ o7 dT gT la ca aa na ya ta n ns nn nr ((fil n d g p0 p1).1) ((fil n d g p0 p1).2.1) sl cr ak no ye tl (cFil n p0 p1) be bp bm bo) ++ u1)) := ba_Dp pmT.symm hD
    refine lv_iload hx hb d_L_law_459 (lv_at hl 1 rfl) ?_
    refine lv_icmp_eq (tgt := 466) hx hb d_L_law_461 (by decide) (fun c_461 => ?_) (fun c_461 => ?_)
    · refine lv_iload hx hb d_L_law_466 (lv_at hl 1 rfl) ?_
      refine lv_if_ne (tgt := 483) hx hb d_L_law_468 (by decide) (fun c_468 => ?_) (fun c_468 => ?_)
      · exact absurd hc0 c_468
      · refine lv_aload_n hx hb d_L_law_471 rfl (lv_at hl 5 rfl) ?_
        refine lv_iconst (v := 0) hx hb d_L_law_472 (by decide) ?_
        refine va_lald hx hb hK hP 0 2 rfl rfl (by unfold vp_in; decide) d_L_law_473 ?_
        rw [show fo1 (0 : Int32).toNatClampNeg = (nI (fil n d g p0 p1).2.2).toInt64 from hfo]
        refine lv_iload hx hb d_L_law_474 (lv_at hl 0 rfl) ?_
        refine lv_i2l (v := (nI (fil n d g p0 p1).2.2).toInt64) hx hb d_L_law_476 rfl ?_
        refine W.lcmp hx hb d_L_law_477 ?_
        refine lv_if_eq (tgt := 483) hx hb d_L_law_478 (by decide) (fun c_478 => ?_) (fun c_478 => ?_)
        · refine lv_goto (tgt := 1049) hx hb d_L_law_483 (by decide) ?_
          exact hk _ _ _ _ _ _ _ _ _ _ _ _ _ _ _ _ _ _ H locs ls hSI hCI hP hD hS (lv_sub hl [2, 3, 4, 5, 6] rfl)
        · exact absurd (cmp_s _) c_478
    · exact absurd rfl c_461
  · rw [show fil n d g p0 p1 = (d, g, 0) from if_neg hn0] at hP hD
    have hCI := hpx
    have hP : va_P D cls ((oT cI cZ o7 dT gT la ca aa na ya ta n ns nn nr d g sl cr ak no ye tl (cFil n p0 p1) be bp bm bo) ++ ([oO cJ out fo1] ++ u1)) H := hP
    have hD : va_D A ((oT cI cZ o7 dT gT la ca aa na ya ta n ns nn nr d g sl cr ak no ye tl (cFil n p0 p1) be bp bm bo) ++ ([oO cJ out fo1] ++ u1)) := hD
    refine W.eq (g2 := F0 m 453 ls [.int r6]) rfl ?_
    refine lv_istore (lv' := [(6, .int r6), (5, .int (cFil n p0 p1)), (0, .ref sa9), (1, .ref o), (2, .ref o7), (3, .ref out), (4, .int (nI i))]) hx hb d_L_law_453 hl (by decide) rfl (fun ls hl => ?_)
    refine lv_aload_n hx hb d_L_law_455 rfl (lv_at hl 4 rfl) ?_
    refine vp_callSi (va_Run.run (va_runV (As := []) (rest := []) hF9 (c_T_thrown_ok l D cI cZ cJ cO o7 dT gT la ca aa na ya ta n ns nn nr d g sl cr ak no ye tl (cFil n p0 p1) be bp bm bo h4 h64 hSI.1) (cwV 0 hg (gv g_691 g_692 g_693 g_26 g_694) rfl rfl rfl (by decide +kernel) ⟨Nat.le_trans (m := 9) (Nat.le_of_ble_eq_true rfl) hR1, Nat.le_trans (m := 260) (Nat.le_of_ble_eq_true rfl) hR2⟩) (pV (ba_Pl hP) hK hN (va_recv hK (ba_Pl hP) (ci := 7) (q0 := 0) rfl rfl)) rfl rfl hl.1 rfl (lv_room (Nat.le_of_ble_eq_true rfl)) d_L_law_456 ⟨by omega, by omega⟩)) (fun r7 hr7 => ?_)
    subst hr7
    refine W.eq (g2 := F0 m 459 ls [.int (cFil n p0 p1)]) rfl ?_
    have hP : va_P D cls ([oO cJ out fo1] ++ ((oT cI cZ o7 dT gT la ca aa na ya ta n ns nn nr d g sl cr ak no ye tl (cFil n p0 p1) be bp bm bo) ++ u1)) H := ba_Pp pmT.symm hP
    have hD : va_D A ([oO cJ out fo1] ++ ((oT cI cZ o7 dT gT la ca aa na ya ta n ns nn nr d g sl cr ak no ye tl (cFil n p0 p1) be bp bm bo) ++ u1)) := ba_Dp pmT.symm hD
    refine lv_iload hx hb d_L_law_459 (lv_at hl 1 rfl) ?_
    refine lv_icmp_eq (tgt := 466) hx hb d_L_law_461 (by decide) (fun c_461 => ?_) (fun c_461 => ?_)
    · refine lv_iload hx hb d_L_law_466 (lv_at hl 1 rfl) ?_
      refine lv_if_ne (tgt := 483) hx hb d_L_law_468 (by decide) (fun c_468 => ?_) (fun c_468 => ?_)
      · refine lv_goto (tgt := 1049) hx hb d_L_law_483 (by decide) ?_
        exact hk _ _ _ _ _ _ _ _ _ _ _ _ _ _ _ _ _ _ H locs ls hSI hCI hP hD hS (lv_sub hl [2, 3, 4, 5, 6] rfl)
      · exact absurd c_468 hn0
    · exact absurd rfl c_461

set_option maxHeartbeats 4000000 in
set_option maxRecDepth 100000 in
/-- the law's way through forget -/
theorem st_forget {p : Program} {l : Launch} {e : Env} {R : Room} {s : State} {m : MethodId} {args : Array Value} {below : List Frame} {meth : Method} {c : Code} {Q : State → Prop} {A : Nat → Prop} {D : va_G} {cI cZ cJ cO : ClassId} {e0 mi sa9 ln : Nat} {sc : Nat → Int32} {out o7 dT gT la ca aa na ya ta o n i cells slots : Nat} (hlt : l.stackTraces = false) (hF9 : CallFix p m c c_L_law 8 s args GT "RubbingMirrorsLaw") (hK : va_K D cls (TY cI cZ cJ cO) s) (hN : nW s) (hA : ∀ q, s.heap.size ≤ q → A q) (hU : vx_Zq Bundle.tN "UNASSIGNED_STACK" Bundle.steD A s s.heap) (hV : vx_Zq Bundle.tN "SUPPRESSED_SENTINEL" Bundle.listD A s s.heap) (hsP : sP A e0 mi s s.heap) (hX9 : va_X sa9 ln sc s s.heap) (hb9 : sa9 < s.heap.size) (hbA : ¬ A sa9) (hR1 : 9 ≤ R.frames) (hR2 : 260 ≤ R.locals) (h4 : 4 ≤ n) (h64 : n ≤ 64) (hln : ln < 2 ^ 20) (hin : i + 7 ≤ ln) (hc1 : cells + 3 ≤ R.cells) (hc2 : slots + 40 ≤ R.slots) (hk : LK p l e R s m args below meth c Q A D cI cZ cJ cO e0 sa9 ln sc out o7 dT gT la ca aa na ya ta o n i 1049 (cells + 3) (slots + 40)) : LK p l e R s m args below meth c Q A D cI cZ cJ cO e0 sa9 ln sc out o7 dT gT la ca aa na ya ta o n i 486 cells slots := by
  intro d g ns sl cr nn ak no ye nr tl th be bp bm bo u fo H locs ls hSI hCI hP hD hS hl
  obtain ⟨hx, hb, hml, hown, hg⟩ := hF9
  have hF9 : CallFix p m c c_L_law 8 s args GT "RubbingMirrorsLaw" := ⟨hx, hb, hml, hown, hg⟩
  refine lv_aload_n hx hb d_L_law_486 rfl (lv_at hl 1 rfl) ?_
  have hP : va_P D cls (([] ++ u) ++ ([oO cJ out fo] ++ (oT cI cZ o7 dT gT la ca aa na ya ta n ns nn nr d g sl cr ak no ye tl th be bp bm bo))) H := ba_Pp pmV hP
  have hD : va_D A (([] ++ u) ++ ([oO cJ out fo] ++ (oT cI cZ o7 dT gT la ca aa na ya ta n ns nn nr d g sl cr ak no ye tl th be bp bm bo))) := ba_Dp pmV hD
  refine mcalli (wc := u) (wr := ([oO cJ out fo] ++ (oT cI cZ o7 dT gT la ca aa na ya ta n ns nn nr d g sl cr ak no ye tl th be bp bm bo))) (va_runV (As := []) (rest := []) hF9 (K_forget l hlt D cI cZ cJ cO e0 mi o n d g ns sl cr nn ak no ye nr tl h4 h64 u hCI H.size) (cwV 0 hg (gv g_141 g_142 g_143 g_18 g_144) rfl rfl rfl (by decide +kernel) ⟨Nat.le_trans (m := 9) (Nat.le_of_ble_eq_true rfl) hR1, Nat.le_trans (m := 260) (Nat.le_of_ble_eq_true rfl) hR2⟩) (kV (wc := u) hP hD hK hN hS hA hU hV hsP (CI.o hCI)) rfl rfl hl.1 rfl (lv_room (Nat.le_of_ble_eq_true rfl)) d_L_law_487 ⟨by omega, by omega⟩) hP hD hS hA (fun r5 u1 H locs hq hP hD hS => ?_)
  obtain ⟨rfl, hCI⟩ := hq
  have hP : va_P D cls ([oO cJ out fo] ++ ((oT cI cZ o7 dT gT la ca aa na ya ta n ns nn nr d g sl cr ak no ye tl th be bp bm bo) ++ u1)) H := ba_Pp pmV.symm hP
  have hD : va_D A ([oO cJ out fo] ++ ((oT cI cZ o7 dT gT la ca aa na ya ta n ns nn nr d g sl cr ak no ye tl th be bp bm bo) ++ u1)) := ba_Dp pmV.symm hD
  refine W.widen (k := cells + 3) (n := slots + 40) (by omega) (by omega) ?_
  refine W.eq (g2 := F0 m 490 ls [.int (nI (lgs d g n).2.2)]) rfl ?_
  refine lv_aload_n hx hb d_L_law_490 rfl (lv_at hl 2 rfl) ?_
  have hP : va_P D cls ((oT cI cZ o7 dT gT la ca aa na ya ta n ns nn nr d g sl cr ak no ye tl th be bp bm bo) ++ ([oO cJ out fo] ++ u1)) H := ba_Pp pmT hP
  have hD : va_D A ((oT cI cZ o7 dT gT la ca aa na ya ta n ns nn nr d g sl cr ak no ye tl th be bp bm bo) ++ ([oO cJ out fo] ++ u1)) := ba_Dp pmT hD
  refine mcalli (wc := (oT cI cZ o7 dT gT la ca aa na ya ta n ns nn nr d g sl cr ak no ye tl th be bp bm bo)) (wr := ([oO cJ out fo] ++ u1)) (va_runV (As := []) (rest := [.int (nI (lgs d g n).2.2)]) hF9 (c_T_forget_ok l D cI cZ cJ cO H.size o7 dT gT la ca aa na ya ta n ns nn nr d g sl cr ak no ye tl th be bp bm bo h4 h64 hSI.1) (cwV 0 hg (gv g_749 g_750 g_751 g_26 g_752) rfl rfl rfl (by decide +kernel) ⟨Nat.le_trans (m := 9) (Nat.le_of_ble_eq_true rfl) hR1, Nat.le_trans (m := 260) (Nat.le_of_ble_eq_true rfl) hR2⟩) (mV (ba_Pl hP) hK hN (ba_Dl hD) (va_recv hK (ba_Pl hP) (ci := 7) (q0 := 0) rfl rfl)) rfl rfl hl.1 rfl (lv_room (Nat.le_of_ble_eq_true rfl)) d_L_law_491 ⟨by omega, by omega⟩) hP hD hS hA (fun r6 u9 H locs hq2 hP hD hS => ?_)
  obtain ⟨rfl, rfl⟩ := hq2
  have hP : va_P D cls ([oO cJ out fo] ++ ((oT cI cZ o7 dT gT la ca aa na ya ta n ns nn nr ((lgs d g n).1) ((lgs d g n).2.1) sl cr ak no ye tl 0 be bp bm bo) ++ u1)) H := ba_Pp pmT.symm hP
  have hD : va_D A ([oO cJ out fo] ++ ((oT cI cZ o7 dT gT la ca aa na ya ta n ns nn nr ((lgs d g n).1) ((lgs d g n).2.1) sl cr ak no ye tl 0 be bp bm bo) ++ u1)) := ba_Dp pmT.symm hD
  refine W.widen (k := cells + 3) (n := slots + 40) (by omega) (by omega) ?_
  refine W.eq (g2 := F0 m 494 ls [.int (nI (lgs d g n).2.2), .int (nI (lgs d g n).2.2)]) rfl ?_
  refine lv_icmp_eq (tgt := 1049) hx hb d_L_law_494 (by decide) (fun c_494 => ?_) (fun c_494 => ?_)
  · exact hk _ _ _ _ _ _ _ _ _ _ _ _ _ _ _ _ _ _ H locs ls (si_lgs hSI) hCI hP hD hS (lv_sub hl [0, 1, 2, 3, 4] rfl)
  · exact absurd rfl c_494

set_option maxHeartbeats 4000000 in
set_option maxRecDepth 100000 in
/-- the law's way through shape -/
theorem st_shape {p : Program} {l : Launch} {e : Env} {R : Room} {s : State} {m : MethodId} {args : Array Value} {below : List Frame} {meth : Method} {c : Code} {Q : State → Prop} {A : Nat → Prop} {D : va_G} {cI cZ cJ cO : ClassId} {e0 mi sa9 ln : Nat} {sc : Nat → Int32} {out o7 dT gT la ca aa na ya ta o n i cells slots : Nat} (hlt : l.stackTraces = false) (hF9 : CallFix p m c c_L_law 8 s args GT "RubbingMirrorsLaw") (hK : va_K D cls (TY cI cZ cJ cO) s) (hN : nW s) (hA : ∀ q, s.heap.size ≤ q → A q) (hU : vx_Zq Bundle.tN "UNASSIGNED_STACK" Bundle.steD A s s.heap) (hV : vx_Zq Bundle.tN "SUPPRESSED_SENTINEL" Bundle.listD A s s.heap) (hsP : sP A e0 mi s s.heap) (hX9 : va_X sa9 ln sc s s.heap) (hb9 : sa9 < s.heap.size) (hbA : ¬ A sa9) (hR1 : 9 ≤ R.frames) (hR2 : 260 ≤ R.locals) (h4 : 4 ≤ n) (h64 : n ≤ 64) (hln : ln < 2 ^ 20) (hin : i + 7 ≤ ln) (hc1 : cells + 3 ≤ R.cells) (hc2 : slots + 40 ≤ R.slots) (hk : LK p l e R s m args below meth c Q A D cI cZ cJ cO e0 sa9 ln sc out o7 dT gT la ca aa na ya ta o n i 1049 (cells + 3) (slots + 40)) : LK p l e R s m args below meth c Q A D cI cZ cJ cO e0 sa9 ln sc out o7 dT gT la ca aa na ya ta o n i 499 cells slots := by
  intro d g ns sl cr nn ak no ye nr tl th be bp bm bo u fo H locs ls hSI hCI hP hD hS hl
  obtain ⟨hx, hb, hml, hown, hg⟩ := hF9
  have hF9 : CallFix p m c c_L_law 8 s args GT "RubbingMirrorsLaw" := ⟨hx, hb, hml, hown, hg⟩
  obtain ⟨p0, hp0⟩ : ∃ x, x = sc (nI i + 1).toNatClampNeg := ⟨_, rfl⟩
  refine lv_aload_n hx hb d_L_law_499 rfl (lv_at hl 1 rfl) ?_
  refine lv_aload_n hx hb d_L_law_500 rfl (lv_at hl 0 rfl) ?_
  refine lv_iload hx hb d_L_law_501 (lv_at hl 4 rfl) ?_
  refine lv_iconst (v := 1) hx hb d_L_law_503 (by decide) ?_
  refine lv_iadd hx hb d_L_law_504 ?_
  refine va_sld hx hb hX9 hb9 hbA hS (by rw [show nI i + 1 = nI (i + 1) from nI_k i 1]; exact vp_in_nI (by omega) (by omega)) d_L_law_505 ?_
  rw [← hp0]
  refine lv_aload_n hx hb d_L_law_506 rfl (lv_at hl 3 rfl) ?_
  have hP : va_P D cls (([oO cJ out fo] ++ u) ++ (oT cI cZ o7 dT gT la ca aa na ya ta n ns nn nr d g sl cr ak no ye tl th be bp bm bo)) H := ba_Pp pmL hP
  have hD : va_D A (([oO cJ out fo] ++ u) ++ (oT cI cZ o7 dT gT la ca aa na ya ta n ns nn nr d g sl cr ak no ye tl th be bp bm bo)) := ba_Dp pmL hD
  refine mcalli (wc := ([oO cJ out fo] ++ u)) (wr := (oT cI cZ o7 dT gT la ca aa na ya ta n ns nn nr d g sl cr ak no ye tl th be bp bm bo)) (vx_runSW (As := [.ref o, .int p0, .ref out]) (rest := []) hF9 (c_L_shape_ok l D cI cZ cJ cO H.size e0 mi o u (CI.o hCI) out fo p0 (cSha p0 ns) _ _ (K_shape l hlt D cI cZ cJ cO e0 mi o n d g ns sl cr nn ak no ye nr tl h4 h64 u hCI hSI.2.1 p0) (fun _ _ h => h.1)) (vx_cwSW 3 hg (gqW g_370 g_371 g_17 g_372) rfl rfl rfl (by decide +kernel) ⟨Nat.le_trans (m := 9) (Nat.le_of_ble_eq_true rfl) hR1, Nat.le_trans (m := 260) (Nat.le_of_ble_eq_true rfl) hR2⟩) (kS hP hD hK hN hS hA hU hV hsP) rfl rfl hl.1 rfl (lv_room (Nat.le_of_ble_eq_true rfl)) d_L_law_507 ⟨by omega, by omega⟩) hP hD hS hA (fun r5 u9 H locs hq hP hD hS => ?_)
  obtain ⟨rfl, fo1, u1, rfl, hq⟩ := hq
  have hP : va_P D cls ([oO cJ out fo1] ++ ((oT cI cZ o7 dT gT la ca aa na ya ta n ns nn nr d g sl cr ak no ye tl th be bp bm bo) ++ u1)) H := ba_Pp pmL.symm hP
  have hD : va_D A ([oO cJ out fo1] ++ ((oT cI cZ o7 dT gT la ca aa na ya ta n ns nn nr d g sl cr ak no ye tl th be bp bm bo) ++ u1)) := ba_Dp pmL.symm hD
  refine W.widen (k := cells + 3) (n := slots + 40) (by omega) (by omega) ?_
  refine W.eq (g2 := F0 m 510 ls [.int (cSha p0 ns)]) rfl ?_
  refine lv_istore (lv' := [(5, .int (cSha p0 ns)), (0, .ref sa9), (1, .ref o), (2, .ref o7), (3, .ref out), (4, .int (nI i))]) hx hb d_L_law_510 hl (by decide) rfl (fun ls hl => ?_)
  refine lv_aload_n hx hb d_L_law_512 rfl (lv_at hl 3 rfl) ?_
  refine lv_aload_n hx hb d_L_law_513 rfl (lv_at hl 1 rfl) ?_
  refine lv_iload hx hb d_L_law_514 (lv_at hl 5 rfl) ?_
  refine lv_iconst (v := 1) hx hb d_L_law_516 (by decide) ?_
  refine lv_iadd hx hb d_L_law_517 ?_
  refine va_sld hx hb hX9 hb9 hbA hS (by rw [show nI i + 1 = nI (i + 1) from nI_k i 1]; exact vp_in_nI (by omega) (by omega)) d_L_law_518 ?_
  rw [← hp0]
  have hP : va_P D cls ((oT cI cZ o7 dT gT la ca aa na ya ta n ns nn nr d g sl cr ak no ye tl th be bp bm bo) ++ ([oO cJ out fo1] ++ u1)) H := ba_Pp pmT hP
  have hD : va_D A ((oT cI cZ o7 dT gT la ca aa na ya ta n ns nn nr d g sl cr ak no ye tl th be bp bm bo) ++ ([oO cJ out fo1] ++ u1)) := ba_Dp pmT hD
  refine mcalli (wc := (oT cI cZ o7 dT gT la ca aa na ya ta n ns nn nr d g sl cr ak no ye tl th be bp bm bo)) (wr := ([oO cJ out fo1] ++ u1)) (va_runV (As := [.int p0]) (rest := []) hF9 (c_T_shape_ok l D cI cZ cJ cO H.size o7 dT gT la ca aa na ya ta n ns nn nr d g sl cr ak no ye tl th be bp bm bo h4 h64 hSI.1 p0 hSI.2.1) (cwV 1 hg (gv g_753 g_754 g_755 g_26 g_756) rfl rfl rfl (by decide +kernel) ⟨Nat.le_trans (m := 9) (Nat.le_of_ble_eq_true rfl) hR1, Nat.le_trans (m := 260) (Nat.le_of_ble_eq_true rfl) hR2⟩) (mV (ba_Pl hP) hK hN (ba_Dl hD) (va_recv hK (ba_Pl hP) (ci := 7) (q0 := 0) rfl rfl)) rfl rfl hl.1 rfl (lv_room (Nat.le_of_ble_eq_true rfl)) d_L_law_519 ⟨by omega, by omega⟩) hP hD hS hA (fun r6 u9 H locs hq2 hP hD hS => ?_)
  refine W.widen (k := cells + 3) (n := slots + 40) (by omega) (by omega) ?_
  rcases hq2 with ⟨hc, rfl, rfl⟩ | ⟨hn, rfl⟩ <;> rcases hq with ⟨hc0, r1, hφ, hfo⟩ | ⟨hn0, hpx⟩
  · obtain ⟨-, rfl, hCI⟩ := hφ
    have hSI := si_sha hSI hc0
    have hP : va_P D cls ((oT cI cZ o7 dT gT la ca aa na ya ta n (ns + 1) nn nr d g (upd sl ns p0) (crL cr ns 16) ak no ye tl 0 be bp bm bo) ++ ([oO cJ out fo1] ++ u1)) H := hP
    have hD : va_D A ((oT cI cZ o7 dT gT la ca aa na ya ta n (ns + 1) nn nr d g (upd sl ns p0) (crL cr ns 16) ak no ye tl 0 be bp bm bo) ++ ([oO cJ out fo1] ++ u1)) := hD
    refine W.eq (g2 := F0 m 522 ls [.int (nI ns)]) rfl ?_
    refine lv_istore (lv' := [(6, .int (nI ns)), (5, .int (cSha p0 ns)), (0, .ref sa9), (1, .ref o), (2, .ref o7), (3, .ref out), (4, .int (nI i))]) hx hb d_L_law_522 hl (by decide) rfl (fun ls hl => ?_)
    refine lv_aload_n hx hb d_L_law_524 rfl (lv_at hl 4 rfl) ?_
    refine vp_callSi (va_Run.run (va_runV (As := []) (rest := []) hF9 (c_T_thrown_ok l D cI cZ cJ cO o7 dT gT la ca aa na ya ta n (ns + 1) nn nr d g (upd sl ns p0) (crL cr ns 16) ak no ye tl 0 be bp bm bo h4 h64 hSI.1) (cwV 0 hg (gv g_691 g_692 g_693 g_26 g_694) rfl rfl rfl (by decide +kernel) ⟨Nat.le_trans (m := 9) (Nat.le_of_ble_eq_true rfl) hR1, Nat.le_trans (m := 260) (Nat.le_of_ble_eq_true rfl) hR2⟩) (pV (ba_Pl hP) hK hN (va_recv hK (ba_Pl hP) (ci := 7) (q0 := 0) rfl rfl)) rfl rfl hl.1 rfl (lv_room (Nat.le_of_ble_eq_true rfl)) d_L_law_525 ⟨by omega, by omega⟩)) (fun r7 hr7 => ?_)
    subst hr7
    refine W.eq (g2 := F0 m 528 ls [.int 0]) rfl ?_
    have hP : va_P D cls ([oO cJ out fo1] ++ ((oT cI cZ o7 dT gT la ca aa na ya ta n (ns + 1) nn nr d g (upd sl ns p0) (crL cr ns 16) ak no ye tl 0 be bp bm bo) ++ u1)) H := ba_Pp pmT.symm hP
    have hD : va_D A ([oO cJ out fo1] ++ ((oT cI cZ o7 dT gT la ca aa na ya ta n (ns + 1) nn nr d g (upd sl ns p0) (crL cr ns 16) ak no ye tl 0 be bp bm bo) ++ u1)) := ba_Dp pmT.symm hD
    refine lv_iload hx hb d_L_law_528 (lv_at hl 1 rfl) ?_
    refine lv_icmp_eq (tgt := 535) hx hb d_L_law_530 (by decide) (fun c_530 => ?_) (fun c_530 => ?_)
    · refine lv_iload hx hb d_L_law_535 (lv_at hl 1 rfl) ?_
      refine lv_if_ne (tgt := 552) hx hb d_L_law_537 (by decide) (fun c_537 => ?_) (fun c_537 => ?_)
      · exact absurd hc0 c_537
      · refine lv_aload_n hx hb d_L_law_540 rfl (lv_at hl 5 rfl) ?_
        refine lv_iconst (v := 0) hx hb d_L_law_541 (by decide) ?_
        refine va_lald hx hb hK hP 0 2 rfl rfl (by unfold vp_in; decide) d_L_law_542 ?_
        rw [show fo1 (0 : Int32).toNatClampNeg = (nI ns).toInt64 from hfo]
        refine lv_iload hx hb d_L_law_543 (lv_at hl 0 rfl) ?_
        refine lv_i2l (v := (nI ns).toInt64) hx hb d_L_law_545 rfl ?_
        refine W.lcmp hx hb d_L_law_546 ?_
        refine lv_if_eq (tgt := 552) hx hb d_L_law_547 (by decide) (fun c_547 => ?_) (fun c_547 => ?_)
        · refine lv_goto (tgt := 1049) hx hb d_L_law_552 (by decide) ?_
          exact hk _ _ _ _ _ _ _ _ _ _ _ _ _ _ _ _ _ _ H locs ls hSI hCI hP hD hS (lv_sub hl [2, 3, 4, 5, 6] rfl)
        · exact absurd (cmp_s _) c_547
    · exact absurd hc0.symm c_530
  · exact absurd hc hn0
  · exact absurd hc0 hn
  · have hCI := hpx
    have hP : va_P D cls ((oT cI cZ o7 dT gT la ca aa na ya ta n ns nn nr d g sl cr ak no ye tl (cSha p0 ns) be bp bm bo) ++ ([oO cJ out fo1] ++ u1)) H := hP
    have hD : va_D A ((oT cI cZ o7 dT gT la ca aa na ya ta n ns nn nr d g sl cr ak no ye tl (cSha p0 ns) be bp bm bo) ++ ([oO cJ out fo1] ++ u1)) := hD
    refine W.eq (g2 := F0 m 522 ls [.int r6]) rfl ?_
    refine lv_istore (lv' := [(6, .int r6), (5, .int (cSha p0 ns)), (0, .ref sa9), (1, .ref o), (2, .ref o7), (3, .ref out), (4, .int (nI i))]) hx hb d_L_law_522 hl (by decide) rfl (fun ls hl => ?_)
    refine lv_aload_n hx hb d_L_law_524 rfl (lv_at hl 4 rfl) ?_
    refine vp_callSi (va_Run.run (va_runV (As := []) (rest := []) hF9 (c_T_thrown_ok l D cI cZ cJ cO o7 dT gT la ca aa na ya ta n ns nn nr d g sl cr ak no ye tl (cSha p0 ns) be bp bm bo h4 h64 hSI.1) (cwV 0 hg (gv g_691 g_692 g_693 g_26 g_694) rfl rfl rfl (by decide +kernel) ⟨Nat.le_trans (m := 9) (Nat.le_of_ble_eq_true rfl) hR1, Nat.le_trans (m := 260) (Nat.le_of_ble_eq_true rfl) hR2⟩) (pV (ba_Pl hP) hK hN (va_recv hK (ba_Pl hP) (ci := 7) (q0 := 0) rfl rfl)) rfl rfl hl.1 rfl (lv_room (Nat.le_of_ble_eq_true rfl)) d_L_law_525 ⟨by omega, by omega⟩)) (fun r7 hr7 => ?_)
    subst hr7
    refine W.eq (g2 := F0 m 528 ls [.int (cSha p0 ns)]) rfl ?_
    have hP : va_P D cls ([oO cJ out fo1] ++ ((oT cI cZ o7 dT gT la ca aa na ya ta n ns nn nr d g sl cr ak no ye tl (cSha p0 ns) be bp bm bo) ++ u1)) H := ba_Pp pmT.symm hP
    have hD : va_D A ([oO cJ out fo1] ++ ((oT cI cZ o7 dT gT la ca aa na ya ta n ns nn nr d g sl cr ak no ye tl (cSha p0 ns) be bp bm bo) ++ u1)) := ba_Dp pmT.symm hD
    refine lv_iload hx hb d_L_law_528 (lv_at hl 1 rfl) ?_
    refine lv_icmp_eq (tgt := 535) hx hb d_L_law_530 (by decide) (fun c_530 => ?_) (fun c_530 => ?_)
    · refine lv_iload hx hb d_L_law_535 (lv_at hl 1 rfl) ?_
      refine lv_if_ne (tgt := 552) hx hb d_L_law_537 (by decide) (fun c_537 => ?_) (fun c_537 => ?_)
      · refine lv_goto (tgt := 1049) hx hb d_L_law_552 (by decide) ?_
        exact hk _ _ _ _ _ _ _ _ _ _ _ _ _ _ _ _ _ _ H locs ls hSI hCI hP hD hS (lv_sub hl [2, 3, 4, 5, 6] rfl)
      · exact absurd c_537 hn0
    · exact absurd rfl c_530
