set_option maxHeartbeats 4000000 in
set_option maxRecDepth 100000 in
/-- the law's way through carve -/
theorem st_carve {p : Program} {l : Launch} {e : Env} {R : Room} {s : State} {m : MethodId} {args : Array Value} {below : List Frame} {meth : Method} {c : Code} {Q : State → Prop} {A : Nat → Prop} {D : va_G} {cI cZ cJ cO : ClassId} {e0 mi sa9 ln : Nat} {sc : Nat → Int32} {out o7 dT gT la ca aa na ya ta o n i cells slots : Nat} (hlt : l.stackTraces = false) (hF9 : CallFix p m c c_L_law 8 s args GT "RubbingMirrorsLaw") (hK : va_K D cls (TY cI cZ cJ cO) s) (hN : nW s) (hA : ∀ q, s.heap.size ≤ q → A q) (hU : vx_Zq Bundle.tN "UNASSIGNED_STACK" Bundle.steD A s s.heap) (hV : vx_Zq Bundle.tN "SUPPRESSED_SENTINEL" Bundle.listD A s s.heap) (hsP : sP A e0 mi s s.heap) (hX9 : va_X sa9 ln sc s s.heap) (hb9 : sa9 < s.heap.size) (hbA : ¬ A sa9) (hR1 : 9 ≤ R.frames) (hR2 : 260 ≤ R.locals) (h4 : 4 ≤ n) (h64 : n ≤ 64) (hln : ln < 2 ^ 20) (hin : i + 7 ≤ ln) (hc1 : cells + 3 ≤ R.cells) (hc2 : slots + 40 ≤ R.slots) (hk : LK p l e R s m args below meth c Q A D cI cZ cJ cO e0 sa9 ln sc out o7 dT gT la ca aa na ya ta o n i 1049 (cells + 3) (slots + 40)) : LK p l e R s m args below meth c Q A D cI cZ cJ cO e0 sa9 ln sc out o7 dT gT la ca aa na ya ta o n i 555 cells slots := by
  intro d g ns sl cr nn ak no ye nr tl th be bp bm bo u fo H locs ls hSI hCI hP hD hS hl
  obtain ⟨hx, hb, hml, hown, hg⟩ := hF9
  have hF9 : CallFix p m c c_L_law 8 s args GT "RubbingMirrorsLaw" := ⟨hx, hb, hml, hown, hg⟩
  obtain ⟨p0, hp0⟩ : ∃ x, x = sc (nI i + 1).toNatClampNeg := ⟨_, rfl⟩
  obtain ⟨p1, hp1⟩ : ∃ x, x = sc (nI i + 2).toNatClampNeg := ⟨_, rfl⟩
  obtain ⟨p2, hp2⟩ : ∃ x, x = sc (nI i + 3).toNatClampNeg := ⟨_, rfl⟩
  refine lv_aload_n hx hb d_L_law_555 rfl (lv_at hl 1 rfl) ?_
  refine lv_aload_n hx hb d_L_law_556 rfl (lv_at hl 0 rfl) ?_
  refine lv_iload hx hb d_L_law_557 (lv_at hl 4 rfl) ?_
  refine lv_iconst (v := 1) hx hb d_L_law_559 (by decide) ?_
  refine lv_iadd hx hb d_L_law_560 ?_
  refine va_sld hx hb hX9 hb9 hbA hS (by rw [show nI i + 1 = nI (i + 1) from nI_k i 1]; exact vp_in_nI (by omega) (by omega)) d_L_law_561 ?_
  rw [← hp0]
  refine lv_aload_n hx hb d_L_law_562 rfl (lv_at hl 0 rfl) ?_
  refine lv_iload hx hb d_L_law_563 (lv_at hl 4 rfl) ?_
  refine lv_iconst (v := 2) hx hb d_L_law_565 (by decide) ?_
  refine lv_iadd hx hb d_L_law_566 ?_
  refine va_sld hx hb hX9 hb9 hbA hS (by rw [show nI i + 2 = nI (i + 2) from nI_k i 2]; exact vp_in_nI (by omega) (by omega)) d_L_law_567 ?_
  rw [← hp1]
  refine lv_aload_n hx hb d_L_law_568 rfl (lv_at hl 0 rfl) ?_
  refine lv_iload hx hb d_L_law_569 (lv_at hl 4 rfl) ?_
  refine lv_iconst (v := 3) hx hb d_L_law_571 (by decide) ?_
  refine lv_iadd hx hb d_L_law_572 ?_
  refine va_sld hx hb hX9 hb9 hbA hS (by rw [show nI i + 3 = nI (i + 3) from nI_k i 3]; exact vp_in_nI (by omega) (by omega)) d_L_law_573 ?_
  rw [← hp2]
  have hP : va_P D cls (([] ++ u) ++ ([oO cJ out fo] ++ (oT cI cZ o7 dT gT la ca aa na ya ta n ns nn nr d g sl cr ak no ye tl th be bp bm bo))) H := ba_Pp pmV hP
  have hD : va_D A (([] ++ u) ++ ([oO cJ out fo] ++ (oT cI cZ o7 dT gT la ca aa na ya ta n ns nn nr d g sl cr ak no ye tl th be bp bm bo))) := ba_Dp pmV hD
  refine mcalli (wc := ([] ++ u)) (wr := ([oO cJ out fo] ++ (oT cI cZ o7 dT gT la ca aa na ya ta n ns nn nr d g sl cr ak no ye tl th be bp bm bo))) (vx_runSW (As := [.ref o, .int p0, .int p1, .int p2]) (rest := []) hF9 (c_L_carve_ok l D cI cZ cJ cO H.size e0 mi o u (CI.o hCI)  p0 p1 p2 (cCar p0 p1 p2 ns sl) _ _ (K_carve l hlt D cI cZ cJ cO e0 mi o n d g ns sl cr nn ak no ye nr tl h4 h64 u hCI hSI.2.1 p0 p1 p2) (fun _ h => h.1)) (vx_cwSW 4 hg (gqW g_448 g_449 g_17 g_450) rfl rfl rfl (by decide +kernel) ⟨Nat.le_trans (m := 9) (Nat.le_of_ble_eq_true rfl) hR1, Nat.le_trans (m := 260) (Nat.le_of_ble_eq_true rfl) hR2⟩) (kS hP hD hK hN hS hA hU hV hsP) rfl rfl hl.1 rfl (lv_room (Nat.le_of_ble_eq_true rfl)) d_L_law_574 ⟨by omega, by omega⟩) hP hD hS hA (fun r5 u1 H locs hq hP hD hS => ?_)
  obtain ⟨rfl, hq⟩ := hq
  have hP : va_P D cls ([oO cJ out fo] ++ ((oT cI cZ o7 dT gT la ca aa na ya ta n ns nn nr d g sl cr ak no ye tl th be bp bm bo) ++ u1)) H := ba_Pp pmV.symm hP
  have hD : va_D A ([oO cJ out fo] ++ ((oT cI cZ o7 dT gT la ca aa na ya ta n ns nn nr d g sl cr ak no ye tl th be bp bm bo) ++ u1)) := ba_Dp pmV.symm hD
  refine W.widen (k := cells + 3) (n := slots + 40) (by omega) (by omega) ?_
  refine W.eq (g2 := F0 m 577 ls [.int (cCar p0 p1 p2 ns sl)]) rfl ?_
  refine lv_istore (lv' := [(5, .int (cCar p0 p1 p2 ns sl)), (0, .ref sa9), (1, .ref o), (2, .ref o7), (3, .ref out), (4, .int (nI i))]) hx hb d_L_law_577 hl (by decide) rfl (fun ls hl => ?_)
  refine lv_aload_n hx hb d_L_law_579 rfl (lv_at hl 3 rfl) ?_
  refine lv_aload_n hx hb d_L_law_580 rfl (lv_at hl 1 rfl) ?_
  refine lv_iload hx hb d_L_law_581 (lv_at hl 5 rfl) ?_
  refine lv_iconst (v := 1) hx hb d_L_law_583 (by decide) ?_
  refine lv_iadd hx hb d_L_law_584 ?_
  refine va_sld hx hb hX9 hb9 hbA hS (by rw [show nI i + 1 = nI (i + 1) from nI_k i 1]; exact vp_in_nI (by omega) (by omega)) d_L_law_585 ?_
  rw [← hp0]
  refine lv_aload_n hx hb d_L_law_586 rfl (lv_at hl 1 rfl) ?_
  refine lv_iload hx hb d_L_law_587 (lv_at hl 5 rfl) ?_
  refine lv_iconst (v := 2) hx hb d_L_law_589 (by decide) ?_
  refine lv_iadd hx hb d_L_law_590 ?_
  refine va_sld hx hb hX9 hb9 hbA hS (by rw [show nI i + 2 = nI (i + 2) from nI_k i 2]; exact vp_in_nI (by omega) (by omega)) d_L_law_591 ?_
  rw [← hp1]
  refine lv_aload_n hx hb d_L_law_592 rfl (lv_at hl 1 rfl) ?_
  refine lv_iload hx hb d_L_law_593 (lv_at hl 5 rfl) ?_
  refine lv_iconst (v := 3) hx hb d_L_law_595 (by decide) ?_
  refine lv_iadd hx hb d_L_law_596 ?_
  refine va_sld hx hb hX9 hb9 hbA hS (by rw [show nI i + 3 = nI (i + 3) from nI_k i 3]; exact vp_in_nI (by omega) (by omega)) d_L_law_597 ?_
  rw [← hp2]
  have hP : va_P D cls ((oT cI cZ o7 dT gT la ca aa na ya ta n ns nn nr d g sl cr ak no ye tl th be bp bm bo) ++ ([oO cJ out fo] ++ u1)) H := ba_Pp pmT hP
  have hD : va_D A ((oT cI cZ o7 dT gT la ca aa na ya ta n ns nn nr d g sl cr ak no ye tl th be bp bm bo) ++ ([oO cJ out fo] ++ u1)) := ba_Dp pmT hD
  refine mcallv (wc := (oT cI cZ o7 dT gT la ca aa na ya ta n ns nn nr d g sl cr ak no ye tl th be bp bm bo)) (wr := ([oO cJ out fo] ++ u1)) (va_runV (As := [.int p0, .int p1, .int p2]) (rest := []) hF9 (c_T_carve_ok l D cI cZ cJ cO H.size o7 dT gT la ca aa na ya ta n ns nn nr d g sl cr ak no ye tl th be bp bm bo h4 h64 hSI.1 p0 p1 p2 hSI.2.1 (CI.sl hCI)) (cwV 3 hg (gv g_758 g_759 g_760 g_26 g_761) rfl rfl rfl (by decide +kernel) ⟨Nat.le_trans (m := 9) (Nat.le_of_ble_eq_true rfl) hR1, Nat.le_trans (m := 260) (Nat.le_of_ble_eq_true rfl) hR2⟩) (mV (ba_Pl hP) hK hN (ba_Dl hD) (va_recv hK (ba_Pl hP) (ci := 7) (q0 := 0) rfl rfl)) rfl rfl hl.1 rfl (lv_room (Nat.le_of_ble_eq_true rfl)) d_L_law_598 ⟨by omega, by omega⟩) hP hD hS hA (fun u9 H locs hq2 hP hD hS => ?_)
  refine W.widen (k := cells + 3) (n := slots + 40) (by omega) (by omega) ?_
  subst hq2
  rcases hq with ⟨hc0, hφ⟩ | ⟨hn0, hpx⟩
  · have hCI := hφ.2
    have hSI := hSI
    have hP : va_P D cls ((oT cI cZ o7 dT gT la ca aa na ya ta n ns nn nr d g sl (crC cr p0 p1 p2 ns sl) ak no ye tl (cCar p0 p1 p2 ns sl) be bp bm bo) ++ ([oO cJ out fo] ++ u1)) H := hP
    have hD : va_D A ((oT cI cZ o7 dT gT la ca aa na ya ta n ns nn nr d g sl (crC cr p0 p1 p2 ns sl) ak no ye tl (cCar p0 p1 p2 ns sl) be bp bm bo) ++ ([oO cJ out fo] ++ u1)) := hD
    refine W.eq (g2 := F0 m 601 ls []) rfl ?_
    refine lv_aload_n hx hb d_L_law_601 rfl (lv_at hl 3 rfl) ?_
    refine vp_callSi (va_Run.run (va_runV (As := []) (rest := []) hF9 (c_T_thrown_ok l D cI cZ cJ cO o7 dT gT la ca aa na ya ta n ns nn nr d g sl (crC cr p0 p1 p2 ns sl) ak no ye tl (cCar p0 p1 p2 ns sl) be bp bm bo h4 h64 hSI.1) (cwV 0 hg (gv g_691 g_692 g_693 g_26 g_694) rfl rfl rfl (by decide +kernel) ⟨Nat.le_trans (m := 9) (Nat.le_of_ble_eq_true rfl) hR1, Nat.le_trans (m := 260) (Nat.le_of_ble_eq_true rfl) hR2⟩) (pV (ba_Pl hP) hK hN (va_recv hK (ba_Pl hP) (ci := 7) (q0 := 0) rfl rfl)) rfl rfl hl.1 rfl (lv_room (Nat.le_of_ble_eq_true rfl)) d_L_law_602 ⟨by omega, by omega⟩)) (fun r7 hr7 => ?_)
    subst hr7
    refine W.eq (g2 := F0 m 605 ls [.int (cCar p0 p1 p2 ns sl)]) rfl ?_
    have hP : va_P D cls ([oO cJ out fo] ++ ((oT cI cZ o7 dT gT la ca aa na ya ta n ns nn nr d g sl (crC cr p0 p1 p2 ns sl) ak no ye tl (cCar p0 p1 p2 ns sl) be bp bm bo) ++ u1)) H := ba_Pp pmT.symm hP
    have hD : va_D A ([oO cJ out fo] ++ ((oT cI cZ o7 dT gT la ca aa na ya ta n ns nn nr d g sl (crC cr p0 p1 p2 ns sl) ak no ye tl (cCar p0 p1 p2 ns sl) be bp bm bo) ++ u1)) := ba_Dp pmT.symm hD
    refine lv_iload hx hb d_L_law_605 (lv_at hl 0 rfl) ?_
    refine lv_icmp_eq (tgt := 612) hx hb d_L_law_607 (by decide) (fun c_607 => ?_) (fun c_607 => ?_)
    · refine lv_goto (tgt := 1049) hx hb d_L_law_612 (by decide) ?_
      exact hk _ _ _ _ _ _ _ _ _ _ _ _ _ _ _ _ _ _ H locs ls hSI hCI hP hD hS (lv_sub hl [1, 2, 3, 4, 5] rfl)
    · exact absurd rfl c_607
  · rw [show crC cr p0 p1 p2 ns sl = cr from if_neg hn0] at hP hD
    have hCI := hpx
    have hP : va_P D cls ((oT cI cZ o7 dT gT la ca aa na ya ta n ns nn nr d g sl cr ak no ye tl (cCar p0 p1 p2 ns sl) be bp bm bo) ++ ([oO cJ out fo] ++ u1)) H := hP
    have hD : va_D A ((oT cI cZ o7 dT gT la ca aa na ya ta n ns nn nr d g sl cr ak no ye tl (cCar p0 p1 p2 ns sl) be bp bm bo) ++ ([oO cJ out fo] ++ u1)) := hD
    refine W.eq (g2 := F0 m 601 ls []) rfl ?_
    refine lv_aload_n hx hb d_L_law_601 rfl (lv_at hl 3 rfl) ?_
    refine vp_callSi (va_Run.run (va_runV (As := []) (rest := []) hF9 (c_T_thrown_ok l D cI cZ cJ cO o7 dT gT la ca aa na ya ta n ns nn nr d g sl cr ak no ye tl (cCar p0 p1 p2 ns sl) be bp bm bo h4 h64 hSI.1) (cwV 0 hg (gv g_691 g_692 g_693 g_26 g_694) rfl rfl rfl (by decide +kernel) ⟨Nat.le_trans (m := 9) (Nat.le_of_ble_eq_true rfl) hR1, Nat.le_trans (m := 260) (Nat.le_of_ble_eq_true rfl) hR2⟩) (pV (ba_Pl hP) hK hN (va_recv hK (ba_Pl hP) (ci := 7) (q0 := 0) rfl rfl)) rfl rfl hl.1 rfl (lv_room (Nat.le_of_ble_eq_true rfl)) d_L_law_602 ⟨by omega, by omega⟩)) (fun r7 hr7 => ?_)
    subst hr7
    refine W.eq (g2 := F0 m 605 ls [.int (cCar p0 p1 p2 ns sl)]) rfl ?_
    have hP : va_P D cls ([oO cJ out fo] ++ ((oT cI cZ o7 dT gT la ca aa na ya ta n ns nn nr d g sl cr ak no ye tl (cCar p0 p1 p2 ns sl) be bp bm bo) ++ u1)) H := ba_Pp pmT.symm hP
    have hD : va_D A ([oO cJ out fo] ++ ((oT cI cZ o7 dT gT la ca aa na ya ta n ns nn nr d g sl cr ak no ye tl (cCar p0 p1 p2 ns sl) be bp bm bo) ++ u1)) := ba_Dp pmT.symm hD
    refine lv_iload hx hb d_L_law_605 (lv_at hl 0 rfl) ?_
    refine lv_icmp_eq (tgt := 612) hx hb d_L_law_607 (by decide) (fun c_607 => ?_) (fun c_607 => ?_)
    · refine lv_goto (tgt := 1049) hx hb d_L_law_612 (by decide) ?_
      exact hk _ _ _ _ _ _ _ _ _ _ _ _ _ _ _ _ _ _ H locs ls hSI hCI hP hD hS (lv_sub hl [1, 2, 3, 4, 5] rfl)
    · exact absurd rfl c_607

set_option maxHeartbeats 4000000 in
set_option maxRecDepth 100000 in
/-- the law's way through match_ -/
theorem st_match_ {p : Program} {l : Launch} {e : Env} {R : Room} {s : State} {m : MethodId} {args : Array Value} {below : List Frame} {meth : Method} {c : Code} {Q : State → Prop} {A : Nat → Prop} {D : va_G} {cI cZ cJ cO : ClassId} {e0 mi sa9 ln : Nat} {sc : Nat → Int32} {out o7 dT gT la ca aa na ya ta o n i cells slots : Nat} (hlt : l.stackTraces = false) (hF9 : CallFix p m c c_L_law 8 s args GT "RubbingMirrorsLaw") (hK : va_K D cls (TY cI cZ cJ cO) s) (hN : nW s) (hA : ∀ q, s.heap.size ≤ q → A q) (hU : vx_Zq Bundle.tN "UNASSIGNED_STACK" Bundle.steD A s s.heap) (hV : vx_Zq Bundle.tN "SUPPRESSED_SENTINEL" Bundle.listD A s s.heap) (hsP : sP A e0 mi s s.heap) (hX9 : va_X sa9 ln sc s s.heap) (hb9 : sa9 < s.heap.size) (hbA : ¬ A sa9) (hR1 : 9 ≤ R.frames) (hR2 : 260 ≤ R.locals) (h4 : 4 ≤ n) (h64 : n ≤ 64) (hln : ln < 2 ^ 20) (hin : i + 7 ≤ ln) (hc1 : cells + 3 ≤ R.cells) (hc2 : slots + 40 ≤ R.slots) (hk : LK p l e R s m args below meth c Q A D cI cZ cJ cO e0 sa9 ln sc out o7 dT gT la ca aa na ya ta o n i 1049 (cells + 3) (slots + 40)) : LK p l e R s m args below meth c Q A D cI cZ cJ cO e0 sa9 ln sc out o7 dT gT la ca aa na ya ta o n i 615 cells slots := by
  intro d g ns sl cr nn ak no ye nr tl th be bp bm bo u fo H locs ls hSI hCI hP hD hS hl
  obtain ⟨hx, hb, hml, hown, hg⟩ := hF9
  have hF9 : CallFix p m c c_L_law 8 s args GT "RubbingMirrorsLaw" := ⟨hx, hb, hml, hown, hg⟩
  obtain ⟨p0, hp0⟩ : ∃ x, x = sc (nI i + 1).toNatClampNeg := ⟨_, rfl⟩
  refine lv_aload_n hx hb d_L_law_615 rfl (lv_at hl 1 rfl) ?_
  refine lv_aload_n hx hb d_L_law_616 rfl (lv_at hl 0 rfl) ?_
  refine lv_iload hx hb d_L_law_617 (lv_at hl 4 rfl) ?_
  refine lv_iconst (v := 1) hx hb d_L_law_619 (by decide) ?_
  refine lv_iadd hx hb d_L_law_620 ?_
  refine va_sld hx hb hX9 hb9 hbA hS (by rw [show nI i + 1 = nI (i + 1) from nI_k i 1]; exact vp_in_nI (by omega) (by omega)) d_L_law_621 ?_
  rw [← hp0]
  refine lv_aload_n hx hb d_L_law_622 rfl (lv_at hl 3 rfl) ?_
  have hP : va_P D cls (([oO cJ out fo] ++ u) ++ (oT cI cZ o7 dT gT la ca aa na ya ta n ns nn nr d g sl cr ak no ye tl th be bp bm bo)) H := ba_Pp pmL hP
  have hD : va_D A (([oO cJ out fo] ++ u) ++ (oT cI cZ o7 dT gT la ca aa na ya ta n ns nn nr d g sl cr ak no ye tl th be bp bm bo)) := ba_Dp pmL hD
  refine mcalli (wc := ([oO cJ out fo] ++ u)) (wr := (oT cI cZ o7 dT gT la ca aa na ya ta n ns nn nr d g sl cr ak no ye tl th be bp bm bo)) (vx_runSW (As := [.ref o, .int p0, .ref out]) (rest := []) hF9 (c_L_match__ok l D cI cZ cJ cO H.size e0 mi o u (CI.o hCI) out fo p0 (cMat (mtS n d sl cr (-1, bp, bo, bm) ns).1 p0) _ _ (K_match_ l hlt D cI cZ cJ cO e0 mi o n d g ns sl cr nn ak no ye nr tl h4 h64 u hCI hSI.1 hSI.2.1 bp bo bm p0) (fun _ _ h => h.1)) (vx_cwSW 3 hg (gqW g_481 g_482 g_17 g_483) rfl rfl rfl (by decide +kernel) ⟨Nat.le_trans (m := 9) (Nat.le_of_ble_eq_true rfl) hR1, Nat.le_trans (m := 260) (Nat.le_of_ble_eq_true rfl) hR2⟩) (kS hP hD hK hN hS hA hU hV hsP) rfl rfl hl.1 rfl (lv_room (Nat.le_of_ble_eq_true rfl)) d_L_law_623 ⟨by omega, by omega⟩) hP hD hS hA (fun r5 u9 H locs hq hP hD hS => ?_)
  obtain ⟨rfl, fo1, u1, rfl, hq⟩ := hq
  have hP : va_P D cls ([oO cJ out fo1] ++ ((oT cI cZ o7 dT gT la ca aa na ya ta n ns nn nr d g sl cr ak no ye tl th be bp bm bo) ++ u1)) H := ba_Pp pmL.symm hP
  have hD : va_D A ([oO cJ out fo1] ++ ((oT cI cZ o7 dT gT la ca aa na ya ta n ns nn nr d g sl cr ak no ye tl th be bp bm bo) ++ u1)) := ba_Dp pmL.symm hD
  refine W.widen (k := cells + 3) (n := slots + 40) (by omega) (by omega) ?_
  refine W.eq (g2 := F0 m 626 ls [.int (cMat (mtS n d sl cr (-1, bp, bo, bm) ns).1 p0)]) rfl ?_
  refine lv_istore (lv' := [(5, .int (cMat (mtS n d sl cr (-1, bp, bo, bm) ns).1 p0)), (0, .ref sa9), (1, .ref o), (2, .ref o7), (3, .ref out), (4, .int (nI i))]) hx hb d_L_law_626 hl (by decide) rfl (fun ls hl => ?_)
  refine lv_aload_n hx hb d_L_law_628 rfl (lv_at hl 3 rfl) ?_
  refine lv_aload_n hx hb d_L_law_629 rfl (lv_at hl 1 rfl) ?_
  refine lv_iload hx hb d_L_law_630 (lv_at hl 5 rfl) ?_
  refine lv_iconst (v := 1) hx hb d_L_law_632 (by decide) ?_
  refine lv_iadd hx hb d_L_law_633 ?_
  refine va_sld hx hb hX9 hb9 hbA hS (by rw [show nI i + 1 = nI (i + 1) from nI_k i 1]; exact vp_in_nI (by omega) (by omega)) d_L_law_634 ?_
  rw [← hp0]
  have hP : va_P D cls ((oT cI cZ o7 dT gT la ca aa na ya ta n ns nn nr d g sl cr ak no ye tl th be bp bm bo) ++ ([oO cJ out fo1] ++ u1)) H := ba_Pp pmT hP
  have hD : va_D A ((oT cI cZ o7 dT gT la ca aa na ya ta n ns nn nr d g sl cr ak no ye tl th be bp bm bo) ++ ([oO cJ out fo1] ++ u1)) := ba_Dp pmT hD
  refine mcalli (wc := (oT cI cZ o7 dT gT la ca aa na ya ta n ns nn nr d g sl cr ak no ye tl th be bp bm bo)) (wr := ([oO cJ out fo1] ++ u1)) (va_runV (As := [.int p0]) (rest := []) hF9 (c_T_match__ok l D cI cZ cJ cO H.size o7 dT gT la ca aa na ya ta n ns nn nr d g sl cr ak no ye tl th be bp bm bo h4 h64 hSI.1 p0 hSI.2.1 (CI.sl hCI)) (cwV 1 hg (gv g_762 g_763 g_764 g_26 g_765) rfl rfl rfl (by decide +kernel) ⟨Nat.le_trans (m := 9) (Nat.le_of_ble_eq_true rfl) hR1, Nat.le_trans (m := 260) (Nat.le_of_ble_eq_true rfl) hR2⟩) (mV (ba_Pl hP) hK hN (ba_Dl hD) (va_recv hK (ba_Pl hP) (ci := 7) (q0 := 0) rfl rfl)) rfl rfl hl.1 rfl (lv_room (Nat.le_of_ble_eq_true rfl)) d_L_law_635 ⟨by omega, by omega⟩) hP hD hS hA (fun r6 u9 H locs hq2 hP hD hS => ?_)
  refine W.widen (k := cells + 3) (n := slots + 40) (by omega) (by omega) ?_
  rcases hq2 with ⟨hc, rfl, rfl⟩ | ⟨hn, rfl⟩ <;> rcases hq with ⟨hc0, r1, hφ, hfo⟩ | ⟨hn0, hpx⟩
  · obtain ⟨-, rfl, hCI⟩ := hφ
    have hSI := hSI
    have hP : va_P D cls ((oT cI cZ o7 dT gT la ca aa na ya ta n ns nn nr d g sl cr ak no ye tl 0 ((mtS n d sl cr (-1, bp, bo, bm) ns).1) ((mtS n d sl cr (-1, bp, bo, bm) ns).2.1) ((mtS n d sl cr (-1, bp, bo, bm) ns).2.2.2) ((mtS n d sl cr (-1, bp, bo, bm) ns).2.2.1)) ++ ([oO cJ out fo1] ++ u1)) H := hP
    have hD : va_D A ((oT cI cZ o7 dT gT la ca aa na ya ta n ns nn nr d g sl cr ak no ye tl 0 ((mtS n d sl cr (-1, bp, bo, bm) ns).1) ((mtS n d sl cr (-1, bp, bo, bm) ns).2.1) ((mtS n d sl cr (-1, bp, bo, bm) ns).2.2.2) ((mtS n d sl cr (-1, bp, bo, bm) ns).2.2.1)) ++ ([oO cJ out fo1] ++ u1)) := hD
    refine W.eq (g2 := F0 m 638 ls [.int (aMat (mtS n d sl cr (-1, bp, bo, bm) ns) p0)]) rfl ?_
    refine lv_istore (lv' := [(6, .int (aMat (mtS n d sl cr (-1, bp, bo, bm) ns) p0)), (5, .int (cMat (mtS n d sl cr (-1, bp, bo, bm) ns).1 p0)), (0, .ref sa9), (1, .ref o), (2, .ref o7), (3, .ref out), (4, .int (nI i))]) hx hb d_L_law_638 hl (by decide) rfl (fun ls hl => ?_)
    refine lv_aload_n hx hb d_L_law_640 rfl (lv_at hl 4 rfl) ?_
    refine vp_callSi (va_Run.run (va_runV (As := []) (rest := []) hF9 (c_T_thrown_ok l D cI cZ cJ cO o7 dT gT la ca aa na ya ta n ns nn nr d g sl cr ak no ye tl 0 ((mtS n d sl cr (-1, bp, bo, bm) ns).1) ((mtS n d sl cr (-1, bp, bo, bm) ns).2.1) ((mtS n d sl cr (-1, bp, bo, bm) ns).2.2.2) ((mtS n d sl cr (-1, bp, bo, bm) ns).2.2.1) h4 h64 hSI.1) (cwV 0 hg (gv g_691 g_692 g_693 g_26 g_694) rfl rfl rfl (by decide +kernel) ⟨Nat.le_trans (m := 9) (Nat.le_of_ble_eq_true rfl) hR1, Nat.le_trans (m := 260) (Nat.le_of_ble_eq_true rfl) hR2⟩) (pV (ba_Pl hP) hK hN (va_recv hK (ba_Pl hP) (ci := 7) (q0 := 0) rfl rfl)) rfl rfl hl.1 rfl (lv_room (Nat.le_of_ble_eq_true rfl)) d_L_law_641 ⟨by omega, by omega⟩)) (fun r7 hr7 => ?_)
    subst hr7
    refine W.eq (g2 := F0 m 644 ls [.int 0]) rfl ?_
    have hP : va_P D cls ([oO cJ out fo1] ++ ((oT cI cZ o7 dT gT la ca aa na ya ta n ns nn nr d g sl cr ak no ye tl 0 ((mtS n d sl cr (-1, bp, bo, bm) ns).1) ((mtS n d sl cr (-1, bp, bo, bm) ns).2.1) ((mtS n d sl cr (-1, bp, bo, bm) ns).2.2.2) ((mtS n d sl cr (-1, bp, bo, bm) ns).2.2.1)) ++ u1)) H := ba_Pp pmT.symm hP
    have hD : va_D A ([oO cJ out fo1] ++ ((oT cI cZ o7 dT gT la ca aa na ya ta n ns nn nr d g sl cr ak no ye tl 0 ((mtS n d sl cr (-1, bp, bo, bm) ns).1) ((mtS n d sl cr (-1, bp, bo, bm) ns).2.1) ((mtS n d sl cr (-1, bp, bo, bm) ns).2.2.2) ((mtS n d sl cr (-1, bp, bo, bm) ns).2.2.1)) ++ u1)) := ba_Dp pmT.symm hD
    refine lv_iload hx hb d_L_law_644 (lv_at hl 1 rfl) ?_
    refine lv_icmp_eq (tgt := 651) hx hb d_L_law_646 (by decide) (fun c_646 => ?_) (fun c_646 => ?_)
    · refine lv_iload hx hb d_L_law_651 (lv_at hl 1 rfl) ?_
      refine lv_if_ne (tgt := 668) hx hb d_L_law_653 (by decide) (fun c_653 => ?_) (fun c_653 => ?_)
      · exact absurd hc0 c_653
      · refine lv_aload_n hx hb d_L_law_656 rfl (lv_at hl 5 rfl) ?_
        refine lv_iconst (v := 0) hx hb d_L_law_657 (by decide) ?_
        refine va_lald hx hb hK hP 0 2 rfl rfl (by unfold vp_in; decide) d_L_law_658 ?_
        rw [show fo1 (0 : Int32).toNatClampNeg = (aMat (mtS n d sl cr (-1, bp, bo, bm) ns) p0).toInt64 from hfo]
        refine lv_iload hx hb d_L_law_659 (lv_at hl 0 rfl) ?_
        refine lv_i2l (v := (aMat (mtS n d sl cr (-1, bp, bo, bm) ns) p0).toInt64) hx hb d_L_law_661 rfl ?_
        refine W.lcmp hx hb d_L_law_662 ?_
        refine lv_if_eq (tgt := 668) hx hb d_L_law_663 (by decide) (fun c_663 => ?_) (fun c_663 => ?_)
        · refine lv_goto (tgt := 1049) hx hb d_L_law_668 (by decide) ?_
          exact hk _ _ _ _ _ _ _ _ _ _ _ _ _ _ _ _ _ _ H locs ls hSI hCI hP hD hS (lv_sub hl [2, 3, 4, 5, 6] rfl)
        · exact absurd (cmp_s _) c_663
    · exact absurd hc0.symm c_646
  · exact absurd hc hn0
  · exact absurd hc0 hn
  · have hCI := hpx
    have hP : va_P D cls ((oT cI cZ o7 dT gT la ca aa na ya ta n ns nn nr d g sl cr ak no ye tl (cMat (mtS n d sl cr (-1, bp, bo, bm) ns).1 p0) ((mtS n d sl cr (-1, bp, bo, bm) ns).1) ((mtS n d sl cr (-1, bp, bo, bm) ns).2.1) ((mtS n d sl cr (-1, bp, bo, bm) ns).2.2.2) ((mtS n d sl cr (-1, bp, bo, bm) ns).2.2.1)) ++ ([oO cJ out fo1] ++ u1)) H := hP
    have hD : va_D A ((oT cI cZ o7 dT gT la ca aa na ya ta n ns nn nr d g sl cr ak no ye tl (cMat (mtS n d sl cr (-1, bp, bo, bm) ns).1 p0) ((mtS n d sl cr (-1, bp, bo, bm) ns).1) ((mtS n d sl cr (-1, bp, bo, bm) ns).2.1) ((mtS n d sl cr (-1, bp, bo, bm) ns).2.2.2) ((mtS n d sl cr (-1, bp, bo, bm) ns).2.2.1)) ++ ([oO cJ out fo1] ++ u1)) := hD
    refine W.eq (g2 := F0 m 638 ls [.int r6]) rfl ?_
    refine lv_istore (lv' := [(6, .int r6), (5, .int (cMat (mtS n d sl cr (-1, bp, bo, bm) ns).1 p0)), (0, .ref sa9), (1, .ref o), (2, .ref o7), (3, .ref out), (4, .int (nI i))]) hx hb d_L_law_638 hl (by decide) rfl (fun ls hl => ?_)
    refine lv_aload_n hx hb d_L_law_640 rfl (lv_at hl 4 rfl) ?_
    refine vp_callSi (va_Run.run (va_runV (As := []) (rest := []) hF9 (c_T_thrown_ok l D cI cZ cJ cO o7 dT gT la ca aa na ya ta n ns nn nr d g sl cr ak no ye tl (cMat (mtS n d sl cr (-1, bp, bo, bm) ns).1 p0) ((mtS n d sl cr (-1, bp, bo, bm) ns).1) ((mtS n d sl cr (-1, bp, bo, bm) ns).2.1) ((mtS n d sl cr (-1, bp, bo, bm) ns).2.2.2) ((mtS n d sl cr (-1, bp, bo, bm) ns).2.2.1) h4 h64 hSI.1) (cwV 0 hg (gv g_691 g_692 g_693 g_26 g_694) rfl rfl rfl (by decide +kernel) ⟨Nat.le_trans (m := 9) (Nat.le_of_ble_eq_true rfl) hR1, Nat.le_trans (m := 260) (Nat.le_of_ble_eq_true rfl) hR2⟩) (pV (ba_Pl hP) hK hN (va_recv hK (ba_Pl hP) (ci := 7) (q0 := 0) rfl rfl)) rfl rfl hl.1 rfl (lv_room (Nat.le_of_ble_eq_true rfl)) d_L_law_641 ⟨by omega, by omega⟩)) (fun r7 hr7 => ?_)
    subst hr7
    refine W.eq (g2 := F0 m 644 ls [.int (cMat (mtS n d sl cr (-1, bp, bo, bm) ns).1 p0)]) rfl ?_
    have hP : va_P D cls ([oO cJ out fo1] ++ ((oT cI cZ o7 dT gT la ca aa na ya ta n ns nn nr d g sl cr ak no ye tl (cMat (mtS n d sl cr (-1, bp, bo, bm) ns).1 p0) ((mtS n d sl cr (-1, bp, bo, bm) ns).1) ((mtS n d sl cr (-1, bp, bo, bm) ns).2.1) ((mtS n d sl cr (-1, bp, bo, bm) ns).2.2.2) ((mtS n d sl cr (-1, bp, bo, bm) ns).2.2.1)) ++ u1)) H := ba_Pp pmT.symm hP
    have hD : va_D A ([oO cJ out fo1] ++ ((oT cI cZ o7 dT gT la ca aa na ya ta n ns nn nr d g sl cr ak no ye tl (cMat (mtS n d sl cr (-1, bp, bo, bm) ns).1 p0) ((mtS n d sl cr (-1, bp, bo, bm) ns).1) ((mtS n d sl cr (-1, bp, bo, bm) ns).2.1) ((mtS n d sl cr (-1, bp, bo, bm) ns).2.2.2) ((mtS n d sl cr (-1, bp, bo, bm) ns).2.2.1)) ++ u1)) := ba_Dp pmT.symm hD
    refine lv_iload hx hb d_L_law_644 (lv_at hl 1 rfl) ?_
    refine lv_icmp_eq (tgt := 651) hx hb d_L_law_646 (by decide) (fun c_646 => ?_) (fun c_646 => ?_)
    · refine lv_iload hx hb d_L_law_651 (lv_at hl 1 rfl) ?_
      refine lv_if_ne (tgt := 668) hx hb d_L_law_653 (by decide) (fun c_653 => ?_) (fun c_653 => ?_)
      · refine lv_goto (tgt := 1049) hx hb d_L_law_668 (by decide) ?_
        exact hk _ _ _ _ _ _ _ _ _ _ _ _ _ _ _ _ _ _ H locs ls hSI hCI hP hD hS (lv_sub hl [2, 3, 4, 5, 6] rfl)
      · exact absurd c_653 hn0
    · exact absurd rfl c_646

set_option maxHeartbeats 4000000 in
set_option maxRecDepth 100000 in
/-- the law's way through kind -/
theorem st_kind {p : Program} {l : Launch} {e : Env} {R : Room} {s : State} {m : MethodId} {args : Array Value} {below : List Frame} {meth : Method} {c : Code} {Q : State → Prop} {A : Nat → Prop} {D : va_G} {cI cZ cJ cO : ClassId} {e0 mi sa9 ln : Nat} {sc : Nat → Int32} {out o7 dT gT la ca aa na ya ta o n i cells slots : Nat} (hlt : l.stackTraces = false) (hF9 : CallFix p m c c_L_law 8 s args GT "RubbingMirrorsLaw") (hK : va_K D cls (TY cI cZ cJ cO) s) (hN : nW s) (hA : ∀ q, s.heap.size ≤ q → A q) (hU : vx_Zq Bundle.tN "UNASSIGNED_STACK" Bundle.steD A s s.heap) (hV : vx_Zq Bundle.tN "SUPPRESSED_SENTINEL" Bundle.listD A s s.heap) (hsP : sP A e0 mi s s.heap) (hX9 : va_X sa9 ln sc s s.heap) (hb9 : sa9 < s.heap.size) (hbA : ¬ A sa9) (hR1 : 9 ≤ R.frames) (hR2 : 260 ≤ R.locals) (h4 : 4 ≤ n) (h64 : n ≤ 64) (hln : ln < 2 ^ 20) (hin : i + 7 ≤ ln) (hc1 : cells + 3 ≤ R.cells) (hc2 : slots + 40 ≤ R.slots) (hk : LK p l e R s m args below meth c Q A D cI cZ cJ cO e0 sa9 ln sc out o7 dT gT la ca aa na ya ta o n i 1049 (cells + 3) (slots + 40)) : LK p l e R s m args below meth c Q A D cI cZ cJ cO e0 sa9 ln sc out o7 dT gT la ca aa na ya ta o n i 671 cells slots := by
  intro d g ns sl cr nn ak no ye nr tl th be bp bm bo u fo H locs ls hSI hCI hP hD hS hl
  obtain ⟨hx, hb, hml, hown, hg⟩ := hF9
  have hF9 : CallFix p m c c_L_law 8 s args GT "RubbingMirrorsLaw" := ⟨hx, hb, hml, hown, hg⟩
  obtain ⟨p0, hp0⟩ : ∃ x, x = sc (nI i + 1).toNatClampNeg := ⟨_, rfl⟩
  refine lv_aload_n hx hb d_L_law_671 rfl (lv_at hl 1 rfl) ?_
  refine lv_aload_n hx hb d_L_law_672 rfl (lv_at hl 0 rfl) ?_
  refine lv_iload hx hb d_L_law_673 (lv_at hl 4 rfl) ?_
  refine lv_iconst (v := 1) hx hb d_L_law_675 (by decide) ?_
  refine lv_iadd hx hb d_L_law_676 ?_
  refine va_sld hx hb hX9 hb9 hbA hS (by rw [show nI i + 1 = nI (i + 1) from nI_k i 1]; exact vp_in_nI (by omega) (by omega)) d_L_law_677 ?_
  rw [← hp0]
  refine lv_aload_n hx hb d_L_law_678 rfl (lv_at hl 3 rfl) ?_
  have hP : va_P D cls (([oO cJ out fo] ++ u) ++ (oT cI cZ o7 dT gT la ca aa na ya ta n ns nn nr d g sl cr ak no ye tl th be bp bm bo)) H := ba_Pp pmL hP
  have hD : va_D A (([oO cJ out fo] ++ u) ++ (oT cI cZ o7 dT gT la ca aa na ya ta n ns nn nr d g sl cr ak no ye tl th be bp bm bo)) := ba_Dp pmL hD
  refine mcalli (wc := ([oO cJ out fo] ++ u)) (wr := (oT cI cZ o7 dT gT la ca aa na ya ta n ns nn nr d g sl cr ak no ye tl th be bp bm bo)) (vx_runSW (As := [.ref o, .int p0, .ref out]) (rest := []) hF9 (c_L_kind_ok l D cI cZ cJ cO H.size e0 mi o u (CI.o hCI) out fo p0 (cKin p0 nn) _ _ (K_kind l hlt D cI cZ cJ cO e0 mi o n d g ns sl cr nn ak no ye nr tl h4 h64 u hCI hSI.2.2.1 p0) (fun _ _ h => h.1)) (vx_cwSW 3 hg (gqW g_509 g_510 g_17 g_511) rfl rfl rfl (by decide +kernel) ⟨Nat.le_trans (m := 9) (Nat.le_of_ble_eq_true rfl) hR1, Nat.le_trans (m := 260) (Nat.le_of_ble_eq_true rfl) hR2⟩) (kS hP hD hK hN hS hA hU hV hsP) rfl rfl hl.1 rfl (lv_room (Nat.le_of_ble_eq_true rfl)) d_L_law_679 ⟨by omega, by omega⟩) hP hD hS hA (fun r5 u9 H locs hq hP hD hS => ?_)
  obtain ⟨rfl, fo1, u1, rfl, hq⟩ := hq
  have hP : va_P D cls ([oO cJ out fo1] ++ ((oT cI cZ o7 dT gT la ca aa na ya ta n ns nn nr d g sl cr ak no ye tl th be bp bm bo) ++ u1)) H := ba_Pp pmL.symm hP
  have hD : va_D A ([oO cJ out fo1] ++ ((oT cI cZ o7 dT gT la ca aa na ya ta n ns nn nr d g sl cr ak no ye tl th be bp bm bo) ++ u1)) := ba_Dp pmL.symm hD
  refine W.widen (k := cells + 3) (n := slots + 40) (by omega) (by omega) ?_
  refine W.eq (g2 := F0 m 682 ls [.int (cKin p0 nn)]) rfl ?_
  refine lv_istore (lv' := [(5, .int (cKin p0 nn)), (0, .ref sa9), (1, .ref o), (2, .ref o7), (3, .ref out), (4, .int (nI i))]) hx hb d_L_law_682 hl (by decide) rfl (fun ls hl => ?_)
  refine lv_aload_n hx hb d_L_law_684 rfl (lv_at hl 3 rfl) ?_
  refine lv_aload_n hx hb d_L_law_685 rfl (lv_at hl 1 rfl) ?_
  refine lv_iload hx hb d_L_law_686 (lv_at hl 5 rfl) ?_
  refine lv_iconst (v := 1) hx hb d_L_law_688 (by decide) ?_
  refine lv_iadd hx hb d_L_law_689 ?_
  refine va_sld hx hb hX9 hb9 hbA hS (by rw [show nI i + 1 = nI (i + 1) from nI_k i 1]; exact vp_in_nI (by omega) (by omega)) d_L_law_690 ?_
  rw [← hp0]
  have hP : va_P D cls ((oT cI cZ o7 dT gT la ca aa na ya ta n ns nn nr d g sl cr ak no ye tl th be bp bm bo) ++ ([oO cJ out fo1] ++ u1)) H := ba_Pp pmT hP
  have hD : va_D A ((oT cI cZ o7 dT gT la ca aa na ya ta n ns nn nr d g sl cr ak no ye tl th be bp bm bo) ++ ([oO cJ out fo1] ++ u1)) := ba_Dp pmT hD
  refine mcalli (wc := (oT cI cZ o7 dT gT la ca aa na ya ta n ns nn nr d g sl cr ak no ye tl th be bp bm bo)) (wr := ([oO cJ out fo1] ++ u1)) (va_runV (As := [.int p0]) (rest := []) hF9 (c_T_kind_ok l D cI cZ cJ cO H.size o7 dT gT la ca aa na ya ta n ns nn nr d g sl cr ak no ye tl th be bp bm bo h4 h64 hSI.1 p0 hSI.2.2.1) (cwV 1 hg (gv g_771 g_772 g_773 g_26 g_774) rfl rfl rfl (by decide +kernel) ⟨Nat.le_trans (m := 9) (Nat.le_of_ble_eq_true rfl) hR1, Nat.le_trans (m := 260) (Nat.le_of_ble_eq_true rfl) hR2⟩) (mV (ba_Pl hP) hK hN (ba_Dl hD) (va_recv hK (ba_Pl hP) (ci := 7) (q0 := 0) rfl rfl)) rfl rfl hl.1 rfl (lv_room (Nat.le_of_ble_eq_true rfl)) d_L_law_691 ⟨by omega, by omega⟩) hP hD hS hA (fun r6 u9 H locs hq2 hP hD hS => ?_)
  refine W.widen (k := cells + 3) (n := slots + 40) (by omega) (by omega) ?_
  rcases hq2 with ⟨hc, rfl, rfl⟩ | ⟨hn, rfl⟩ <;> rcases hq with ⟨hc0, r1, hφ, hfo⟩ | ⟨hn0, hpx⟩
  · obtain ⟨-, rfl, hCI⟩ := hφ
    have hSI := si_kin hSI hc0
    have hP : va_P D cls ((oT cI cZ o7 dT gT la ca aa na ya ta n ns (nn + 1) nr d g sl cr (upd ak nn p0) no ye tl 0 be bp bm bo) ++ ([oO cJ out fo1] ++ u1)) H := hP
    have hD : va_D A ((oT cI cZ o7 dT gT la ca aa na ya ta n ns (nn + 1) nr d g sl cr (upd ak nn p0) no ye tl 0 be bp bm bo) ++ ([oO cJ out fo1] ++ u1)) := hD
    refine W.eq (g2 := F0 m 694 ls [.int (nI nn)]) rfl ?_
    refine lv_istore (lv' := [(6, .int (nI nn)), (5, .int (cKin p0 nn)), (0, .ref sa9), (1, .ref o), (2, .ref o7), (3, .ref out), (4, .int (nI i))]) hx hb d_L_law_694 hl (by decide) rfl (fun ls hl => ?_)
    refine lv_aload_n hx hb d_L_law_696 rfl (lv_at hl 4 rfl) ?_
    refine vp_callSi (va_Run.run (va_runV (As := []) (rest := []) hF9 (c_T_thrown_ok l D cI cZ cJ cO o7 dT gT la ca aa na ya ta n ns (nn + 1) nr d g sl cr (upd ak nn p0) no ye tl 0 be bp bm bo h4 h64 hSI.1) (cwV 0 hg (gv g_691 g_692 g_693 g_26 g_694) rfl rfl rfl (by decide +kernel) ⟨Nat.le_trans (m := 9) (Nat.le_of_ble_eq_true rfl) hR1, Nat.le_trans (m := 260) (Nat.le_of_ble_eq_true rfl) hR2⟩) (pV (ba_Pl hP) hK hN (va_recv hK (ba_Pl hP) (ci := 7) (q0 := 0) rfl rfl)) rfl rfl hl.1 rfl (lv_room (Nat.le_of_ble_eq_true rfl)) d_L_law_697 ⟨by omega, by omega⟩)) (fun r7 hr7 => ?_)
    subst hr7
    refine W.eq (g2 := F0 m 700 ls [.int 0]) rfl ?_
    have hP : va_P D cls ([oO cJ out fo1] ++ ((oT cI cZ o7 dT gT la ca aa na ya ta n ns (nn + 1) nr d g sl cr (upd ak nn p0) no ye tl 0 be bp bm bo) ++ u1)) H := ba_Pp pmT.symm hP
    have hD : va_D A ([oO cJ out fo1] ++ ((oT cI cZ o7 dT gT la ca aa na ya ta n ns (nn + 1) nr d g sl cr (upd ak nn p0) no ye tl 0 be bp bm bo) ++ u1)) := ba_Dp pmT.symm hD
    refine lv_iload hx hb d_L_law_700 (lv_at hl 1 rfl) ?_
    refine lv_icmp_eq (tgt := 707) hx hb d_L_law_702 (by decide) (fun c_702 => ?_) (fun c_702 => ?_)
    · refine lv_iload hx hb d_L_law_707 (lv_at hl 1 rfl) ?_
      refine lv_if_ne (tgt := 724) hx hb d_L_law_709 (by decide) (fun c_709 => ?_) (fun c_709 => ?_)
      · exact absurd hc0 c_709
      · refine lv_aload_n hx hb d_L_law_712 rfl (lv_at hl 5 rfl) ?_
        refine lv_iconst (v := 0) hx hb d_L_law_713 (by decide) ?_
        refine va_lald hx hb hK hP 0 2 rfl rfl (by unfold vp_in; decide) d_L_law_714 ?_
        rw [show fo1 (0 : Int32).toNatClampNeg = (nI nn).toInt64 from hfo]
        refine lv_iload hx hb d_L_law_715 (lv_at hl 0 rfl) ?_
        refine lv_i2l (v := (nI nn).toInt64) hx hb d_L_law_717 rfl ?_
        refine W.lcmp hx hb d_L_law_718 ?_
        refine lv_if_eq (tgt := 724) hx hb d_L_law_719 (by decide) (fun c_719 => ?_) (fun c_719 => ?_)
        · refine lv_goto (tgt := 1049) hx hb d_L_law_724 (by decide) ?_
          exact hk _ _ _ _ _ _ _ _ _ _ _ _ _ _ _ _ _ _ H locs ls hSI hCI hP hD hS (lv_sub hl [2, 3, 4, 5, 6] rfl)
        · exact absurd (cmp_s _) c_719
    · exact absurd hc0.symm c_702
  · exact absurd hc hn0
  · exact absurd hc0 hn
  · have hCI := hpx
    have hP : va_P D cls ((oT cI cZ o7 dT gT la ca aa na ya ta n ns nn nr d g sl cr ak no ye tl (cKin p0 nn) be bp bm bo) ++ ([oO cJ out fo1] ++ u1)) H := hP
    have hD : va_D A ((oT cI cZ o7 dT gT la ca aa na ya ta n ns nn nr d g sl cr ak no ye tl (cKin p0 nn) be bp bm bo) ++ ([oO cJ out fo1] ++ u1)) := hD
    refine W.eq (g2 := F0 m 694 ls [.int r6]) rfl ?_
    refine lv_istore (lv' := [(6, .int r6), (5, .int (cKin p0 nn)), (0, .ref sa9), (1, .ref o), (2, .ref o7), (3, .ref out), (4, .int (nI i))]) hx hb d_L_law_694 hl (by decide) rfl (fun ls hl => ?_)
    refine lv_aload_n hx hb d_L_law_696 rfl (lv_at hl 4 rfl) ?_
    refine vp_callSi (va_Run.run (va_runV (As := []) (rest := []) hF9 (c_T_thrown_ok l D cI cZ cJ cO o7 dT gT la ca aa na ya ta n ns nn nr d g sl cr ak no ye tl (cKin p0 nn) be bp bm bo h4 h64 hSI.1) (cwV 0 hg (gv g_691 g_692 g_693 g_26 g_694) rfl rfl rfl (by decide +kernel) ⟨Nat.le_trans (m := 9) (Nat.le_of_ble_eq_true rfl) hR1, Nat.le_trans (m := 260) (Nat.le_of_ble_eq_true rfl) hR2⟩) (pV (ba_Pl hP) hK hN (va_recv hK (ba_Pl hP) (ci := 7) (q0 := 0) rfl rfl)) rfl rfl hl.1 rfl (lv_room (Nat.le_of_ble_eq_true rfl)) d_L_law_697 ⟨by omega, by omega⟩)) (fun r7 hr7 => ?_)
    subst hr7
    refine W.eq (g2 := F0 m 700 ls [.int (cKin p0 nn)]) rfl ?_
    have hP : va_P D cls ([oO cJ out fo1] ++ ((oT cI cZ o7 dT gT la ca aa na ya ta n ns nn nr d g sl cr ak no ye tl (cKin p0 nn) be bp bm bo) ++ u1)) H := ba_Pp pmT.symm hP
    have hD : va_D A ([oO cJ out fo1] ++ ((oT cI cZ o7 dT gT la ca aa na ya ta n ns nn nr d g sl cr ak no ye tl (cKin p0 nn) be bp bm bo) ++ u1)) := ba_Dp pmT.symm hD
    refine lv_iload hx hb d_L_law_700 (lv_at hl 1 rfl) ?_
    refine lv_icmp_eq (tgt := 707) hx hb d_L_law_702 (by decide) (fun c_702 => ?_) (fun c_702 => ?_)
    · refine lv_iload hx hb d_L_law_707 (lv_at hl 1 rfl) ?_
      refine lv_if_ne (tgt := 724) hx hb d_L_law_709 (by decide) (fun c_709 => ?_) (fun c_709 => ?_)
      · refine lv_goto (tgt := 1049) hx hb d_L_law_724 (by decide) ?_
        exact hk _ _ _ _ _ _ _ _ _ _ _ _ _ _ _ _ _ _ H locs ls hSI hCI hP hD hS (lv_sub hl [2, 3, 4, 5, 6] rfl)
      · exact absurd c_709 hn0
    · exact absurd rfl c_702

set_option maxHeartbeats 4000000 in
set_option maxRecDepth 100000 in
/-- the law's way through question -/
theorem st_question {p : Program} {l : Launch} {e : Env} {R : Room} {s : State} {m : MethodId} {args : Array Value} {below : List Frame} {meth : Method} {c : Code} {Q : State → Prop} {A : Nat → Prop} {D : va_G} {cI cZ cJ cO : ClassId} {e0 mi sa9 ln : Nat} {sc : Nat → Int32} {out o7 dT gT la ca aa na ya ta o n i cells slots : Nat} (hlt : l.stackTraces = false) (hF9 : CallFix p m c c_L_law 8 s args GT "RubbingMirrorsLaw") (hK : va_K D cls (TY cI cZ cJ cO) s) (hN : nW s) (hA : ∀ q, s.heap.size ≤ q → A q) (hU : vx_Zq Bundle.tN "UNASSIGNED_STACK" Bundle.steD A s s.heap) (hV : vx_Zq Bundle.tN "SUPPRESSED_SENTINEL" Bundle.listD A s s.heap) (hsP : sP A e0 mi s s.heap) (hX9 : va_X sa9 ln sc s s.heap) (hb9 : sa9 < s.heap.size) (hbA : ¬ A sa9) (hR1 : 9 ≤ R.frames) (hR2 : 260 ≤ R.locals) (h4 : 4 ≤ n) (h64 : n ≤ 64) (hln : ln < 2 ^ 20) (hin : i + 7 ≤ ln) (hc1 : cells + 3 ≤ R.cells) (hc2 : slots + 40 ≤ R.slots) (hk : LK p l e R s m args below meth c Q A D cI cZ cJ cO e0 sa9 ln sc out o7 dT gT la ca aa na ya ta o n i 1049 (cells + 3) (slots + 40)) : LK p l e R s m args below meth c Q A D cI cZ cJ cO e0 sa9 ln sc out o7 dT gT la ca aa na ya ta o n i 727 cells slots := by
  intro d g ns sl cr nn ak no ye nr tl th be bp bm bo u fo H locs ls hSI hCI hP hD hS hl
  obtain ⟨hx, hb, hml, hown, hg⟩ := hF9
  have hF9 : CallFix p m c c_L_law 8 s args GT "RubbingMirrorsLaw" := ⟨hx, hb, hml, hown, hg⟩
  obtain ⟨p0, hp0⟩ : ∃ x, x = sc (nI i + 1).toNatClampNeg := ⟨_, rfl⟩
  obtain ⟨p1, hp1⟩ : ∃ x, x = sc (nI i + 2).toNatClampNeg := ⟨_, rfl⟩
  obtain ⟨p2, hp2⟩ : ∃ x, x = sc (nI i + 3).toNatClampNeg := ⟨_, rfl⟩
  refine lv_aload_n hx hb d_L_law_727 rfl (lv_at hl 1 rfl) ?_
  refine lv_aload_n hx hb d_L_law_728 rfl (lv_at hl 0 rfl) ?_
  refine lv_iload hx hb d_L_law_729 (lv_at hl 4 rfl) ?_
  refine lv_iconst (v := 1) hx hb d_L_law_731 (by decide) ?_
  refine lv_iadd hx hb d_L_law_732 ?_
  refine va_sld hx hb hX9 hb9 hbA hS (by rw [show nI i + 1 = nI (i + 1) from nI_k i 1]; exact vp_in_nI (by omega) (by omega)) d_L_law_733 ?_
  rw [← hp0]
  refine lv_aload_n hx hb d_L_law_734 rfl (lv_at hl 0 rfl) ?_
  refine lv_iload hx hb d_L_law_735 (lv_at hl 4 rfl) ?_
  refine lv_iconst (v := 2) hx hb d_L_law_737 (by decide) ?_
  refine lv_iadd hx hb d_L_law_738 ?_
  refine va_sld hx hb hX9 hb9 hbA hS (by rw [show nI i + 2 = nI (i + 2) from nI_k i 2]; exact vp_in_nI (by omega) (by omega)) d_L_law_739 ?_
  rw [← hp1]
  refine lv_aload_n hx hb d_L_law_740 rfl (lv_at hl 0 rfl) ?_
  refine lv_iload hx hb d_L_law_741 (lv_at hl 4 rfl) ?_
  refine lv_iconst (v := 3) hx hb d_L_law_743 (by decide) ?_
  refine lv_iadd hx hb d_L_law_744 ?_
  refine va_sld hx hb hX9 hb9 hbA hS (by rw [show nI i + 3 = nI (i + 3) from nI_k i 3]; exact vp_in_nI (by omega) (by omega)) d_L_law_745 ?_
  rw [← hp2]
  refine lv_aload_n hx hb d_L_law_746 rfl (lv_at hl 3 rfl) ?_
  have hP : va_P D cls (([oO cJ out fo] ++ u) ++ (oT cI cZ o7 dT gT la ca aa na ya ta n ns nn nr d g sl cr ak no ye tl th be bp bm bo)) H := ba_Pp pmL hP
  have hD : va_D A (([oO cJ out fo] ++ u) ++ (oT cI cZ o7 dT gT la ca aa na ya ta n ns nn nr d g sl cr ak no ye tl th be bp bm bo)) := ba_Dp pmL hD
  refine mcalli (wc := ([oO cJ out fo] ++ u)) (wr := (oT cI cZ o7 dT gT la ca aa na ya ta n ns nn nr d g sl cr ak no ye tl th be bp bm bo)) (vx_runSW (As := [.ref o, .int p0, .int p1, .int p2, .ref out]) (rest := []) hF9 (c_L_question_ok l D cI cZ cJ cO H.size e0 mi o u (CI.o hCI) out fo p0 p1 p2 (cQue p0 p1 p2 nn) _ _ (K_question l hlt D cI cZ cJ cO e0 mi o n d g ns sl cr nn ak no ye nr tl h4 h64 u hCI hSI.2.2.1 p0 p1 p2) (fun _ _ h => h.1)) (vx_cwSW 5 hg (gqW g_539 g_540 g_17 g_541) rfl rfl rfl (by decide +kernel) ⟨Nat.le_trans (m := 9) (Nat.le_of_ble_eq_true rfl) hR1, Nat.le_trans (m := 260) (Nat.le_of_ble_eq_true rfl) hR2⟩) (kS hP hD hK hN hS hA hU hV hsP) rfl rfl hl.1 rfl (lv_room (Nat.le_of_ble_eq_true rfl)) d_L_law_747 ⟨by omega, by omega⟩) hP hD hS hA (fun r5 u9 H locs hq hP hD hS => ?_)
  obtain ⟨rfl, fo1, u1, rfl, hq⟩ := hq
  have hP : va_P D cls ([oO cJ out fo1] ++ ((oT cI cZ o7 dT gT la ca aa na ya ta n ns nn nr d g sl cr ak no ye tl th be bp bm bo) ++ u1)) H := ba_Pp pmL.symm hP
  have hD : va_D A ([oO cJ out fo1] ++ ((oT cI cZ o7 dT gT la ca aa na ya ta n ns nn nr d g sl cr ak no ye tl th be bp bm bo) ++ u1)) := ba_Dp pmL.symm hD
  refine W.widen (k := cells + 3) (n := slots + 40) (by omega) (by omega) ?_
  refine W.eq (g2 := F0 m 750 ls [.int (cQue p0 p1 p2 nn)]) rfl ?_
  refine lv_istore (lv' := [(5, .int (cQue p0 p1 p2 nn)), (0, .ref sa9), (1, .ref o), (2, .ref o7), (3, .ref out), (4, .int (nI i))]) hx hb d_L_law_750 hl (by decide) rfl (fun ls hl => ?_)
  refine lv_aload_n hx hb d_L_law_752 rfl (lv_at hl 3 rfl) ?_
  refine lv_aload_n hx hb d_L_law_753 rfl (lv_at hl 1 rfl) ?_
  refine lv_iload hx hb d_L_law_754 (lv_at hl 5 rfl) ?_
  refine lv_iconst (v := 1) hx hb d_L_law_756 (by decide) ?_
  refine lv_iadd hx hb d_L_law_757 ?_
  refine va_sld hx hb hX9 hb9 hbA hS (by rw [show nI i + 1 = nI (i + 1) from nI_k i 1]; exact vp_in_nI (by omega) (by omega)) d_L_law_758 ?_
  rw [← hp0]
  refine lv_aload_n hx hb d_L_law_759 rfl (lv_at hl 1 rfl) ?_
  refine lv_iload hx hb d_L_law_760 (lv_at hl 5 rfl) ?_
  refine lv_iconst (v := 2) hx hb d_L_law_762 (by decide) ?_
  refine lv_iadd hx hb d_L_law_763 ?_
  refine va_sld hx hb hX9 hb9 hbA hS (by rw [show nI i + 2 = nI (i + 2) from nI_k i 2]; exact vp_in_nI (by omega) (by omega)) d_L_law_764 ?_
  rw [← hp1]
  refine lv_aload_n hx hb d_L_law_765 rfl (lv_at hl 1 rfl) ?_
  refine lv_iload hx hb d_L_law_766 (lv_at hl 5 rfl) ?_
  refine lv_iconst (v := 3) hx hb d_L_law_768 (by decide) ?_
  refine lv_iadd hx hb d_L_law_769 ?_
  refine va_sld hx hb hX9 hb9 hbA hS (by rw [show nI i + 3 = nI (i + 3) from nI_k i 3]; exact vp_in_nI (by omega) (by omega)) d_L_law_770 ?_
  rw [← hp2]
  have hP : va_P D cls ((oT cI cZ o7 dT gT la ca aa na ya ta n ns nn nr d g sl cr ak no ye tl th be bp bm bo) ++ ([oO cJ out fo1] ++ u1)) H := ba_Pp pmT hP
  have hD : va_D A ((oT cI cZ o7 dT gT la ca aa na ya ta n ns nn nr d g sl cr ak no ye tl th be bp bm bo) ++ ([oO cJ out fo1] ++ u1)) := ba_Dp pmT hD
  refine mcalli (wc := (oT cI cZ o7 dT gT la ca aa na ya ta n ns nn nr d g sl cr ak no ye tl th be bp bm bo)) (wr := ([oO cJ out fo1] ++ u1)) (va_runV (As := [.int p0, .int p1, .int p2]) (rest := []) hF9 (c_T_question_ok l D cI cZ cJ cO H.size o7 dT gT la ca aa na ya ta n ns nn nr d g sl cr ak no ye tl th be bp bm bo h4 h64 hSI.1 p0 p1 p2 hSI.2.2.1) (cwV 3 hg (gv g_776 g_777 g_778 g_26 g_779) rfl rfl rfl (by decide +kernel) ⟨Nat.le_trans (m := 9) (Nat.le_of_ble_eq_true rfl) hR1, Nat.le_trans (m := 260) (Nat.le_of_ble_eq_true rfl) hR2⟩) (mV (ba_Pl hP) hK hN (ba_Dl hD) (va_recv hK (ba_Pl hP) (ci := 7) (q0 := 0) rfl rfl)) rfl rfl hl.1 rfl (lv_room (Nat.le_of_ble_eq_true rfl)) d_L_law_771 ⟨by omega, by omega⟩) hP hD hS hA (fun r6 u9 H locs hq2 hP hD hS => ?_)
  refine W.widen (k := cells + 3) (n := slots + 40) (by omega) (by omega) ?_
  rcases hq2 with ⟨hc, rfl, rfl⟩ | ⟨hn, rfl⟩ <;> rcases hq with ⟨hc0, r1, hφ, hfo⟩ | ⟨hn0, hpx⟩
  · obtain ⟨-, rfl, hCI⟩ := hφ
    have hSI := si_que hSI hc0
    have hP : va_P D cls ((oT cI cZ o7 dT gT la ca aa na ya ta n ns (nn + 1) nr d g sl cr (upd ak nn (-1 - p0)) (upd no nn p1) (upd ye nn p2) tl 0 be bp bm bo) ++ ([oO cJ out fo1] ++ u1)) H := hP
    have hD : va_D A ((oT cI cZ o7 dT gT la ca aa na ya ta n ns (nn + 1) nr d g sl cr (upd ak nn (-1 - p0)) (upd no nn p1) (upd ye nn p2) tl 0 be bp bm bo) ++ ([oO cJ out fo1] ++ u1)) := hD
    refine W.eq (g2 := F0 m 774 ls [.int (nI nn)]) rfl ?_
    refine lv_istore (lv' := [(6, .int (nI nn)), (5, .int (cQue p0 p1 p2 nn)), (0, .ref sa9), (1, .ref o), (2, .ref o7), (3, .ref out), (4, .int (nI i))]) hx hb d_L_law_774 hl (by decide) rfl (fun ls hl => ?_)
    refine lv_aload_n hx hb d_L_law_776 rfl (lv_at hl 4 rfl) ?_
    refine vp_callSi (va_Run.run (va_runV (As := []) (rest := []) hF9 (c_T_thrown_ok l D cI cZ cJ cO o7 dT gT la ca aa na ya ta n ns (nn + 1) nr d g sl cr (upd ak nn (-1 - p0)) (upd no nn p1) (upd ye nn p2) tl 0 be bp bm bo h4 h64 hSI.1) (cwV 0 hg (gv g_691 g_692 g_693 g_26 g_694) rfl rfl rfl (by decide +kernel) ⟨Nat.le_trans (m := 9) (Nat.le_of_ble_eq_true rfl) hR1, Nat.le_trans (m := 260) (Nat.le_of_ble_eq_true rfl) hR2⟩) (pV (ba_Pl hP) hK hN (va_recv hK (ba_Pl hP) (ci := 7) (q0 := 0) rfl rfl)) rfl rfl hl.1 rfl (lv_room (Nat.le_of_ble_eq_true rfl)) d_L_law_777 ⟨by omega, by omega⟩)) (fun r7 hr7 => ?_)
    subst hr7
    refine W.eq (g2 := F0 m 780 ls [.int 0]) rfl ?_
    have hP : va_P D cls ([oO cJ out fo1] ++ ((oT cI cZ o7 dT gT la ca aa na ya ta n ns (nn + 1) nr d g sl cr (upd ak nn (-1 - p0)) (upd no nn p1) (upd ye nn p2) tl 0 be bp bm bo) ++ u1)) H := ba_Pp pmT.symm hP
    have hD : va_D A ([oO cJ out fo1] ++ ((oT cI cZ o7 dT gT la ca aa na ya ta n ns (nn + 1) nr d g sl cr (upd ak nn (-1 - p0)) (upd no nn p1) (upd ye nn p2) tl 0 be bp bm bo) ++ u1)) := ba_Dp pmT.symm hD
    refine lv_iload hx hb d_L_law_780 (lv_at hl 1 rfl) ?_
    refine lv_icmp_eq (tgt := 787) hx hb d_L_law_782 (by decide) (fun c_782 => ?_) (fun c_782 => ?_)
    · refine lv_iload hx hb d_L_law_787 (lv_at hl 1 rfl) ?_
      refine lv_if_ne (tgt := 804) hx hb d_L_law_789 (by decide) (fun c_789 => ?_) (fun c_789 => ?_)
      · exact absurd hc0 c_789
      · refine lv_aload_n hx hb d_L_law_792 rfl (lv_at hl 5 rfl) ?_
        refine lv_iconst (v := 0) hx hb d_L_law_793 (by decide) ?_
        refine va_lald hx hb hK hP 0 2 rfl rfl (by unfold vp_in; decide) d_L_law_794 ?_
        rw [show fo1 (0 : Int32).toNatClampNeg = (nI nn).toInt64 from hfo]
        refine lv_iload hx hb d_L_law_795 (lv_at hl 0 rfl) ?_
        refine lv_i2l (v := (nI nn).toInt64) hx hb d_L_law_797 rfl ?_
        refine W.lcmp hx hb d_L_law_798 ?_
        refine lv_if_eq (tgt := 804) hx hb d_L_law_799 (by decide) (fun c_799 => ?_) (fun c_799 => ?_)
        · refine lv_goto (tgt := 1049) hx hb d_L_law_804 (by decide) ?_
          exact hk _ _ _ _ _ _ _ _ _ _ _ _ _ _ _ _ _ _ H locs ls hSI hCI hP hD hS (lv_sub hl [2, 3, 4, 5, 6] rfl)
        · exact absurd (cmp_s _) c_799
    · exact absurd hc0.symm c_782
  · exact absurd hc hn0
  · exact absurd hc0 hn
  · have hCI := hpx
    have hP : va_P D cls ((oT cI cZ o7 dT gT la ca aa na ya ta n ns nn nr d g sl cr ak no ye tl (cQue p0 p1 p2 nn) be bp bm bo) ++ ([oO cJ out fo1] ++ u1)) H := hP
    have hD : va_D A ((oT cI cZ o7 dT gT la ca aa na ya ta n ns nn nr d g sl cr ak no ye tl (cQue p0 p1 p2 nn) be bp bm bo) ++ ([oO cJ out fo1] ++ u1)) := hD
    refine W.eq (g2 := F0 m 774 ls [.int r6]) rfl ?_
    refine lv_istore (lv' := [(6, .int r6), (5, .int (cQue p0 p1 p2 nn)), (0, .ref sa9), (1, .ref o), (2, .ref o7), (3, .ref out), (4, .int (nI i))]) hx hb d_L_law_774 hl (by decide) rfl (fun ls hl => ?_)
    refine lv_aload_n hx hb d_L_law_776 rfl (lv_at hl 4 rfl) ?_
    refine vp_callSi (va_Run.run (va_runV (As := []) (rest := []) hF9 (c_T_thrown_ok l D cI cZ cJ cO o7 dT gT la ca aa na ya ta n ns nn nr d g sl cr ak no ye tl (cQue p0 p1 p2 nn) be bp bm bo h4 h64 hSI.1) (cwV 0 hg (gv g_691 g_692 g_693 g_26 g_694) rfl rfl rfl (by decide +kernel) ⟨Nat.le_trans (m := 9) (Nat.le_of_ble_eq_true rfl) hR1, Nat.le_trans (m := 260) (Nat.le_of_ble_eq_true rfl) hR2⟩) (pV (ba_Pl hP) hK hN (va_recv hK (ba_Pl hP) (ci := 7) (q0 := 0) rfl rfl)) rfl rfl hl.1 rfl (lv_room (Nat.le_of_ble_eq_true rfl)) d_L_law_777 ⟨by omega, by omega⟩)) (fun r7 hr7 => ?_)
    subst hr7
    refine W.eq (g2 := F0 m 780 ls [.int (cQue p0 p1 p2 nn)]) rfl ?_
    have hP : va_P D cls ([oO cJ out fo1] ++ ((oT cI cZ o7 dT gT la ca aa na ya ta n ns nn nr d g sl cr ak no ye tl (cQue p0 p1 p2 nn) be bp bm bo) ++ u1)) H := ba_Pp pmT.symm hP
    have hD : va_D A ([oO cJ out fo1] ++ ((oT cI cZ o7 dT gT la ca aa na ya ta n ns nn nr d g sl cr ak no ye tl (cQue p0 p1 p2 nn) be bp bm bo) ++ u1)) := ba_Dp pmT.symm hD
    refine lv_iload hx hb d_L_law_780 (lv_at hl 1 rfl) ?_
    refine lv_icmp_eq (tgt := 787) hx hb d_L_law_782 (by decide) (fun c_782 => ?_) (fun c_782 => ?_)
    · refine lv_iload hx hb d_L_law_787 (lv_at hl 1 rfl) ?_
      refine lv_if_ne (tgt := 804) hx hb d_L_law_789 (by decide) (fun c_789 => ?_) (fun c_789 => ?_)
      · refine lv_goto (tgt := 1049) hx hb d_L_law_804 (by decide) ?_
        exact hk _ _ _ _ _ _ _ _ _ _ _ _ _ _ _ _ _ _ H locs ls hSI hCI hP hD hS (lv_sub hl [2, 3, 4, 5, 6] rfl)
      · exact absurd c_789 hn0
    · exact absurd rfl c_782
