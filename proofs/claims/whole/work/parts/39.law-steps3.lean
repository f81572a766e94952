set_option maxHeartbeats 4000000 in
set_option maxRecDepth 100000 in
/-- the law's way through ask -/
theorem st_ask {p : Program} {l : Launch} {e : Env} {R : Room} {s : State} {m : MethodId} {args : Array Value} {below : List Frame} {meth : Method} {c : Code} {Q : State → Prop} {A : Nat → Prop} {D : va_G} {cI cZ cJ cO : ClassId} {e0 mi sa9 ln : Nat} {sc : Nat → Int32} {out o7 dT gT la ca aa na ya ta o n i cells slots : Nat} (hlt : l.stackTraces = false) (hF9 : CallFix p m c c_L_law 8 s args GT "RubbingMirrorsLaw") (hK : va_K D cls (TY cI cZ cJ cO) s) (hN : nW s) (hA : ∀ q, s.heap.size ≤ q → A q) (hU : vx_Zq Bundle.tN "UNASSIGNED_STACK" Bundle.steD A s s.heap) (hV : vx_Zq Bundle.tN "SUPPRESSED_SENTINEL" Bundle.listD A s s.heap) (hsP : sP A e0 mi s s.heap) (hX9 : va_X sa9 ln sc s s.heap) (hb9 : sa9 < s.heap.size) (hbA : ¬ A sa9) (hR1 : 9 ≤ R.frames) (hR2 : 260 ≤ R.locals) (h4 : 4 ≤ n) (h64 : n ≤ 64) (hln : ln < 2 ^ 20) (hin : i + 7 ≤ ln) (hc1 : cells + 3 ≤ R.cells) (hc2 : slots + 40 ≤ R.slots) (hk : LK p l e R s m args below meth c Q A D cI cZ cJ cO e0 sa9 ln sc out o7 dT gT la ca aa na ya ta o n i 1049 (cells + 3) (slots + 40)) : LK p l e R s m args below meth c Q A D cI cZ cJ cO e0 sa9 ln sc out o7 dT gT la ca aa na ya ta o n i 807 cells slots := by
  intro d g ns sl cr nn ak no ye nr tl th be bp bm bo u fo H locs ls hSI hCI hP hD hS hl
  obtain ⟨hx, hb, hml, hown, hg⟩ := hF9
  have hF9 : CallFix p m c c_L_law 8 s args GT "RubbingMirrorsLaw" := ⟨hx, hb, hml, hown, hg⟩
  obtain ⟨p0, hp0⟩ : ∃ x, x = sc (nI i + 1).toNatClampNeg := ⟨_, rfl⟩
  obtain ⟨p1, hp1⟩ : ∃ x, x = sc (nI i + 2).toNatClampNeg := ⟨_, rfl⟩
  refine lv_aload_n hx hb d_L_law_807 rfl (lv_at hl 1 rfl) ?_
  refine lv_aload_n hx hb d_L_law_808 rfl (lv_at hl 0 rfl) ?_
  refine lv_iload hx hb d_L_law_809 (lv_at hl 4 rfl) ?_
  refine lv_iconst (v := 1) hx hb d_L_law_811 (by decide) ?_
  refine lv_iadd hx hb d_L_law_812 ?_
  refine va_sld hx hb hX9 hb9 hbA hS (by rw [show nI i + 1 = nI (i + 1) from nI_k i 1]; exact vp_in_nI (by omega) (by omega)) d_L_law_813 ?_
  rw [← hp0]
  refine lv_aload_n hx hb d_L_law_814 rfl (lv_at hl 0 rfl) ?_
  refine lv_iload hx hb d_L_law_815 (lv_at hl 4 rfl) ?_
  refine lv_iconst (v := 2) hx hb d_L_law_817 (by decide) ?_
  refine lv_iadd hx hb d_L_law_818 ?_
  refine va_sld hx hb hX9 hb9 hbA hS (by rw [show nI i + 2 = nI (i + 2) from nI_k i 2]; exact vp_in_nI (by omega) (by omega)) d_L_law_819 ?_
  rw [← hp1]
  refine lv_aload_n hx hb d_L_law_820 rfl (lv_at hl 3 rfl) ?_
  have hP : va_P D cls (([oO cJ out fo] ++ u) ++ (oT cI cZ o7 dT gT la ca aa na ya ta n ns nn nr d g sl cr ak no ye tl th be bp bm bo)) H := ba_Pp pmL hP
  have hD : va_D A (([oO cJ out fo] ++ u) ++ (oT cI cZ o7 dT gT la ca aa na ya ta n ns nn nr d g sl cr ak no ye tl th be bp bm bo)) := ba_Dp pmL hD
  refine mcalli (wc := ([oO cJ out fo] ++ u)) (wr := (oT cI cZ o7 dT gT la ca aa na ya ta n ns nn nr d g sl cr ak no ye tl th be bp bm bo)) (vx_runSW (As := [.ref o, .int p0, .int p1, .ref out]) (rest := []) hF9 (c_L_ask_ok l D cI cZ cJ cO H.size e0 mi o u (CI.o hCI) out fo p0 p1 (cAsk p0 p1 nn) _ _ (K_ask l hlt D cI cZ cJ cO e0 mi o n d g ns sl cr nn ak no ye nr tl h4 h64 u hCI hSI.2.2.1 hSI.2.2.2.2.1 hSI.2.2.2.2.2.1 p0 p1) (fun _ _ h => h.1)) (vx_cwSW 4 hg (gqW g_548 g_549 g_17 g_550) rfl rfl rfl (by decide +kernel) ⟨Nat.le_trans (m := 9) (Nat.le_of_ble_eq_true rfl) hR1, Nat.le_trans (m := 260) (Nat.le_of_ble_eq_true rfl) hR2⟩) (kS hP hD hK hN hS hA hU hV hsP) rfl rfl hl.1 rfl (lv_room (Nat.le_of_ble_eq_true rfl)) d_L_law_821 ⟨by omega, by omega⟩) hP hD hS hA (fun r5 u9 H locs hq hP hD hS => ?_)
  obtain ⟨rfl, fo1, u1, rfl, hq⟩ := hq
  have hP : va_P D cls ([oO cJ out fo1] ++ ((oT cI cZ o7 dT gT la ca aa na ya ta n ns nn nr d g sl cr ak no ye tl th be bp bm bo) ++ u1)) H := ba_Pp pmL.symm hP
  have hD : va_D A ([oO cJ out fo1] ++ ((oT cI cZ o7 dT gT la ca aa na ya ta n ns nn nr d g sl cr ak no ye tl th be bp bm bo) ++ u1)) := ba_Dp pmL.symm hD
  refine W.widen (k := cells + 3) (n := slots + 40) (by omega) (by omega) ?_
  refine W.eq (g2 := F0 m 824 ls [.int (cAsk p0 p1 nn)]) rfl ?_
  refine lv_istore (lv' := [(5, .int (cAsk p0 p1 nn)), (0, .ref sa9), (1, .ref o), (2, .ref o7), (3, .ref out), (4, .int (nI i))]) hx hb d_L_law_824 hl (by decide) rfl (fun ls hl => ?_)
  refine lv_aload_n hx hb d_L_law_826 rfl (lv_at hl 3 rfl) ?_
  refine lv_aload_n hx hb d_L_law_827 rfl (lv_at hl 1 rfl) ?_
  refine lv_iload hx hb d_L_law_828 (lv_at hl 5 rfl) ?_
  refine lv_iconst (v := 1) hx hb d_L_law_830 (by decide) ?_
  refine lv_iadd hx hb d_L_law_831 ?_
  refine va_sld hx hb hX9 hb9 hbA hS (by rw [show nI i + 1 = nI (i + 1) from nI_k i 1]; exact vp_in_nI (by omega) (by omega)) d_L_law_832 ?_
  rw [← hp0]
  refine lv_aload_n hx hb d_L_law_833 rfl (lv_at hl 1 rfl) ?_
  refine lv_iload hx hb d_L_law_834 (lv_at hl 5 rfl) ?_
  refine lv_iconst (v := 2) hx hb d_L_law_836 (by decide) ?_
  refine lv_iadd hx hb d_L_law_837 ?_
  refine va_sld hx hb hX9 hb9 hbA hS (by rw [show nI i + 2 = nI (i + 2) from nI_k i 2]; exact vp_in_nI (by omega) (by omega)) d_L_law_838 ?_
  rw [← hp1]
  have hP : va_P D cls ((oT cI cZ o7 dT gT la ca aa na ya ta n ns nn nr d g sl cr ak no ye tl th be bp bm bo) ++ ([oO cJ out fo1] ++ u1)) H := ba_Pp pmT hP
  have hD : va_D A ((oT cI cZ o7 dT gT la ca aa na ya ta n ns nn nr d g sl cr ak no ye tl th be bp bm bo) ++ ([oO cJ out fo1] ++ u1)) := ba_Dp pmT hD
  refine mcalli (wc := (oT cI cZ o7 dT gT la ca aa na ya ta n ns nn nr d g sl cr ak no ye tl th be bp bm bo)) (wr := ([oO cJ out fo1] ++ u1)) (va_runV (As := [.int p0, .int p1]) (rest := []) hF9 (c_T_ask_ok l D cI cZ cJ cO H.size o7 dT gT la ca aa na ya ta n ns nn nr d g sl cr ak no ye tl th be bp bm bo h4 h64 hSI.1 p0 p1 hSI.2.2.1 hSI.2.2.2.2.1) (cwV 2 hg (gv g_781 g_782 g_783 g_26 g_784) rfl rfl rfl (by decide +kernel) ⟨Nat.le_trans (m := 9) (Nat.le_of_ble_eq_true rfl) hR1, Nat.le_trans (m := 260) (Nat.le_of_ble_eq_true rfl) hR2⟩) (mV (ba_Pl hP) hK hN (ba_Dl hD) (va_recv hK (ba_Pl hP) (ci := 7) (q0 := 0) rfl rfl)) rfl rfl hl.1 rfl (lv_room (Nat.le_of_ble_eq_true rfl)) d_L_law_839 ⟨by omega, by omega⟩) hP hD hS hA (fun r6 u9 H locs hq2 hP hD hS => ?_)
  refine W.widen (k := cells + 3) (n := slots + 40) (by omega) (by omega) ?_
  rcases hq2 with ⟨hc, rfl, rfl⟩ | ⟨hn, rfl⟩ <;> rcases hq with ⟨hc0, r1, hφ, hfo⟩ | ⟨hn0, hpx⟩
  · obtain ⟨-, rfl, hCI⟩ := hφ
    have hSI := hSI
    have hP : va_P D cls ((oT cI cZ o7 dT gT la ca aa na ya ta n ns nn nr d g sl cr ak no ye tl 0 be bp bm bo) ++ ([oO cJ out fo1] ++ u1)) H := hP
    have hD : va_D A ((oT cI cZ o7 dT gT la ca aa na ya ta n ns nn nr d g sl cr ak no ye tl 0 be bp bm bo) ++ ([oO cJ out fo1] ++ u1)) := hD
    refine W.eq (g2 := F0 m 842 ls [.int (qa ak no ye p0 p1 nn (nn - 1))]) rfl ?_
    refine lv_istore (lv' := [(6, .int (qa ak no ye p0 p1 nn (nn - 1))), (5, .int (cAsk p0 p1 nn)), (0, .ref sa9), (1, .ref o), (2, .ref o7), (3, .ref out), (4, .int (nI i))]) hx hb d_L_law_842 hl (by decide) rfl (fun ls hl => ?_)
    refine lv_aload_n hx hb d_L_law_844 rfl (lv_at hl 4 rfl) ?_
    refine vp_callSi (va_Run.run (va_runV (As := []) (rest := []) hF9 (c_T_thrown_ok l D cI cZ cJ cO o7 dT gT la ca aa na ya ta n ns nn nr d g sl cr ak no ye tl 0 be bp bm bo h4 h64 hSI.1) (cwV 0 hg (gv g_691 g_692 g_693 g_26 g_694) rfl rfl rfl (by decide +kernel) ⟨Nat.le_trans (m := 9) (Nat.le_of_ble_eq_true rfl) hR1, Nat.le_trans (m := 260) (Nat.le_of_ble_eq_true rfl) hR2⟩) (pV (ba_Pl hP) hK hN (va_recv hK (ba_Pl hP) (ci := 7) (q0 := 0) rfl rfl)) rfl rfl hl.1 rfl (lv_room (Nat.le_of_ble_eq_true rfl)) d_L_law_845 ⟨by omega, by omega⟩)) (fun r7 hr7 => ?_)
    subst hr7
    refine W.eq (g2 := F0 m 848 ls [.int 0]) rfl ?_
    have hP : va_P D cls ([oO cJ out fo1] ++ ((oT cI cZ o7 dT gT la ca aa na ya ta n ns nn nr d g sl cr ak no ye tl 0 be bp bm bo) ++ u1)) H := ba_Pp pmT.symm hP
    have hD : va_D A ([oO cJ out fo1] ++ ((oT cI cZ o7 dT gT la ca aa na ya ta n ns nn nr d g sl cr ak no ye tl 0 be bp bm bo) ++ u1)) := ba_Dp pmT.symm hD
    refine lv_iload hx hb d_L_law_848 (lv_at hl 1 rfl) ?_
    refine lv_icmp_eq (tgt := 855) hx hb d_L_law_850 (by decide) (fun c_850 => ?_) (fun c_850 => ?_)
    · refine lv_iload hx hb d_L_law_855 (lv_at hl 1 rfl) ?_
      refine lv_if_ne (tgt := 872) hx hb d_L_law_857 (by decide) (fun c_857 => ?_) (fun c_857 => ?_)
      · exact absurd hc0 c_857
      · refine lv_aload_n hx hb d_L_law_860 rfl (lv_at hl 5 rfl) ?_
        refine lv_iconst (v := 0) hx hb d_L_law_861 (by decide) ?_
        refine va_lald hx hb hK hP 0 2 rfl rfl (by unfold vp_in; decide) d_L_law_862 ?_
        rw [show fo1 (0 : Int32).toNatClampNeg = (qa ak no ye p0 p1 nn (nn - 1)).toInt64 from hfo]
        refine lv_iload hx hb d_L_law_863 (lv_at hl 0 rfl) ?_
        refine lv_i2l (v := (qa ak no ye p0 p1 nn (nn - 1)).toInt64) hx hb d_L_law_865 rfl ?_
        refine W.lcmp hx hb d_L_law_866 ?_
        refine lv_if_eq (tgt := 872) hx hb d_L_law_867 (by decide) (fun c_867 => ?_) (fun c_867 => ?_)
        · refine lv_goto (tgt := 1049) hx hb d_L_law_872 (by decide) ?_
          exact hk _ _ _ _ _ _ _ _ _ _ _ _ _ _ _ _ _ _ H locs ls hSI hCI hP hD hS (lv_sub hl [2, 3, 4, 5, 6] rfl)
        · exact absurd (cmp_s _) c_867
    · exact absurd hc0.symm c_850
  · exact absurd hc hn0
  · exact absurd hc0 hn
  · have hCI := hpx
    have hP : va_P D cls ((oT cI cZ o7 dT gT la ca aa na ya ta n ns nn nr d g sl cr ak no ye tl (cAsk p0 p1 nn) be bp bm bo) ++ ([oO cJ out fo1] ++ u1)) H := hP
    have hD : va_D A ((oT cI cZ o7 dT gT la ca aa na ya ta n ns nn nr d g sl cr ak no ye tl (cAsk p0 p1 nn) be bp bm bo) ++ ([oO cJ out fo1] ++ u1)) := hD
    refine W.eq (g2 := F0 m 842 ls [.int r6]) rfl ?_
    refine lv_istore (lv' := [(6, .int r6), (5, .int (cAsk p0 p1 nn)), (0, .ref sa9), (1, .ref o), (2, .ref o7), (3, .ref out), (4, .int (nI i))]) hx hb d_L_law_842 hl (by decide) rfl (fun ls hl => ?_)
    refine lv_aload_n hx hb d_L_law_844 rfl (lv_at hl 4 rfl) ?_
    refine vp_callSi (va_Run.run (va_runV (As := []) (rest := []) hF9 (c_T_thrown_ok l D cI cZ cJ cO o7 dT gT la ca aa na ya ta n ns nn nr d g sl cr ak no ye tl (cAsk p0 p1 nn) be bp bm bo h4 h64 hSI.1) (cwV 0 hg (gv g_691 g_692 g_693 g_26 g_694) rfl rfl rfl (by decide +kernel) ⟨Nat.le_trans (m := 9) (Nat.le_of_ble_eq_true rfl) hR1, Nat.le_trans (m := 260) (Nat.le_of_ble_eq_true rfl) hR2⟩) (pV (ba_Pl hP) hK hN (va_recv hK (ba_Pl hP) (ci := 7) (q0 := 0) rfl rfl)) rfl rfl hl.1 rfl (lv_room (Nat.le_of_ble_eq_true rfl)) d_L_law_845 ⟨by omega, by omega⟩)) (fun r7 hr7 => ?_)
    subst hr7
    refine W.eq (g2 := F0 m 848 ls [.int (cAsk p0 p1 nn)]) rfl ?_
    have hP : va_P D cls ([oO cJ out fo1] ++ ((oT cI cZ o7 dT gT la ca aa na ya ta n ns nn nr d g sl cr ak no ye tl (cAsk p0 p1 nn) be bp bm bo) ++ u1)) H := ba_Pp pmT.symm hP
    have hD : va_D A ([oO cJ out fo1] ++ ((oT cI cZ o7 dT gT la ca aa na ya ta n ns nn nr d g sl cr ak no ye tl (cAsk p0 p1 nn) be bp bm bo) ++ u1)) := ba_Dp pmT.symm hD
    refine lv_iload hx hb d_L_law_848 (lv_at hl 1 rfl) ?_
    refine lv_icmp_eq (tgt := 855) hx hb d_L_law_850 (by decide) (fun c_850 => ?_) (fun c_850 => ?_)
    · refine lv_iload hx hb d_L_law_855 (lv_at hl 1 rfl) ?_
      refine lv_if_ne (tgt := 872) hx hb d_L_law_857 (by decide) (fun c_857 => ?_) (fun c_857 => ?_)
      · refine lv_goto (tgt := 1049) hx hb d_L_law_872 (by decide) ?_
        exact hk _ _ _ _ _ _ _ _ _ _ _ _ _ _ _ _ _ _ H locs ls hSI hCI hP hD hS (lv_sub hl [2, 3, 4, 5, 6] rfl)
      · exact absurd c_857 hn0
    · exact absurd rfl c_850

set_option maxHeartbeats 4000000 in
set_option maxRecDepth 100000 in
/-- the law's way through rule -/
theorem st_rule {p : Program} {l : Launch} {e : Env} {R : Room} {s : State} {m : MethodId} {args : Array Value} {below : List Frame} {meth : Method} {c : Code} {Q : State → Prop} {A : Nat → Prop} {D : va_G} {cI cZ cJ cO : ClassId} {e0 mi sa9 ln : Nat} {sc : Nat → Int32} {out o7 dT gT la ca aa na ya ta o n i cells slots : Nat} (hlt : l.stackTraces = false) (hF9 : CallFix p m c c_L_law 8 s args GT "RubbingMirrorsLaw") (hK : va_K D cls (TY cI cZ cJ cO) s) (hN : nW s) (hA : ∀ q, s.heap.size ≤ q → A q) (hU : vx_Zq Bundle.tN "UNASSIGNED_STACK" Bundle.steD A s s.heap) (hV : vx_Zq Bundle.tN "SUPPRESSED_SENTINEL" Bundle.listD A s s.heap) (hsP : sP A e0 mi s s.heap) (hX9 : va_X sa9 ln sc s s.heap) (hb9 : sa9 < s.heap.size) (hbA : ¬ A sa9) (hR1 : 9 ≤ R.frames) (hR2 : 260 ≤ R.locals) (h4 : 4 ≤ n) (h64 : n ≤ 64) (hln : ln < 2 ^ 20) (hin : i + 7 ≤ ln) (hc1 : cells + 3 ≤ R.cells) (hc2 : slots + 40 ≤ R.slots) (hk : LK p l e R s m args below meth c Q A D cI cZ cJ cO e0 sa9 ln sc out o7 dT gT la ca aa na ya ta o n i 1049 (cells + 3) (slots + 40)) : LK p l e R s m args below meth c Q A D cI cZ cJ cO e0 sa9 ln sc out o7 dT gT la ca aa na ya ta o n i 875 cells slots := by
  intro d g ns sl cr nn ak no ye nr tl th be bp bm bo u fo H locs ls hSI hCI hP hD hS hl
  obtain ⟨hx, hb, hml, hown, hg⟩ := hF9
  have hF9 : CallFix p m c c_L_law 8 s args GT "RubbingMirrorsLaw" := ⟨hx, hb, hml, hown, hg⟩
  obtain ⟨p0, hp0⟩ : ∃ x, x = sc (nI i + 1).toNatClampNeg := ⟨_, rfl⟩
  obtain ⟨p1, hp1⟩ : ∃ x, x = sc (nI i + 2).toNatClampNeg := ⟨_, rfl⟩
  obtain ⟨p2, hp2⟩ : ∃ x, x = sc (nI i + 3).toNatClampNeg := ⟨_, rfl⟩
  obtain ⟨p3, hp3⟩ : ∃ x, x = sc (nI i + 4).toNatClampNeg := ⟨_, rfl⟩
  obtain ⟨p4, hp4⟩ : ∃ x, x = sc (nI i + 5).toNatClampNeg := ⟨_, rfl⟩
  obtain ⟨p5, hp5⟩ : ∃ x, x = sc (nI i + 6).toNatClampNeg := ⟨_, rfl⟩
  refine lv_aload_n hx hb d_L_law_875 rfl (lv_at hl 1 rfl) ?_
  refine lv_aload_n hx hb d_L_law_876 rfl (lv_at hl 0 rfl) ?_
  refine lv_iload hx hb d_L_law_877 (lv_at hl 4 rfl) ?_
  refine lv_iconst (v := 1) hx hb d_L_law_879 (by decide) ?_
  refine lv_iadd hx hb d_L_law_880 ?_
  refine va_sld hx hb hX9 hb9 hbA hS (by rw [show nI i + 1 = nI (i + 1) from nI_k i 1]; exact vp_in_nI (by omega) (by omega)) d_L_law_881 ?_
  rw [← hp0]
  refine lv_aload_n hx hb d_L_law_882 rfl (lv_at hl 0 rfl) ?_
  refine lv_iload hx hb d_L_law_883 (lv_at hl 4 rfl) ?_
  refine lv_iconst (v := 2) hx hb d_L_law_885 (by decide) ?_
  refine lv_iadd hx hb d_L_law_886 ?_
  refine va_sld hx hb hX9 hb9 hbA hS (by rw [show nI i + 2 = nI (i + 2) from nI_k i 2]; exact vp_in_nI (by omega) (by omega)) d_L_law_887 ?_
  rw [← hp1]
  refine lv_aload_n hx hb d_L_law_888 rfl (lv_at hl 0 rfl) ?_
  refine lv_iload hx hb d_L_law_889 (lv_at hl 4 rfl) ?_
  refine lv_iconst (v := 3) hx hb d_L_law_891 (by decide) ?_
  refine lv_iadd hx hb d_L_law_892 ?_
  refine va_sld hx hb hX9 hb9 hbA hS (by rw [show nI i + 3 = nI (i + 3) from nI_k i 3]; exact vp_in_nI (by omega) (by omega)) d_L_law_893 ?_
  rw [← hp2]
  refine lv_aload_n hx hb d_L_law_894 rfl (lv_at hl 0 rfl) ?_
  refine lv_iload hx hb d_L_law_895 (lv_at hl 4 rfl) ?_
  refine lv_iconst (v := 4) hx hb d_L_law_897 (by decide) ?_
  refine lv_iadd hx hb d_L_law_898 ?_
  refine va_sld hx hb hX9 hb9 hbA hS (by rw [show nI i + 4 = nI (i + 4) from nI_k i 4]; exact vp_in_nI (by omega) (by omega)) d_L_law_899 ?_
  rw [← hp3]
  refine lv_aload_n hx hb d_L_law_900 rfl (lv_at hl 0 rfl) ?_
  refine lv_iload hx hb d_L_law_901 (lv_at hl 4 rfl) ?_
  refine lv_iconst (v := 5) hx hb d_L_law_903 (by decide) ?_
  refine lv_iadd hx hb d_L_law_904 ?_
  refine va_sld hx hb hX9 hb9 hbA hS (by rw [show nI i + 5 = nI (i + 5) from nI_k i 5]; exact vp_in_nI (by omega) (by omega)) d_L_law_905 ?_
  rw [← hp4]
  refine lv_aload_n hx hb d_L_law_906 rfl (lv_at hl 0 rfl) ?_
  refine lv_iload hx hb d_L_law_907 (lv_at hl 4 rfl) ?_
  refine lv_bipush (v := 6) hx hb d_L_law_909 (by decide) ?_
  refine lv_iadd hx hb d_L_law_911 ?_
  refine va_sld hx hb hX9 hb9 hbA hS (by rw [show nI i + 6 = nI (i + 6) from nI_k i 6]; exact vp_in_nI (by omega) (by omega)) d_L_law_912 ?_
  rw [← hp5]
  refine lv_aload_n hx hb d_L_law_913 rfl (lv_at hl 3 rfl) ?_
  have hP : va_P D cls (([oO cJ out fo] ++ u) ++ (oT cI cZ o7 dT gT la ca aa na ya ta n ns nn nr d g sl cr ak no ye tl th be bp bm bo)) H := ba_Pp pmL hP
  have hD : va_D A (([oO cJ out fo] ++ u) ++ (oT cI cZ o7 dT gT la ca aa na ya ta n ns nn nr d g sl cr ak no ye tl th be bp bm bo)) := ba_Dp pmL hD
  refine mcalli (wc := ([oO cJ out fo] ++ u)) (wr := (oT cI cZ o7 dT gT la ca aa na ya ta n ns nn nr d g sl cr ak no ye tl th be bp bm bo)) (vx_runSW (As := [.ref o, .int p0, .int p1, .int p2, .int p3, .int p4, .int p5, .ref out]) (rest := []) hF9 (c_L_rule_ok l D cI cZ cJ cO H.size e0 mi o u (CI.o hCI) out fo p0 p1 p2 p3 p4 p5 (cRul n nr p0 p1 p2 p3 p4 p5) _ _ (K_rule l hlt D cI cZ cJ cO e0 mi o n d g ns sl cr nn ak no ye nr tl h4 h64 u hCI hSI.2.2.2.1 p0 p1 p2 p3 p4 p5) (fun _ _ h => h.1)) (vx_cwSW 8 hg (gqW g_579 g_580 g_17 g_581) rfl rfl rfl (by decide +kernel) ⟨Nat.le_trans (m := 9) (Nat.le_of_ble_eq_true rfl) hR1, Nat.le_trans (m := 260) (Nat.le_of_ble_eq_true rfl) hR2⟩) (kS hP hD hK hN hS hA hU hV hsP) rfl rfl hl.1 rfl (lv_room (Nat.le_of_ble_eq_true rfl)) d_L_law_914 ⟨by omega, by omega⟩) hP hD hS hA (fun r5 u9 H locs hq hP hD hS => ?_)
  obtain ⟨rfl, fo1, u1, rfl, hq⟩ := hq
  have hP : va_P D cls ([oO cJ out fo1] ++ ((oT cI cZ o7 dT gT la ca aa na ya ta n ns nn nr d g sl cr ak no ye tl th be bp bm bo) ++ u1)) H := ba_Pp pmL.symm hP
  have hD : va_D A ([oO cJ out fo1] ++ ((oT cI cZ o7 dT gT la ca aa na ya ta n ns nn nr d g sl cr ak no ye tl th be bp bm bo) ++ u1)) := ba_Dp pmL.symm hD
  refine W.widen (k := cells + 3) (n := slots + 40) (by omega) (by omega) ?_
  refine W.eq (g2 := F0 m 917 ls [.int (cRul n nr p0 p1 p2 p3 p4 p5)]) rfl ?_
  refine lv_istore (lv' := [(5, .int (cRul n nr p0 p1 p2 p3 p4 p5)), (0, .ref sa9), (1, .ref o), (2, .ref o7), (3, .ref out), (4, .int (nI i))]) hx hb d_L_law_917 hl (by decide) rfl (fun ls hl => ?_)
  refine lv_aload_n hx hb d_L_law_919 rfl (lv_at hl 3 rfl) ?_
  refine lv_aload_n hx hb d_L_law_920 rfl (lv_at hl 1 rfl) ?_
  refine lv_iload hx hb d_L_law_921 (lv_at hl 5 rfl) ?_
  refine lv_iconst (v := 1) hx hb d_L_law_923 (by decide) ?_
  refine lv_iadd hx hb d_L_law_924 ?_
  refine va_sld hx hb hX9 hb9 hbA hS (by rw [show nI i + 1 = nI (i + 1) from nI_k i 1]; exact vp_in_nI (by omega) (by omega)) d_L_law_925 ?_
  rw [← hp0]
  refine lv_aload_n hx hb d_L_law_926 rfl (lv_at hl 1 rfl) ?_
  refine lv_iload hx hb d_L_law_927 (lv_at hl 5 rfl) ?_
  refine lv_iconst (v := 2) hx hb d_L_law_929 (by decide) ?_
  refine lv_iadd hx hb d_L_law_930 ?_
  refine va_sld hx hb hX9 hb9 hbA hS (by rw [show nI i + 2 = nI (i + 2) from nI_k i 2]; exact vp_in_nI (by omega) (by omega)) d_L_law_931 ?_
  rw [← hp1]
  refine lv_aload_n hx hb d_L_law_932 rfl (lv_at hl 1 rfl) ?_
  refine lv_iload hx hb d_L_law_933 (lv_at hl 5 rfl) ?_
  refine lv_iconst (v := 3) hx hb d_L_law_935 (by decide) ?_
  refine lv_iadd hx hb d_L_law_936 ?_
  refine va_sld hx hb hX9 hb9 hbA hS (by rw [show nI i + 3 = nI (i + 3) from nI_k i 3]; exact vp_in_nI (by omega) (by omega)) d_L_law_937 ?_
  rw [← hp2]
  refine lv_aload_n hx hb d_L_law_938 rfl (lv_at hl 1 rfl) ?_
  refine lv_iload hx hb d_L_law_939 (lv_at hl 5 rfl) ?_
  refine lv_iconst (v := 4) hx hb d_L_law_941 (by decide) ?_
  refine lv_iadd hx hb d_L_law_942 ?_
  refine va_sld hx hb hX9 hb9 hbA hS (by rw [show nI i + 4 = nI (i + 4) from nI_k i 4]; exact vp_in_nI (by omega) (by omega)) d_L_law_943 ?_
  rw [← hp3]
  refine lv_aload_n hx hb d_L_law_944 rfl (lv_at hl 1 rfl) ?_
  refine lv_iload hx hb d_L_law_945 (lv_at hl 5 rfl) ?_
  refine lv_iconst (v := 5) hx hb d_L_law_947 (by decide) ?_
  refine lv_iadd hx hb d_L_law_948 ?_
  refine va_sld hx hb hX9 hb9 hbA hS (by rw [show nI i + 5 = nI (i + 5) from nI_k i 5]; exact vp_in_nI (by omega) (by omega)) d_L_law_949 ?_
  rw [← hp4]
  refine lv_aload_n hx hb d_L_law_950 rfl (lv_at hl 1 rfl) ?_
  refine lv_iload hx hb d_L_law_951 (lv_at hl 5 rfl) ?_
  refine lv_bipush (v := 6) hx hb d_L_law_953 (by decide) ?_
  refine lv_iadd hx hb d_L_law_955 ?_
  refine va_sld hx hb hX9 hb9 hbA hS (by rw [show nI i + 6 = nI (i + 6) from nI_k i 6]; exact vp_in_nI (by omega) (by omega)) d_L_law_956 ?_
  rw [← hp5]
  have hP : va_P D cls ((oT cI cZ o7 dT gT la ca aa na ya ta n ns nn nr d g sl cr ak no ye tl th be bp bm bo) ++ ([oO cJ out fo1] ++ u1)) H := ba_Pp pmT hP
  have hD : va_D A ((oT cI cZ o7 dT gT la ca aa na ya ta n ns nn nr d g sl cr ak no ye tl th be bp bm bo) ++ ([oO cJ out fo1] ++ u1)) := ba_Dp pmT hD
  refine mcalli (wc := (oT cI cZ o7 dT gT la ca aa na ya ta n ns nn nr d g sl cr ak no ye tl th be bp bm bo)) (wr := ([oO cJ out fo1] ++ u1)) (va_runV (As := [.int p0, .int p1, .int p2, .int p3, .int p4, .int p5]) (rest := []) hF9 (c_T_rule_ok l D cI cZ cJ cO H.size o7 dT gT la ca aa na ya ta n ns nn nr d g sl cr ak no ye tl th be bp bm bo h4 h64 hSI.1 p0 p1 p2 p3 p4 p5 hSI.2.2.2.1) (cwV 6 hg (gv g_786 g_787 g_788 g_26 g_789) rfl rfl rfl (by decide +kernel) ⟨Nat.le_trans (m := 9) (Nat.le_of_ble_eq_true rfl) hR1, Nat.le_trans (m := 260) (Nat.le_of_ble_eq_true rfl) hR2⟩) (mV (ba_Pl hP) hK hN (ba_Dl hD) (va_recv hK (ba_Pl hP) (ci := 7) (q0 := 0) rfl rfl)) rfl rfl hl.1 rfl (lv_room (Nat.le_of_ble_eq_true rfl)) d_L_law_957 ⟨by omega, by omega⟩) hP hD hS hA (fun r6 u9 H locs hq2 hP hD hS => ?_)
  refine W.widen (k := cells + 3) (n := slots + 40) (by omega) (by omega) ?_
  rcases hq2 with ⟨hc, rfl, rfl⟩ | ⟨hn, rfl⟩ <;> rcases hq with ⟨hc0, r1, hφ, hfo⟩ | ⟨hn0, hpx⟩
  · obtain ⟨-, rfl, hCI⟩ := hφ
    have hSI := si_rul hSI hc0
    have hP : va_P D cls ((oT cI cZ o7 dT gT la ca aa na ya ta n ns nn (nr + 1) d g sl cr ak no ye (tlR tl nr p0 p1 p2 p3 p4 p5) 0 be bp bm bo) ++ ([oO cJ out fo1] ++ u1)) H := hP
    have hD : va_D A ((oT cI cZ o7 dT gT la ca aa na ya ta n ns nn (nr + 1) d g sl cr ak no ye (tlR tl nr p0 p1 p2 p3 p4 p5) 0 be bp bm bo) ++ ([oO cJ out fo1] ++ u1)) := hD
    refine W.eq (g2 := F0 m 960 ls [.int (nI (nr + 1))]) rfl ?_
    refine lv_istore (lv' := [(6, .int (nI (nr + 1))), (5, .int (cRul n nr p0 p1 p2 p3 p4 p5)), (0, .ref sa9), (1, .ref o), (2, .ref o7), (3, .ref out), (4, .int (nI i))]) hx hb d_L_law_960 hl (by decide) rfl (fun ls hl => ?_)
    refine lv_aload_n hx hb d_L_law_962 rfl (lv_at hl 4 rfl) ?_
    refine vp_callSi (va_Run.run (va_runV (As := []) (rest := []) hF9 (c_T_thrown_ok l D cI cZ cJ cO o7 dT gT la ca aa na ya ta n ns nn (nr + 1) d g sl cr ak no ye (tlR tl nr p0 p1 p2 p3 p4 p5) 0 be bp bm bo h4 h64 hSI.1) (cwV 0 hg (gv g_691 g_692 g_693 g_26 g_694) rfl rfl rfl (by decide +kernel) ⟨Nat.le_trans (m := 9) (Nat.le_of_ble_eq_true rfl) hR1, Nat.le_trans (m := 260) (Nat.le_of_ble_eq_true rfl) hR2⟩) (pV (ba_Pl hP) hK hN (va_recv hK (ba_Pl hP) (ci := 7) (q0 := 0) rfl rfl)) rfl rfl hl.1 rfl (lv_room (Nat.le_of_ble_eq_true rfl)) d_L_law_963 ⟨by omega, by omega⟩)) (fun r7 hr7 => ?_)
    subst hr7
    refine W.eq (g2 := F0 m 966 ls [.int 0]) rfl ?_
    have hP : va_P D cls ([oO cJ out fo1] ++ ((oT cI cZ o7 dT gT la ca aa na ya ta n ns nn (nr + 1) d g sl cr ak no ye (tlR tl nr p0 p1 p2 p3 p4 p5) 0 be bp bm bo) ++ u1)) H := ba_Pp pmT.symm hP
    have hD : va_D A ([oO cJ out fo1] ++ ((oT cI cZ o7 dT gT la ca aa na ya ta n ns nn (nr + 1) d g sl cr ak no ye (tlR tl nr p0 p1 p2 p3 p4 p5) 0 be bp bm bo) ++ u1)) := ba_Dp pmT.symm hD
    refine lv_iload hx hb d_L_law_966 (lv_at hl 1 rfl) ?_
    refine lv_icmp_eq (tgt := 973) hx hb d_L_law_968 (by decide) (fun c_968 => ?_) (fun c_968 => ?_)
    · refine lv_iload hx hb d_L_law_973 (lv_at hl 1 rfl) ?_
      refine lv_if_ne (tgt := 990) hx hb d_L_law_975 (by decide) (fun c_975 => ?_) (fun c_975 => ?_)
      · exact absurd hc0 c_975
      · refine lv_aload_n hx hb d_L_law_978 rfl (lv_at hl 5 rfl) ?_
        refine lv_iconst (v := 0) hx hb d_L_law_979 (by decide) ?_
        refine va_lald hx hb hK hP 0 2 rfl rfl (by unfold vp_in; decide) d_L_law_980 ?_
        rw [show fo1 (0 : Int32).toNatClampNeg = (nI (nr + 1)).toInt64 from hfo]
        refine lv_iload hx hb d_L_law_981 (lv_at hl 0 rfl) ?_
        refine lv_i2l (v := (nI (nr + 1)).toInt64) hx hb d_L_law_983 rfl ?_
        refine W.lcmp hx hb d_L_law_984 ?_
        refine lv_if_eq (tgt := 990) hx hb d_L_law_985 (by decide) (fun c_985 => ?_) (fun c_985 => ?_)
        · refine lv_goto (tgt := 1049) hx hb d_L_law_990 (by decide) ?_
          exact hk _ _ _ _ _ _ _ _ _ _ _ _ _ _ _ _ _ _ H locs ls hSI hCI hP hD hS (lv_sub hl [2, 3, 4, 5, 6] rfl)
        · exact absurd (cmp_s _) c_985
    · exact absurd hc0.symm c_968
  · exact absurd hc hn0
  · exact absurd hc0 hn
  · have hCI := hpx
    have hP : va_P D cls ((oT cI cZ o7 dT gT la ca aa na ya ta n ns nn nr d g sl cr ak no ye tl (cRul n nr p0 p1 p2 p3 p4 p5) be bp bm bo) ++ ([oO cJ out fo1] ++ u1)) H := hP
    have hD : va_D A ((oT cI cZ o7 dT gT la ca aa na ya ta n ns nn nr d g sl cr ak no ye tl (cRul n nr p0 p1 p2 p3 p4 p5) be bp bm bo) ++ ([oO cJ out fo1] ++ u1)) := hD
    refine W.eq (g2 := F0 m 960 ls [.int r6]) rfl ?_
    refine lv_istore (lv' := [(6, .int r6), (5, .int (cRul n nr p0 p1 p2 p3 p4 p5)), (0, .ref sa9), (1, .ref o), (2, .ref o7), (3, .ref out), (4, .int (nI i))]) hx hb d_L_law_960 hl (by decide) rfl (fun ls hl => ?_)
    refine lv_aload_n hx hb d_L_law_962 rfl (lv_at hl 4 rfl) ?_
    refine vp_callSi (va_Run.run (va_runV (As := []) (rest := []) hF9 (c_T_thrown_ok l D cI cZ cJ cO o7 dT gT la ca aa na ya ta n ns nn nr d g sl cr ak no ye tl (cRul n nr p0 p1 p2 p3 p4 p5) be bp bm bo h4 h64 hSI.1) (cwV 0 hg (gv g_691 g_692 g_693 g_26 g_694) rfl rfl rfl (by decide +kernel) ⟨Nat.le_trans (m := 9) (Nat.le_of_ble_eq_true rfl) hR1, Nat.le_trans (m := 260) (Nat.le_of_ble_eq_true rfl) hR2⟩) (pV (ba_Pl hP) hK hN (va_recv hK (ba_Pl hP) (ci := 7) (q0 := 0) rfl rfl)) rfl rfl hl.1 rfl (lv_room (Nat.le_of_ble_eq_true rfl)) d_L_law_963 ⟨by omega, by omega⟩)) (fun r7 hr7 => ?_)
    subst hr7
    refine W.eq (g2 := F0 m 966 ls [.int (cRul n nr p0 p1 p2 p3 p4 p5)]) rfl ?_
    have hP : va_P D cls ([oO cJ out fo1] ++ ((oT cI cZ o7 dT gT la ca aa na ya ta n ns nn nr d g sl cr ak no ye tl (cRul n nr p0 p1 p2 p3 p4 p5) be bp bm bo) ++ u1)) H := ba_Pp pmT.symm hP
    have hD : va_D A ([oO cJ out fo1] ++ ((oT cI cZ o7 dT gT la ca aa na ya ta n ns nn nr d g sl cr ak no ye tl (cRul n nr p0 p1 p2 p3 p4 p5) be bp bm bo) ++ u1)) := ba_Dp pmT.symm hD
    refine lv_iload hx hb d_L_law_966 (lv_at hl 1 rfl) ?_
    refine lv_icmp_eq (tgt := 973) hx hb d_L_law_968 (by decide) (fun c_968 => ?_) (fun c_968 => ?_)
    · refine lv_iload hx hb d_L_law_973 (lv_at hl 1 rfl) ?_
      refine lv_if_ne (tgt := 990) hx hb d_L_law_975 (by decide) (fun c_975 => ?_) (fun c_975 => ?_)
      · refine lv_goto (tgt := 1049) hx hb d_L_law_990 (by decide) ?_
        exact hk _ _ _ _ _ _ _ _ _ _ _ _ _ _ _ _ _ _ H locs ls hSI hCI hP hD hS (lv_sub hl [2, 3, 4, 5, 6] rfl)
      · exact absurd c_975 hn0
    · exact absurd rfl c_968

set_option maxHeartbeats 4000000 in
set_option maxRecDepth 100000 in
/-- the law's way through age -/
theorem st_age {p : Program} {l : Launch} {e : Env} {R : Room} {s : State} {m : MethodId} {args : Array Value} {below : List Frame} {meth : Method} {c : Code} {Q : State → Prop} {A : Nat → Prop} {D : va_G} {cI cZ cJ cO : ClassId} {e0 mi sa9 ln : Nat} {sc : Nat → Int32} {out o7 dT gT la ca aa na ya ta o n i cells slots : Nat} (hlt : l.stackTraces = false) (hF9 : CallFix p m c c_L_law 8 s args GT "RubbingMirrorsLaw") (hK : va_K D cls (TY cI cZ cJ cO) s) (hN : nW s) (hA : ∀ q, s.heap.size ≤ q → A q) (hU : vx_Zq Bundle.tN "UNASSIGNED_STACK" Bundle.steD A s s.heap) (hV : vx_Zq Bundle.tN "SUPPRESSED_SENTINEL" Bundle.listD A s s.heap) (hsP : sP A e0 mi s s.heap) (hX9 : va_X sa9 ln sc s s.heap) (hb9 : sa9 < s.heap.size) (hbA : ¬ A sa9) (hR1 : 9 ≤ R.frames) (hR2 : 260 ≤ R.locals) (h4 : 4 ≤ n) (h64 : n ≤ 64) (hln : ln < 2 ^ 20) (hin : i + 7 ≤ ln) (hc1 : cells + 3 ≤ R.cells) (hc2 : slots + 40 ≤ R.slots) (hk : LK p l e R s m args below meth c Q A D cI cZ cJ cO e0 sa9 ln sc out o7 dT gT la ca aa na ya ta o n i 1049 (cells + 3) (slots + 40)) : LK p l e R s m args below meth c Q A D cI cZ cJ cO e0 sa9 ln sc out o7 dT gT la ca aa na ya ta o n i 993 cells slots := by
  intro d g ns sl cr nn ak no ye nr tl th be bp bm bo u fo H locs ls hSI hCI hP hD hS hl
  obtain ⟨hx, hb, hml, hown, hg⟩ := hF9
  have hF9 : CallFix p m c c_L_law 8 s args GT "RubbingMirrorsLaw" := ⟨hx, hb, hml, hown, hg⟩
  obtain ⟨p0, hp0⟩ : ∃ x, x = sc (nI i + 1).toNatClampNeg := ⟨_, rfl⟩
  refine lv_aload_n hx hb d_L_law_993 rfl (lv_at hl 1 rfl) ?_
  refine lv_aload_n hx hb d_L_law_994 rfl (lv_at hl 0 rfl) ?_
  refine lv_iload hx hb d_L_law_995 (lv_at hl 4 rfl) ?_
  refine lv_iconst (v := 1) hx hb d_L_law_997 (by decide) ?_
  refine lv_iadd hx hb d_L_law_998 ?_
  refine va_sld hx hb hX9 hb9 hbA hS (by rw [show nI i + 1 = nI (i + 1) from nI_k i 1]; exact vp_in_nI (by omega) (by omega)) d_L_law_999 ?_
  rw [← hp0]
  refine lv_aload_n hx hb d_L_law_1000 rfl (lv_at hl 3 rfl) ?_
  have hP : va_P D cls (([oO cJ out fo] ++ u) ++ (oT cI cZ o7 dT gT la ca aa na ya ta n ns nn nr d g sl cr ak no ye tl th be bp bm bo)) H := ba_Pp pmL hP
  have hD : va_D A (([oO cJ out fo] ++ u) ++ (oT cI cZ o7 dT gT la ca aa na ya ta n ns nn nr d g sl cr ak no ye tl th be bp bm bo)) := ba_Dp pmL hD
  refine mcalli (wc := ([oO cJ out fo] ++ u)) (wr := (oT cI cZ o7 dT gT la ca aa na ya ta n ns nn nr d g sl cr ak no ye tl th be bp bm bo)) (vx_runSW (As := [.ref o, .int p0, .ref out]) (rest := []) hF9 (c_L_age_ok l D cI cZ cJ cO H.size e0 mi o u (CI.o hCI) out fo p0 (cAge p0 (agT n d tl nr)) _ _ (K_age l hlt D cI cZ cJ cO e0 mi o n d g ns sl cr nn ak no ye nr tl h4 h64 u hCI hSI.2.2.2.1 hSI.2.2.2.2.2.2.1 hSI.2.2.2.2.2.2.2 p0) (fun _ _ h => h.1)) (vx_cwSW 3 hg (gqW g_618 g_619 g_17 g_620) rfl rfl rfl (by decide +kernel) ⟨Nat.le_trans (m := 9) (Nat.le_of_ble_eq_true rfl) hR1, Nat.le_trans (m := 260) (Nat.le_of_ble_eq_true rfl) hR2⟩) (kS hP hD hK hN hS hA hU hV hsP) rfl rfl hl.1 rfl (lv_room (Nat.le_of_ble_eq_true rfl)) d_L_law_1001 ⟨by omega, by omega⟩) hP hD hS hA (fun r5 u9 H locs hq hP hD hS => ?_)
  obtain ⟨rfl, fo1, u1, rfl, hq⟩ := hq
  have hP : va_P D cls ([oO cJ out fo1] ++ ((oT cI cZ o7 dT gT la ca aa na ya ta n ns nn nr d g sl cr ak no ye tl th be bp bm bo) ++ u1)) H := ba_Pp pmL.symm hP
  have hD : va_D A ([oO cJ out fo1] ++ ((oT cI cZ o7 dT gT la ca aa na ya ta n ns nn nr d g sl cr ak no ye tl th be bp bm bo) ++ u1)) := ba_Dp pmL.symm hD
  refine W.widen (k := cells + 3) (n := slots + 40) (by omega) (by omega) ?_
  refine W.eq (g2 := F0 m 1004 ls [.int (cAge p0 (agT n d tl nr))]) rfl ?_
  refine lv_istore (lv' := [(5, .int (cAge p0 (agT n d tl nr))), (0, .ref sa9), (1, .ref o), (2, .ref o7), (3, .ref out), (4, .int (nI i))]) hx hb d_L_law_1004 hl (by decide) rfl (fun ls hl => ?_)
  refine lv_aload_n hx hb d_L_law_1006 rfl (lv_at hl 3 rfl) ?_
  refine lv_aload_n hx hb d_L_law_1007 rfl (lv_at hl 1 rfl) ?_
  refine lv_iload hx hb d_L_law_1008 (lv_at hl 5 rfl) ?_
  refine lv_iconst (v := 1) hx hb d_L_law_1010 (by decide) ?_
  refine lv_iadd hx hb d_L_law_1011 ?_
  refine va_sld hx hb hX9 hb9 hbA hS (by rw [show nI i + 1 = nI (i + 1) from nI_k i 1]; exact vp_in_nI (by omega) (by omega)) d_L_law_1012 ?_
  rw [← hp0]
  have hP : va_P D cls ((oT cI cZ o7 dT gT la ca aa na ya ta n ns nn nr d g sl cr ak no ye tl th be bp bm bo) ++ ([oO cJ out fo1] ++ u1)) H := ba_Pp pmT hP
  have hD : va_D A ((oT cI cZ o7 dT gT la ca aa na ya ta n ns nn nr d g sl cr ak no ye tl th be bp bm bo) ++ ([oO cJ out fo1] ++ u1)) := ba_Dp pmT hD
  refine mcalli (wc := (oT cI cZ o7 dT gT la ca aa na ya ta n ns nn nr d g sl cr ak no ye tl th be bp bm bo)) (wr := ([oO cJ out fo1] ++ u1)) (va_runV (As := [.int p0]) (rest := []) hF9 (c_T_age_ok l D cI cZ cJ cO H.size o7 dT gT la ca aa na ya ta n ns nn nr d g sl cr ak no ye tl th be bp bm bo h4 h64 hSI.1 p0 hSI.2.2.2.1 hSI.2.2.2.2.2.2.1) (cwV 1 hg (gv g_792 g_793 g_794 g_26 g_795) rfl rfl rfl (by decide +kernel) ⟨Nat.le_trans (m := 9) (Nat.le_of_ble_eq_true rfl) hR1, Nat.le_trans (m := 260) (Nat.le_of_ble_eq_true rfl) hR2⟩) (mV (ba_Pl hP) hK hN (ba_Dl hD) (va_recv hK (ba_Pl hP) (ci := 7) (q0 := 0) rfl rfl)) rfl rfl hl.1 rfl (lv_room (Nat.le_of_ble_eq_true rfl)) d_L_law_1013 ⟨by omega, by omega⟩) hP hD hS hA (fun r6 u9 H locs hq2 hP hD hS => ?_)
  refine W.widen (k := cells + 3) (n := slots + 40) (by omega) (by omega) ?_
  rcases hq2 with ⟨hc, rfl, rfl⟩ | ⟨hn, rfl⟩ <;> rcases hq with ⟨hc0, r1, hφ, hfo⟩ | ⟨hn0, hpx⟩
  · obtain ⟨-, rfl, hCI⟩ := hφ
    have hSI := hSI
    have hP : va_P D cls ((oT cI cZ o7 dT gT la ca aa na ya ta n ns nn nr d g sl cr ak no ye tl 0 be bp bm bo) ++ ([oO cJ out fo1] ++ u1)) H := hP
    have hD : va_D A ((oT cI cZ o7 dT gT la ca aa na ya ta n ns nn nr d g sl cr ak no ye tl 0 be bp bm bo) ++ ([oO cJ out fo1] ++ u1)) := hD
    refine W.eq (g2 := F0 m 1016 ls [.int (if p0 = 0 then (agT n d tl nr).2.1 else (agT n d tl nr).2.2)]) rfl ?_
    refine lv_istore (lv' := [(6, .int (if p0 = 0 then (agT n d tl nr).2.1 else (agT n d tl nr).2.2)), (5, .int (cAge p0 (agT n d tl nr))), (0, .ref sa9), (1, .ref o), (2, .ref o7), (3, .ref out), (4, .int (nI i))]) hx hb d_L_law_1016 hl (by decide) rfl (fun ls hl => ?_)
    refine lv_aload_n hx hb d_L_law_1018 rfl (lv_at hl 4 rfl) ?_
    refine vp_callSi (va_Run.run (va_runV (As := []) (rest := []) hF9 (c_T_thrown_ok l D cI cZ cJ cO o7 dT gT la ca aa na ya ta n ns nn nr d g sl cr ak no ye tl 0 be bp bm bo h4 h64 hSI.1) (cwV 0 hg (gv g_691 g_692 g_693 g_26 g_694) rfl rfl rfl (by decide +kernel) ⟨Nat.le_trans (m := 9) (Nat.le_of_ble_eq_true rfl) hR1, Nat.le_trans (m := 260) (Nat.le_of_ble_eq_true rfl) hR2⟩) (pV (ba_Pl hP) hK hN (va_recv hK (ba_Pl hP) (ci := 7) (q0 := 0) rfl rfl)) rfl rfl hl.1 rfl (lv_room (Nat.le_of_ble_eq_true rfl)) d_L_law_1019 ⟨by omega, by omega⟩)) (fun r7 hr7 => ?_)
    subst hr7
    refine W.eq (g2 := F0 m 1022 ls [.int 0]) rfl ?_
    have hP : va_P D cls ([oO cJ out fo1] ++ ((oT cI cZ o7 dT gT la ca aa na ya ta n ns nn nr d g sl cr ak no ye tl 0 be bp bm bo) ++ u1)) H := ba_Pp pmT.symm hP
    have hD : va_D A ([oO cJ out fo1] ++ ((oT cI cZ o7 dT gT la ca aa na ya ta n ns nn nr d g sl cr ak no ye tl 0 be bp bm bo) ++ u1)) := ba_Dp pmT.symm hD
    refine lv_iload hx hb d_L_law_1022 (lv_at hl 1 rfl) ?_
    refine lv_icmp_eq (tgt := 1029) hx hb d_L_law_1024 (by decide) (fun c_1024 => ?_) (fun c_1024 => ?_)
    · refine lv_iload hx hb d_L_law_1029 (lv_at hl 1 rfl) ?_
      refine lv_if_ne (tgt := 1046) hx hb d_L_law_1031 (by decide) (fun c_1031 => ?_) (fun c_1031 => ?_)
      · exact absurd hc0 c_1031
      · refine lv_aload_n hx hb d_L_law_1034 rfl (lv_at hl 5 rfl) ?_
        refine lv_iconst (v := 0) hx hb d_L_law_1035 (by decide) ?_
        refine va_lald hx hb hK hP 0 2 rfl rfl (by unfold vp_in; decide) d_L_law_1036 ?_
        rw [show fo1 (0 : Int32).toNatClampNeg = (if p0 = 0 then (agT n d tl nr).2.1 else (agT n d tl nr).2.2).toInt64 from hfo]
        refine lv_iload hx hb d_L_law_1037 (lv_at hl 0 rfl) ?_
        refine lv_i2l (v := (if p0 = 0 then (agT n d tl nr).2.1 else (agT n d tl nr).2.2).toInt64) hx hb d_L_law_1039 rfl ?_
        refine W.lcmp hx hb d_L_law_1040 ?_
        refine lv_if_eq (tgt := 1046) hx hb d_L_law_1041 (by decide) (fun c_1041 => ?_) (fun c_1041 => ?_)
        · refine lv_goto (tgt := 1049) hx hb d_L_law_1046 (by decide) ?_
          exact hk _ _ _ _ _ _ _ _ _ _ _ _ _ _ _ _ _ _ H locs ls hSI hCI hP hD hS (lv_sub hl [2, 3, 4, 5, 6] rfl)
        · exact absurd (cmp_s _) c_1041
    · exact absurd hc0.symm c_1024
  · exact absurd hc hn0
  · exact absurd hc0 hn
  · have hCI := hpx
    have hP : va_P D cls ((oT cI cZ o7 dT gT la ca aa na ya ta n ns nn nr d g sl cr ak no ye tl (cAge p0 (agT n d tl nr)) be bp bm bo) ++ ([oO cJ out fo1] ++ u1)) H := hP
    have hD : va_D A ((oT cI cZ o7 dT gT la ca aa na ya ta n ns nn nr d g sl cr ak no ye tl (cAge p0 (agT n d tl nr)) be bp bm bo) ++ ([oO cJ out fo1] ++ u1)) := hD
    refine W.eq (g2 := F0 m 1016 ls [.int r6]) rfl ?_
    refine lv_istore (lv' := [(6, .int r6), (5, .int (cAge p0 (agT n d tl nr))), (0, .ref sa9), (1, .ref o), (2, .ref o7), (3, .ref out), (4, .int (nI i))]) hx hb d_L_law_1016 hl (by decide) rfl (fun ls hl => ?_)
    refine lv_aload_n hx hb d_L_law_1018 rfl (lv_at hl 4 rfl) ?_
    refine vp_callSi (va_Run.run (va_runV (As := []) (rest := []) hF9 (c_T_thrown_ok l D cI cZ cJ cO o7 dT gT la ca aa na ya ta n ns nn nr d g sl cr ak no ye tl (cAge p0 (agT n d tl nr)) be bp bm bo h4 h64 hSI.1) (cwV 0 hg (gv g_691 g_692 g_693 g_26 g_694) rfl rfl rfl (by decide +kernel) ⟨Nat.le_trans (m := 9) (Nat.le_of_ble_eq_true rfl) hR1, Nat.le_trans (m := 260) (Nat.le_of_ble_eq_true rfl) hR2⟩) (pV (ba_Pl hP) hK hN (va_recv hK (ba_Pl hP) (ci := 7) (q0 := 0) rfl rfl)) rfl rfl hl.1 rfl (lv_room (Nat.le_of_ble_eq_true rfl)) d_L_law_1019 ⟨by omega, by omega⟩)) (fun r7 hr7 => ?_)
    subst hr7
    refine W.eq (g2 := F0 m 1022 ls [.int (cAge p0 (agT n d tl nr))]) rfl ?_
    have hP : va_P D cls ([oO cJ out fo1] ++ ((oT cI cZ o7 dT gT la ca aa na ya ta n ns nn nr d g sl cr ak no ye tl (cAge p0 (agT n d tl nr)) be bp bm bo) ++ u1)) H := ba_Pp pmT.symm hP
    have hD : va_D A ([oO cJ out fo1] ++ ((oT cI cZ o7 dT gT la ca aa na ya ta n ns nn nr d g sl cr ak no ye tl (cAge p0 (agT n d tl nr)) be bp bm bo) ++ u1)) := ba_Dp pmT.symm hD
    refine lv_iload hx hb d_L_law_1022 (lv_at hl 1 rfl) ?_
    refine lv_icmp_eq (tgt := 1029) hx hb d_L_law_1024 (by decide) (fun c_1024 => ?_) (fun c_1024 => ?_)
    · refine lv_iload hx hb d_L_law_1029 (lv_at hl 1 rfl) ?_
      refine lv_if_ne (tgt := 1046) hx hb d_L_law_1031 (by decide) (fun c_1031 => ?_) (fun c_1031 => ?_)
      · refine lv_goto (tgt := 1049) hx hb d_L_law_1046 (by decide) ?_
        exact hk _ _ _ _ _ _ _ _ _ _ _ _ _ _ _ _ _ _ H locs ls hSI hCI hP hD hS (lv_sub hl [2, 3, 4, 5, 6] rfl)
      · exact absurd c_1031 hn0
    · exact absurd rfl c_1024
