set_option maxHeartbeats 4000000 in
set_option maxRecDepth 100000 in
/-- the law's way through depth -/
theorem st_depth {p : Program} {l : Launch} {e : Env} {R : Room} {s : State} {m : MethodId} {args : Array Value} {below : List Frame} {meth : Method} {c : Code} {Q : State → Prop} {A : Nat → Prop} {D : va_G} {cI cZ cJ cO : ClassId} {e0 mi sa9 ln : Nat} {sc : Nat → Int32} {out o7 dT gT la ca aa na ya ta o n i cells slots : Nat} (hlt : l.stackTraces = false) (hF9 : CallFix p m c c_L_law 8 s args GT "RubbingMirrorsLaw") (hK : va_K D cls (TY cI cZ cJ cO) s) (hN : nW s) (hA : ∀ q, s.heap.size ≤ q → A q) (hU : vx_Zq Bundle.tN "UNASSIGNED_STACK" Bundle.steD A s s.heap) (hV : vx_Zq Bundle.tN "SUPPRESSED_SENTINEL" Bundle.listD A s s.heap) (hsP : sP A e0 mi s s.heap) (hX9 : va_X sa9 ln sc s s.heap) (hb9 : sa9 < s.heap.size) (hbA : ¬ A sa9) (hR1 : 9 ≤ R.frames) (hR2 : 260 ≤ R.locals) (h4 : 4 ≤ n) (h64 : n ≤ 64) (hln : ln < 2 ^ 20) (hin : i + 7 ≤ ln) (hc1 : cells + 3 ≤ R.cells) (hc2 : slots + 40 ≤ R.slots) (hk : LK p l e R s m args below meth c Q A D cI cZ cJ cO e0 sa9 ln sc out o7 dT gT la ca aa na ya ta o n i 1049 (cells + 3) (slots + 40)) : LK p l e R s m args below meth c Q A D cI cZ cJ cO e0 sa9 ln sc out o7 dT gT la ca aa na ya ta o n i 124 cells slots := by
  intro d g ns sl cr nn ak no ye nr tl th be bp bm bo u fo H locs ls hSI hCI hP hD hS hl
  obtain ⟨hx, hb, hml, hown, hg⟩ := hF9
  have hF9 : CallFix p m c c_L_law 8 s args GT "RubbingMirrorsLaw" := ⟨hx, hb, hml, hown, hg⟩
  obtain ⟨p0, hp0⟩ : ∃ x, x = sc (nI i + 1).toNatClampNeg := ⟨_, rfl⟩
  obtain ⟨p1, hp1⟩ : ∃ x, x = sc (nI i + 2).toNatClampNeg := ⟨_, rfl⟩
  refine lv_aload_n hx hb d_L_law_124 rfl (lv_at hl 1 rfl) ?_
  refine lv_aload_n hx hb d_L_law_125 rfl (lv_at hl 0 rfl) ?_
  refine lv_iload hx hb d_L_law_126 (lv_at hl 4 rfl) ?_
  refine lv_iconst (v := 1) hx hb d_L_law_128 (by decide) ?_
  refine lv_iadd hx hb d_L_law_129 ?_
  refine va_sld hx hb hX9 hb9 hbA hS (by rw [show nI i + 1 = nI (i + 1) from nI_k i 1]; exact vp_in_nI (by omega) (by omega)) d_L_law_130 ?_
  rw [← hp0]
  refine lv_aload_n hx hb d_L_law_131 rfl (lv_at hl 0 rfl) ?_
  refine lv_iload hx hb d_L_law_132 (lv_at hl 4 rfl) ?_
  refine lv_iconst (v := 2) hx hb d_L_law_134 (by decide) ?_
  refine lv_iadd hx hb d_L_law_135 ?_
  refine va_sld hx hb hX9 hb9 hbA hS (by rw [show nI i + 2 = nI (i + 2) from nI_k i 2]; exact vp_in_nI (by omega) (by omega)) d_L_law_136 ?_
  rw [← hp1]
  have hP : va_P D cls (([] ++ u) ++ ([oO cJ out fo] ++ (oT cI cZ o7 dT gT la ca aa na ya ta n ns nn nr d g sl cr ak no ye tl th be bp bm bo))) H := ba_Pp pmV hP
  have hD : va_D A (([] ++ u) ++ ([oO cJ out fo] ++ (oT cI cZ o7 dT gT la ca aa na ya ta n ns nn nr d g sl cr ak no ye tl th be bp bm bo))) := ba_Dp pmV hD
  refine mcalli (wc := ([] ++ u)) (wr := ([oO cJ out fo] ++ (oT cI cZ o7 dT gT la ca aa na ya ta n ns nn nr d g sl cr ak no ye tl th be bp bm bo))) (vx_runSW (As := [.ref o, .int p0, .int p1]) (rest := []) hF9 (c_L_depth_ok l D cI cZ cJ cO H.size e0 mi o u (CI.o hCI)  p0 p1 (cDep n p0 p1) _ _ (K_depth l hlt D cI cZ cJ cO e0 mi o n d g ns sl cr nn ak no ye nr tl h4 h64 u hCI  p0 p1) (fun _ h => h.1)) (vx_cwSW 3 hg (gqW g_152 g_153 g_17 g_154) rfl rfl rfl (by decide +kernel) ⟨Nat.le_trans (m := 9) (Nat.le_of_ble_eq_true rfl) hR1, Nat.le_trans (m := 260) (Nat.le_of_ble_eq_true rfl) hR2⟩) (kS hP hD hK hN hS hA hU hV hsP) rfl rfl hl.1 rfl (lv_room (Nat.le_of_ble_eq_true rfl)) d_L_law_137 ⟨by omega, by omega⟩) hP hD hS hA (fun r5 u1 H locs hq hP hD hS => ?_)
  obtain ⟨rfl, hq⟩ := hq
  have hP : va_P D cls ([oO cJ out fo] ++ ((oT cI cZ o7 dT gT la ca aa na ya ta n ns nn nr d g sl cr ak no ye tl th be bp bm bo) ++ u1)) H := ba_Pp pmV.symm hP
  have hD : va_D A ([oO cJ out fo] ++ ((oT cI cZ o7 dT gT la ca aa na ya ta n ns nn nr d g sl cr ak no ye tl th be bp bm bo) ++ u1)) := ba_Dp pmV.symm hD
  refine W.widen (k := cells + 3) (n := slots + 40) (by omega) (by omega) ?_
  refine W.eq (g2 := F0 m 140 ls [.int (cDep n p0 p1)]) rfl ?_
  refine lv_istore (lv' := [(5, .int (cDep n p0 p1)), (0, .ref sa9), (1, .ref o), (2, .ref o7), (3, .ref out), (4, .int (nI i))]) hx hb d_L_law_140 hl (by decide) rfl (fun ls hl => ?_)
  refine lv_aload_n hx hb d_L_law_142 rfl (lv_at hl 3 rfl) ?_
  refine lv_aload_n hx hb d_L_law_143 rfl (lv_at hl 1 rfl) ?_
  refine lv_iload hx hb d_L_law_144 (lv_at hl 5 rfl) ?_
  refine lv_iconst (v := 1) hx hb d_L_law_146 (by decide) ?_
  refine lv_iadd hx hb d_L_law_147 ?_
  refine va_sld hx hb hX9 hb9 hbA hS (by rw [show nI i + 1 = nI (i + 1) from nI_k i 1]; exact vp_in_nI (by omega) (by omega)) d_L_law_148 ?_
  rw [← hp0]
  refine lv_aload_n hx hb d_L_law_149 rfl (lv_at hl 1 rfl) ?_
  refine lv_iload hx hb d_L_law_150 (lv_at hl 5 rfl) ?_
  refine lv_iconst (v := 2) hx hb d_L_law_152 (by decide) ?_
  refine lv_iadd hx hb d_L_law_153 ?_
  refine va_sld hx hb hX9 hb9 hbA hS (by rw [show nI i + 2 = nI (i + 2) from nI_k i 2]; exact vp_in_nI (by omega) (by omega)) d_L_law_154 ?_
  rw [← hp1]
  have hP : va_P D cls ((oT cI cZ o7 dT gT la ca aa na ya ta n ns nn nr d g sl cr ak no ye tl th be bp bm bo) ++ ([oO cJ out fo] ++ u1)) H := ba_Pp pmT hP
  have hD : va_D A ((oT cI cZ o7 dT gT la ca aa na ya ta n ns nn nr d g sl cr ak no ye tl th be bp bm bo) ++ ([oO cJ out fo] ++ u1)) := ba_Dp pmT hD
  refine mcallv (wc := (oT cI cZ o7 dT gT la ca aa na ya ta n ns nn nr d g sl cr ak no ye tl th be bp bm bo)) (wr := ([oO cJ out fo] ++ u1)) (va_runV (As := [.int p0, .int p1]) (rest := []) hF9 (c_T_depth_ok l D cI cZ cJ cO H.size o7 dT gT la ca aa na ya ta n ns nn nr d g sl cr ak no ye tl th be bp bm bo h4 h64 hSI.1 p0 p1 ) (cwV 2 hg (gv g_695 g_696 g_697 g_26 g_698) rfl rfl rfl (by decide +kernel) ⟨Nat.le_trans (m := 9) (Nat.le_of_ble_eq_true rfl) hR1, Nat.le_trans (m := 260) (Nat.le_of_ble_eq_true rfl) hR2⟩) (mV (ba_Pl hP) hK hN (ba_Dl hD) (va_recv hK (ba_Pl hP) (ci := 7) (q0 := 0) rfl rfl)) rfl rfl hl.1 rfl (lv_room (Nat.le_of_ble_eq_true rfl)) d_L_law_155 ⟨by omega, by omega⟩) hP hD hS hA (fun u9 H locs hq2 hP hD hS => ?_)
  refine W.widen (k := cells + 3) (n := slots + 40) (by omega) (by omega) ?_
  subst hq2
  rcases hq with ⟨hc0, hφ⟩ | ⟨hn0, hpx⟩
  · have hCI := hφ.2
    have hSI := si_dep hSI hc0
    have hP : va_P D cls ((oT cI cZ o7 dT gT la ca aa na ya ta n ns nn nr (dDep n d p0 p1) (gDep n g p0 p1) sl cr ak no ye tl (cDep n p0 p1) be bp bm bo) ++ ([oO cJ out fo] ++ u1)) H := hP
    have hD : va_D A ((oT cI cZ o7 dT gT la ca aa na ya ta n ns nn nr (dDep n d p0 p1) (gDep n g p0 p1) sl cr ak no ye tl (cDep n p0 p1) be bp bm bo) ++ ([oO cJ out fo] ++ u1)) := hD
    refine W.eq (g2 := F0 m 158 ls []) rfl ?_
    refine lv_aload_n hx hb d_L_law_158 rfl (lv_at hl 3 rfl) ?_
    refine vp_callSi (va_Run.run (va_runV (As := []) (rest := []) hF9 (c_T_thrown_ok l D cI cZ cJ cO o7 dT gT la ca aa na ya ta n ns nn nr (dDep n d p0 p1) (gDep n g p0 p1) sl cr ak no ye tl (cDep n p0 p1) be bp bm bo h4 h64 hSI.1) (cwV 0 hg (gv g_691 g_692 g_693 g_26 g_694) rfl rfl rfl (by decide +kernel) ⟨Nat.le_trans (m := 9) (Nat.le_of_ble_eq_true rfl) hR1, Nat.le_trans (m := 260) (Nat.le_of_ble_eq_true rfl) hR2⟩) (pV (ba_Pl hP) hK hN (va_recv hK (ba_Pl hP) (ci := 7) (q0 := 0) rfl rfl)) rfl rfl hl.1 rfl (lv_room (Nat.le_of_ble_eq_true rfl)) d_L_law_159 ⟨by omega, by omega⟩)) (fun r7 hr7 => ?_)
    subst hr7
    refine W.eq (g2 := F0 m 162 ls [.int (cDep n p0 p1)]) rfl ?_
    have hP : va_P D cls ([oO cJ out fo] ++ ((oT cI cZ o7 dT gT la ca aa na ya ta n ns nn nr (dDep n d p0 p1) (gDep n g p0 p1) sl cr ak no ye tl (cDep n p0 p1) be bp bm bo) ++ u1)) H := ba_Pp pmT.symm hP
    have hD : va_D A ([oO cJ out fo] ++ ((oT cI cZ o7 dT gT la ca aa na ya ta n ns nn nr (dDep n d p0 p1) (gDep n g p0 p1) sl cr ak no ye tl (cDep n p0 p1) be bp bm bo) ++ u1)) := ba_Dp pmT.symm hD
    refine lv_iload hx hb d_L_law_162 (lv_at hl 0 rfl) ?_
    refine lv_icmp_eq (tgt := 169) hx hb d_L_law_164 (by decide) (fun c_164 => ?_) (fun c_164 => ?_)
    · refine lv_goto (tgt := 1049) hx hb d_L_law_169 (by decide) ?_
      exact hk _ _ _ _ _ _ _ _ _ _ _ _ _ _ _ _ _ _ H locs ls hSI hCI hP hD hS (lv_sub hl [1, 2, 3, 4, 5] rfl)
    · exact absurd rfl c_164
  · rw [dDep, gDep, if_neg hn0, if_neg hn0] at hP hD
    have hCI := hpx
    have hP : va_P D cls ((oT cI cZ o7 dT gT la ca aa na ya ta n ns nn nr d g sl cr ak no ye tl (cDep n p0 p1) be bp bm bo) ++ ([oO cJ out fo] ++ u1)) H := hP
    have hD : va_D A ((oT cI cZ o7 dT gT la ca aa na ya ta n ns nn nr d g sl cr ak no ye tl (cDep n p0 p1) be bp bm bo) ++ ([oO cJ out fo] ++ u1)) := hD
    refine W.eq (g2 := F0 m 158 ls []) rfl ?_
    refine lv_aload_n hx hb d_L_law_158 rfl (lv_at hl 3 rfl) ?_
    refine vp_callSi (va_Run.run (va_runV (As := []) (rest := []) hF9 (c_T_thrown_ok l D cI cZ cJ cO o7 dT gT la ca aa na ya ta n ns nn nr d g sl cr ak no ye tl (cDep n p0 p1) be bp bm bo h4 h64 hSI.1) (cwV 0 hg (gv g_691 g_692 g_693 g_26 g_694) rfl rfl rfl (by decide +kernel) ⟨Nat.le_trans (m := 9) (Nat.le_of_ble_eq_true rfl) hR1, Nat.le_trans (m := 260) (Nat.le_of_ble_eq_true rfl) hR2⟩) (pV (ba_Pl hP) hK hN (va_recv hK (ba_Pl hP) (ci := 7) (q0 := 0) rfl rfl)) rfl rfl hl.1 rfl (lv_room (Nat.le_of_ble_eq_true rfl)) d_L_law_159 ⟨by omega, by omega⟩)) (fun r7 hr7 => ?_)
    subst hr7
    refine W.eq (g2 := F0 m 162 ls [.int (cDep n p0 p1)]) rfl ?_
    have hP : va_P D cls ([oO cJ out fo] ++ ((oT cI cZ o7 dT gT la ca aa na ya ta n ns nn nr d g sl cr ak no ye tl (cDep n p0 p1) be bp bm bo) ++ u1)) H := ba_Pp pmT.symm hP
    have hD : va_D A ([oO cJ out fo] ++ ((oT cI cZ o7 dT gT la ca aa na ya ta n ns nn nr d g sl cr ak no ye tl (cDep n p0 p1) be bp bm bo) ++ u1)) := ba_Dp pmT.symm hD
    refine lv_iload hx hb d_L_law_162 (lv_at hl 0 rfl) ?_
    refine lv_icmp_eq (tgt := 169) hx hb d_L_law_164 (by decide) (fun c_164 => ?_) (fun c_164 => ?_)
    · refine lv_goto (tgt := 1049) hx hb d_L_law_169 (by decide) ?_
      exact hk _ _ _ _ _ _ _ _ _ _ _ _ _ _ _ _ _ _ H locs ls hSI hCI hP hD hS (lv_sub hl [1, 2, 3, 4, 5] rfl)
    · exact absurd rfl c_164

set_option maxHeartbeats 4000000 in
set_option maxRecDepth 100000 in
/-- the law's way through place -/
theorem st_place {p : Program} {l : Launch} {e : Env} {R : Room} {s : State} {m : MethodId} {args : Array Value} {below : List Frame} {meth : Method} {c : Code} {Q : State → Prop} {A : Nat → Prop} {D : va_G} {cI cZ cJ cO : ClassId} {e0 mi sa9 ln : Nat} {sc : Nat → Int32} {out o7 dT gT la ca aa na ya ta o n i cells slots : Nat} (hlt : l.stackTraces = false) (hF9 : CallFix p m c c_L_law 8 s args GT "RubbingMirrorsLaw") (hK : va_K D cls (TY cI cZ cJ cO) s) (hN : nW s) (hA : ∀ q, s.heap.size ≤ q → A q) (hU : vx_Zq Bundle.tN "UNASSIGNED_STACK" Bundle.steD A s s.heap) (hV : vx_Zq Bundle.tN "SUPPRESSED_SENTINEL" Bundle.listD A s s.heap) (hsP : sP A e0 mi s s.heap) (hX9 : va_X sa9 ln sc s s.heap) (hb9 : sa9 < s.heap.size) (hbA : ¬ A sa9) (hR1 : 9 ≤ R.frames) (hR2 : 260 ≤ R.locals) (h4 : 4 ≤ n) (h64 : n ≤ 64) (hln : ln < 2 ^ 20) (hin : i + 7 ≤ ln) (hc1 : cells + 3 ≤ R.cells) (hc2 : slots + 40 ≤ R.slots) (hk : LK p l e R s m args below meth c Q A D cI cZ cJ cO e0 sa9 ln sc out o7 dT gT la ca aa na ya ta o n i 1049 (cells + 3) (slots + 40)) : LK p l e R s m args below meth c Q A D cI cZ cJ cO e0 sa9 ln sc out o7 dT gT la ca aa na ya ta o n i 172 cells slots := by
  intro d g ns sl cr nn ak no ye nr tl th be bp bm bo u fo H locs ls hSI hCI hP hD hS hl
  obtain ⟨hx, hb, hml, hown, hg⟩ := hF9
  have hF9 : CallFix p m c c_L_law 8 s args GT "RubbingMirrorsLaw" := ⟨hx, hb, hml, hown, hg⟩
  obtain ⟨p0, hp0⟩ : ∃ x, x = sc (nI i + 1).toNatClampNeg := ⟨_, rfl⟩
  obtain ⟨p1, hp1⟩ : ∃ x, x = sc (nI i + 2).toNatClampNeg := ⟨_, rfl⟩
  refine lv_aload_n hx hb d_L_law_172 rfl (lv_at hl 1 rfl) ?_
  refine lv_aload_n hx hb d_L_law_173 rfl (lv_at hl 0 rfl) ?_
  refine lv_iload hx hb d_L_law_174 (lv_at hl 4 rfl) ?_
  refine lv_iconst (v := 1) hx hb d_L_law_176 (by decide) ?_
  refine lv_iadd hx hb d_L_law_177 ?_
  refine va_sld hx hb hX9 hb9 hbA hS (by rw [show nI i + 1 = nI (i + 1) from nI_k i 1]; exact vp_in_nI (by omega) (by omega)) d_L_law_178 ?_
  rw [← hp0]
  refine lv_aload_n hx hb d_L_law_179 rfl (lv_at hl 0 rfl) ?_
  refine lv_iload hx hb d_L_law_180 (lv_at hl 4 rfl) ?_
  refine lv_iconst (v := 2) hx hb d_L_law_182 (by decide) ?_
  refine lv_iadd hx hb d_L_law_183 ?_
  refine va_sld hx hb hX9 hb9 hbA hS (by rw [show nI i + 2 = nI (i + 2) from nI_k i 2]; exact vp_in_nI (by omega) (by omega)) d_L_law_184 ?_
  rw [← hp1]
  refine lv_aload_n hx hb d_L_law_185 rfl (lv_at hl 3 rfl) ?_
  have hP : va_P D cls (([oO cJ out fo] ++ u) ++ (oT cI cZ o7 dT gT la ca aa na ya ta n ns nn nr d g sl cr ak no ye tl th be bp bm bo)) H := ba_Pp pmL hP
  have hD : va_D A (([oO cJ out fo] ++ u) ++ (oT cI cZ o7 dT gT la ca aa na ya ta n ns nn nr d g sl cr ak no ye tl th be bp bm bo)) := ba_Dp pmL hD
  refine mcalli (wc := ([oO cJ out fo] ++ u)) (wr := (oT cI cZ o7 dT gT la ca aa na ya ta n ns nn nr d g sl cr ak no ye tl th be bp bm bo)) (vx_runSW (As := [.ref o, .int p0, .int p1, .ref out]) (rest := []) hF9 (c_L_place_ok l D cI cZ cJ cO H.size e0 mi o u (CI.o hCI) out fo p0 p1 (cPla n p0 p1) _ _ (K_place l hlt D cI cZ cJ cO e0 mi o n d g ns sl cr nn ak no ye nr tl h4 h64 u hCI  p0 p1) (fun _ _ h => h.1)) (vx_cwSW 4 hg (gqW g_257 g_258 g_17 g_259) rfl rfl rfl (by decide +kernel) ⟨Nat.le_trans (m := 9) (Nat.le_of_ble_eq_true rfl) hR1, Nat.le_trans (m := 260) (Nat.le_of_ble_eq_true rfl) hR2⟩) (kS hP hD hK hN hS hA hU hV hsP) rfl rfl hl.1 rfl (lv_room (Nat.le_of_ble_eq_true rfl)) d_L_law_186 ⟨by omega, by omega⟩) hP hD hS hA (fun r5 u9 H locs hq hP hD hS => ?_)
  obtain ⟨rfl, fo1, u1, rfl, hq⟩ := hq
  have hP : va_P D cls ([oO cJ out fo1] ++ ((oT cI cZ o7 dT gT la ca aa na ya ta n ns nn nr d g sl cr ak no ye tl th be bp bm bo) ++ u1)) H := ba_Pp pmL.symm hP
  have hD : va_D A ([oO cJ out fo1] ++ ((oT cI cZ o7 dT gT la ca aa na ya ta n ns nn nr d g sl cr ak no ye tl th be bp bm bo) ++ u1)) := ba_Dp pmL.symm hD
  refine W.widen (k := cells + 3) (n := slots + 40) (by omega) (by omega) ?_
  refine W.eq (g2 := F0 m 189 ls [.int (cPla n p0 p1)]) rfl ?_
  refine lv_istore (lv' := [(5, .int (cPla n p0 p1)), (0, .ref sa9), (1, .ref o), (2, .ref o7), (3, .ref out), (4, .int (nI i))]) hx hb d_L_law_189 hl (by decide) rfl (fun ls hl => ?_)
  refine lv_aload_n hx hb d_L_law_191 rfl (lv_at hl 3 rfl) ?_
  refine lv_aload_n hx hb d_L_law_192 rfl (lv_at hl 1 rfl) ?_
  refine lv_iload hx hb d_L_law_193 (lv_at hl 5 rfl) ?_
  refine lv_iconst (v := 1) hx hb d_L_law_195 (by decide) ?_
  refine lv_iadd hx hb d_L_law_196 ?_
  refine va_sld hx hb hX9 hb9 hbA hS (by rw [show nI i + 1 = nI (i + 1) from nI_k i 1]; exact vp_in_nI (by omega) (by omega)) d_L_law_197 ?_
  rw [← hp0]
  refine lv_aload_n hx hb d_L_law_198 rfl (lv_at hl 1 rfl) ?_
  refine lv_iload hx hb d_L_law_199 (lv_at hl 5 rfl) ?_
  refine lv_iconst (v := 2) hx hb d_L_law_201 (by decide) ?_
  refine lv_iadd hx hb d_L_law_202 ?_
  refine va_sld hx hb hX9 hb9 hbA hS (by rw [show nI i + 2 = nI (i + 2) from nI_k i 2]; exact vp_in_nI (by omega) (by omega)) d_L_law_203 ?_
  rw [← hp1]
  have hP : va_P D cls ((oT cI cZ o7 dT gT la ca aa na ya ta n ns nn nr d g sl cr ak no ye tl th be bp bm bo) ++ ([oO cJ out fo1] ++ u1)) H := ba_Pp pmT hP
  have hD : va_D A ((oT cI cZ o7 dT gT la ca aa na ya ta n ns nn nr d g sl cr ak no ye tl th be bp bm bo) ++ ([oO cJ out fo1] ++ u1)) := ba_Dp pmT hD
  refine mcalli (wc := (oT cI cZ o7 dT gT la ca aa na ya ta n ns nn nr d g sl cr ak no ye tl th be bp bm bo)) (wr := ([oO cJ out fo1] ++ u1)) (va_runV (As := [.int p0, .int p1]) (rest := []) hF9 (c_T_place_ok l D cI cZ cJ cO H.size o7 dT gT la ca aa na ya ta n ns nn nr d g sl cr ak no ye tl th be bp bm bo h4 h64 hSI.1 p0 p1 ) (cwV 2 hg (gv g_708 g_709 g_710 g_26 g_711) rfl rfl rfl (by decide +kernel) ⟨Nat.le_trans (m := 9) (Nat.le_of_ble_eq_true rfl) hR1, Nat.le_trans (m := 260) (Nat.le_of_ble_eq_true rfl) hR2⟩) (mV (ba_Pl hP) hK hN (ba_Dl hD) (va_recv hK (ba_Pl hP) (ci := 7) (q0 := 0) rfl rfl)) rfl rfl hl.1 rfl (lv_room (Nat.le_of_ble_eq_true rfl)) d_L_law_204 ⟨by omega, by omega⟩) hP hD hS hA (fun r6 u9 H locs hq2 hP hD hS => ?_)
  refine W.widen (k := cells + 3) (n := slots + 40) (by omega) (by omega) ?_
  obtain ⟨rfl, hv⟩ := hq2
  rcases hq with ⟨hc0, r1, hφ, hfo⟩ | ⟨hn0, hpx⟩
  · obtain rfl := hv hc0
    obtain ⟨-, rfl, hCI⟩ := hφ
    have hSI := hSI
    have hP : va_P D cls ((oT cI cZ o7 dT gT la ca aa na ya ta n ns nn nr d g sl cr ak no ye tl (cPla n p0 p1) be bp bm bo) ++ ([oO cJ out fo1] ++ u1)) H := hP
    have hD : va_D A ((oT cI cZ o7 dT gT la ca aa na ya ta n ns nn nr d g sl cr ak no ye tl (cPla n p0 p1) be bp bm bo) ++ ([oO cJ out fo1] ++ u1)) := hD
    refine W.eq (g2 := F0 m 207 ls [.int (aPla d g p0 p1)]) rfl ?_
    refine lv_istore (lv' := [(6, .int (aPla d g p0 p1)), (5, .int (cPla n p0 p1)), (0, .ref sa9), (1, .ref o), (2, .ref o7), (3, .ref out), (4, .int (nI i))]) hx hb d_L_law_207 hl (by decide) rfl (fun ls hl => ?_)
    refine lv_aload_n hx hb d_L_law_209 rfl (lv_at hl 4 rfl) ?_
    refine vp_callSi (va_Run.run (va_runV (As := []) (rest := []) hF9 (c_T_thrown_ok l D cI cZ cJ cO o7 dT gT la ca aa na ya ta n ns nn nr d g sl cr ak no ye tl (cPla n p0 p1) be bp bm bo h4 h64 hSI.1) (cwV 0 hg (gv g_691 g_692 g_693 g_26 g_694) rfl rfl rfl (by decide +kernel) ⟨Nat.le_trans (m := 9) (Nat.le_of_ble_eq_true rfl) hR1, Nat.le_trans (m := 260) (Nat.le_of_ble_eq_true rfl) hR2⟩) (pV (ba_Pl hP) hK hN (va_recv hK (ba_Pl hP) (ci := 7) (q0 := 0) rfl rfl)) rfl rfl hl.1 rfl (lv_room (Nat.le_of_ble_eq_true rfl)) d_L_law_210 ⟨by omega, by omega⟩)) (fun r7 hr7 => ?_)
    subst hr7
    refine W.eq (g2 := F0 m 213 ls [.int (cPla n p0 p1)]) rfl ?_
    have hP : va_P D cls ([oO cJ out fo1] ++ ((oT cI cZ o7 dT gT la ca aa na ya ta n ns nn nr d g sl cr ak no ye tl (cPla n p0 p1) be bp bm bo) ++ u1)) H := ba_Pp pmT.symm hP
    have hD : va_D A ([oO cJ out fo1] ++ ((oT cI cZ o7 dT gT la ca aa na ya ta n ns nn nr d g sl cr ak no ye tl (cPla n p0 p1) be bp bm bo) ++ u1)) := ba_Dp pmT.symm hD
    refine lv_iload hx hb d_L_law_213 (lv_at hl 1 rfl) ?_
    refine lv_icmp_eq (tgt := 220) hx hb d_L_law_215 (by decide) (fun c_215 => ?_) (fun c_215 => ?_)
    · refine lv_iload hx hb d_L_law_220 (lv_at hl 1 rfl) ?_
      refine lv_if_ne (tgt := 237) hx hb d_L_law_222 (by decide) (fun c_222 => ?_) (fun c_222 => ?_)
      · exact absurd hc0 c_222
      · refine lv_aload_n hx hb d_L_law_225 rfl (lv_at hl 5 rfl) ?_
        refine lv_iconst (v := 0) hx hb d_L_law_226 (by decide) ?_
        refine va_lald hx hb hK hP 0 2 rfl rfl (by unfold vp_in; decide) d_L_law_227 ?_
        rw [show fo1 (0 : Int32).toNatClampNeg = (aPla d g p0 p1).toInt64 from hfo]
        refine lv_iload hx hb d_L_law_228 (lv_at hl 0 rfl) ?_
        refine lv_i2l (v := (aPla d g p0 p1).toInt64) hx hb d_L_law_230 rfl ?_
        refine W.lcmp hx hb d_L_law_231 ?_
        refine lv_if_eq (tgt := 237) hx hb d_L_law_232 (by decide) (fun c_232 => ?_) (fun c_232 => ?_)
        · refine lv_goto (tgt := 1049) hx hb d_L_law_237 (by decide) ?_
          exact hk _ _ _ _ _ _ _ _ _ _ _ _ _ _ _ _ _ _ H locs ls hSI hCI hP hD hS (lv_sub hl [2, 3, 4, 5, 6] rfl)
        · exact absurd (cmp_s _) c_232
    · exact absurd rfl c_215
  · have hCI := hpx
    have hP : va_P D cls ((oT cI cZ o7 dT gT la ca aa na ya ta n ns nn nr d g sl cr ak no ye tl (cPla n p0 p1) be bp bm bo) ++ ([oO cJ out fo1] ++ u1)) H := hP
    have hD : va_D A ((oT cI cZ o7 dT gT la ca aa na ya ta n ns nn nr d g sl cr ak no ye tl (cPla n p0 p1) be bp bm bo) ++ ([oO cJ out fo1] ++ u1)) := hD
    refine W.eq (g2 := F0 m 207 ls [.int r6]) rfl ?_
    refine lv_istore (lv' := [(6, .int r6), (5, .int (cPla n p0 p1)), (0, .ref sa9), (1, .ref o), (2, .ref o7), (3, .ref out), (4, .int (nI i))]) hx hb d_L_law_207 hl (by decide) rfl (fun ls hl => ?_)
    refine lv_aload_n hx hb d_L_law_209 rfl (lv_at hl 4 rfl) ?_
    refine vp_callSi (va_Run.run (va_runV (As := []) (rest := []) hF9 (c_T_thrown_ok l D cI cZ cJ cO o7 dT gT la ca aa na ya ta n ns nn nr d g sl cr ak no ye tl (cPla n p0 p1) be bp bm bo h4 h64 hSI.1) (cwV 0 hg (gv g_691 g_692 g_693 g_26 g_694) rfl rfl rfl (by decide +kernel) ⟨Nat.le_trans (m := 9) (Nat.le_of_ble_eq_true rfl) hR1, Nat.le_trans (m := 260) (Nat.le_of_ble_eq_true rfl) hR2⟩) (pV (ba_Pl hP) hK hN (va_recv hK (ba_Pl hP) (ci := 7) (q0 := 0) rfl rfl)) rfl rfl hl.1 rfl (lv_room (Nat.le_of_ble_eq_true rfl)) d_L_law_210 ⟨by omega, by omega⟩)) (fun r7 hr7 => ?_)
    subst hr7
    refine W.eq (g2 := F0 m 213 ls [.int (cPla n p0 p1)]) rfl ?_
    have hP : va_P D cls ([oO cJ out fo1] ++ ((oT cI cZ o7 dT gT la ca aa na ya ta n ns nn nr d g sl cr ak no ye tl (cPla n p0 p1) be bp bm bo) ++ u1)) H := ba_Pp pmT.symm hP
    have hD : va_D A ([oO cJ out fo1] ++ ((oT cI cZ o7 dT gT la ca aa na ya ta n ns nn nr d g sl cr ak no ye tl (cPla n p0 p1) be bp bm bo) ++ u1)) := ba_Dp pmT.symm hD
    refine lv_iload hx hb d_L_law_213 (lv_at hl 1 rfl) ?_
    refine lv_icmp_eq (tgt := 220) hx hb d_L_law_215 (by decide) (fun c_215 => ?_) (fun c_215 => ?_)
    · refine lv_iload hx hb d_L_law_220 (lv_at hl 1 rfl) ?_
      refine lv_if_ne (tgt := 237) hx hb d_L_law_222 (by decide) (fun c_222 => ?_) (fun c_222 => ?_)
      · refine lv_goto (tgt := 1049) hx hb d_L_law_237 (by decide) ?_
        exact hk _ _ _ _ _ _ _ _ _ _ _ _ _ _ _ _ _ _ H locs ls hSI hCI hP hD hS (lv_sub hl [2, 3, 4, 5, 6] rfl)
      · exact absurd c_222 hn0
    · exact absurd rfl c_215

set_option maxHeartbeats 4000000 in
set_option maxRecDepth 100000 in
/-- the law's way through mirror -/
theorem st_mirror {p : Program} {l : Launch} {e : Env} {R : Room} {s : State} {m : MethodId} {args : Array Value} {below : List Frame} {meth : Method} {c : Code} {Q : State → Prop} {A : Nat → Prop} {D : va_G} {cI cZ cJ cO : ClassId} {e0 mi sa9 ln : Nat} {sc : Nat → Int32} {out o7 dT gT la ca aa na ya ta o n i cells slots : Nat} (hlt : l.stackTraces = false) (hF9 : CallFix p m c c_L_law 8 s args GT "RubbingMirrorsLaw") (hK : va_K D cls (TY cI cZ cJ cO) s) (hN : nW s) (hA : ∀ q, s.heap.size ≤ q → A q) (hU : vx_Zq Bundle.tN "UNASSIGNED_STACK" Bundle.steD A s s.heap) (hV : vx_Zq Bundle.tN "SUPPRESSED_SENTINEL" Bundle.listD A s s.heap) (hsP : sP A e0 mi s s.heap) (hX9 : va_X sa9 ln sc s s.heap) (hb9 : sa9 < s.heap.size) (hbA : ¬ A sa9) (hR1 : 9 ≤ R.frames) (hR2 : 260 ≤ R.locals) (h4 : 4 ≤ n) (h64 : n ≤ 64) (hln : ln < 2 ^ 20) (hin : i + 7 ≤ ln) (hc1 : cells + 3 ≤ R.cells) (hc2 : slots + 40 ≤ R.slots) (hk : LK p l e R s m args below meth c Q A D cI cZ cJ cO e0 sa9 ln sc out o7 dT gT la ca aa na ya ta o n i 1049 (cells + 3) (slots + 40)) : LK p l e R s m args below meth c Q A D cI cZ cJ cO e0 sa9 ln sc out o7 dT gT la ca aa na ya ta o n i 240 cells slots := by
  intro d g ns sl cr nn ak no ye nr tl th be bp bm bo u fo H locs ls hSI hCI hP hD hS hl
  obtain ⟨hx, hb, hml, hown, hg⟩ := hF9
  have hF9 : CallFix p m c c_L_law 8 s args GT "RubbingMirrorsLaw" := ⟨hx, hb, hml, hown, hg⟩
  obtain ⟨p0, hp0⟩ : ∃ x, x = sc (nI i + 1).toNatClampNeg := ⟨_, rfl⟩
  refine lv_aload_n hx hb d_L_law_240 rfl (lv_at hl 1 rfl) ?_
  refine lv_aload_n hx hb d_L_law_241 rfl (lv_at hl 0 rfl) ?_
  refine lv_iload hx hb d_L_law_242 (lv_at hl 4 rfl) ?_
  refine lv_iconst (v := 1) hx hb d_L_law_244 (by decide) ?_
  refine lv_iadd hx hb d_L_law_245 ?_
  refine va_sld hx hb hX9 hb9 hbA hS (by rw [show nI i + 1 = nI (i + 1) from nI_k i 1]; exact vp_in_nI (by omega) (by omega)) d_L_law_246 ?_
  rw [← hp0]
  refine lv_aload_n hx hb d_L_law_247 rfl (lv_at hl 3 rfl) ?_
  have hP : va_P D cls (([oO cJ out fo] ++ u) ++ (oT cI cZ o7 dT gT la ca aa na ya ta n ns nn nr d g sl cr ak no ye tl th be bp bm bo)) H := ba_Pp pmL hP
  have hD : va_D A (([oO cJ out fo] ++ u) ++ (oT cI cZ o7 dT gT la ca aa na ya ta n ns nn nr d g sl cr ak no ye tl th be bp bm bo)) := ba_Dp pmL hD
  refine mcalli (wc := ([oO cJ out fo] ++ u)) (wr := (oT cI cZ o7 dT gT la ca aa na ya ta n ns nn nr d g sl cr ak no ye tl th be bp bm bo)) (vx_runSW (As := [.ref o, .int p0, .ref out]) (rest := []) hF9 (c_L_mirror_ok l D cI cZ cJ cO H.size e0 mi o u (CI.o hCI) out fo p0 (cMir (fmT n d g bo bm (2 * n - 1)).1 p0) _ _ (K_mirror l hlt D cI cZ cJ cO e0 mi o n d g ns sl cr nn ak no ye nr tl h4 h64 u hCI hSI.1 bo bm p0) (fun _ _ h => h.1)) (vx_cwSW 3 hg (gqW g_273 g_274 g_17 g_275) rfl rfl rfl (by decide +kernel) ⟨Nat.le_trans (m := 9) (Nat.le_of_ble_eq_true rfl) hR1, Nat.le_trans (m := 260) (Nat.le_of_ble_eq_true rfl) hR2⟩) (kS hP hD hK hN hS hA hU hV hsP) rfl rfl hl.1 rfl (lv_room (Nat.le_of_ble_eq_true rfl)) d_L_law_248 ⟨by omega, by omega⟩) hP hD hS hA (fun r5 u9 H locs hq hP hD hS => ?_)
  obtain ⟨rfl, fo1, u1, rfl, hq⟩ := hq
  have hP : va_P D cls ([oO cJ out fo1] ++ ((oT cI cZ o7 dT gT la ca aa na ya ta n ns nn nr d g sl cr ak no ye tl th be bp bm bo) ++ u1)) H := ba_Pp pmL.symm hP
  have hD : va_D A ([oO cJ out fo1] ++ ((oT cI cZ o7 dT gT la ca aa na ya ta n ns nn nr d g sl cr ak no ye tl th be bp bm bo) ++ u1)) := ba_Dp pmL.symm hD
  refine W.widen (k := cells + 3) (n := slots + 40) (by omega) (by omega) ?_
  refine W.eq (g2 := F0 m 251 ls [.int (cMir (fmT n d g bo bm (2 * n - 1)).1 p0)]) rfl ?_
  refine lv_istore (lv' := [(5, .int (cMir (fmT n d g bo bm (2 * n - 1)).1 p0)), (0, .ref sa9), (1, .ref o), (2, .ref o7), (3, .ref out), (4, .int (nI i))]) hx hb d_L_law_251 hl (by decide) rfl (fun ls hl => ?_)
  refine lv_aload_n hx hb d_L_law_253 rfl (lv_at hl 3 rfl) ?_
  refine lv_aload_n hx hb d_L_law_254 rfl (lv_at hl 1 rfl) ?_
  refine lv_iload hx hb d_L_law_255 (lv_at hl 5 rfl) ?_
  refine lv_iconst (v := 1) hx hb d_L_law_257 (by decide) ?_
  refine lv_iadd hx hb d_L_law_258 ?_
  refine va_sld hx hb hX9 hb9 hbA hS (by rw [show nI i + 1 = nI (i + 1) from nI_k i 1]; exact vp_in_nI (by omega) (by omega)) d_L_law_259 ?_
  rw [← hp0]
  have hP : va_P D cls ((oT cI cZ o7 dT gT la ca aa na ya ta n ns nn nr d g sl cr ak no ye tl th be bp bm bo) ++ ([oO cJ out fo1] ++ u1)) H := ba_Pp pmT hP
  have hD : va_D A ((oT cI cZ o7 dT gT la ca aa na ya ta n ns nn nr d g sl cr ak no ye tl th be bp bm bo) ++ ([oO cJ out fo1] ++ u1)) := ba_Dp pmT hD
  refine mcalll (wc := (oT cI cZ o7 dT gT la ca aa na ya ta n ns nn nr d g sl cr ak no ye tl th be bp bm bo)) (wr := ([oO cJ out fo1] ++ u1)) (va_runV (As := [.int p0]) (rest := []) hF9 (c_T_mirror_ok l D cI cZ cJ cO H.size o7 dT gT la ca aa na ya ta n ns nn nr d g sl cr ak no ye tl th be bp bm bo h4 h64 hSI.1 p0 ) (cwV 1 hg (gv g_712 g_713 g_714 g_26 g_715) rfl rfl rfl (by decide +kernel) ⟨Nat.le_trans (m := 9) (Nat.le_of_ble_eq_true rfl) hR1, Nat.le_trans (m := 260) (Nat.le_of_ble_eq_true rfl) hR2⟩) (mV (ba_Pl hP) hK hN (ba_Dl hD) (va_recv hK (ba_Pl hP) (ci := 7) (q0 := 0) rfl rfl)) rfl rfl hl.1 rfl (lv_room (Nat.le_of_ble_eq_true rfl)) d_L_law_260 ⟨by omega, by omega⟩) hP hD hS hA (fun r6 u9 H locs hq2 hP hD hS => ?_)
  refine W.widen (k := cells + 3) (n := slots + 40) (by omega) (by omega) ?_
  rcases hq2 with ⟨hc, rfl, rfl⟩ | ⟨hn, rfl⟩ <;> rcases hq with ⟨hc0, r1, hφ, hfo⟩ | ⟨hn0, hpx⟩
  · obtain ⟨-, rfl, hCI⟩ := hφ
    have hSI := hSI
    have hP : va_P D cls ((oT cI cZ o7 dT gT la ca aa na ya ta n ns nn nr d g sl cr ak no ye tl 0 ((fmT n d g bo bm (2 * n - 1)).1) bp ((fmT n d g bo bm (2 * n - 1)).2.2) ((fmT n d g bo bm (2 * n - 1)).2.1)) ++ ([oO cJ out fo1] ++ u1)) H := hP
    have hD : va_D A ((oT cI cZ o7 dT gT la ca aa na ya ta n ns nn nr d g sl cr ak no ye tl 0 ((fmT n d g bo bm (2 * n - 1)).1) bp ((fmT n d g bo bm (2 * n - 1)).2.2) ((fmT n d g bo bm (2 * n - 1)).2.1)) ++ ([oO cJ out fo1] ++ u1)) := hD
    refine W.eq (g2 := F0 m 263 ls [.long (aMir (fmT n d g bo bm (2 * n - 1)) p0)]) rfl ?_
    refine lv_lstore (lv' := [(6, .long (aMir (fmT n d g bo bm (2 * n - 1)) p0)), (5, .int (cMir (fmT n d g bo bm (2 * n - 1)).1 p0)), (0, .ref sa9), (1, .ref o), (2, .ref o7), (3, .ref out), (4, .int (nI i))]) hx hb d_L_law_263 hl (by decide) rfl (fun ls hl => ?_)
    refine lv_aload_n hx hb d_L_law_265 rfl (lv_at hl 4 rfl) ?_
    refine vp_callSi (va_Run.run (va_runV (As := []) (rest := []) hF9 (c_T_thrown_ok l D cI cZ cJ cO o7 dT gT la ca aa na ya ta n ns nn nr d g sl cr ak no ye tl 0 ((fmT n d g bo bm (2 * n - 1)).1) bp ((fmT n d g bo bm (2 * n - 1)).2.2) ((fmT n d g bo bm (2 * n - 1)).2.1) h4 h64 hSI.1) (cwV 0 hg (gv g_691 g_692 g_693 g_26 g_694) rfl rfl rfl (by decide +kernel) ⟨Nat.le_trans (m := 9) (Nat.le_of_ble_eq_true rfl) hR1, Nat.le_trans (m := 260) (Nat.le_of_ble_eq_true rfl) hR2⟩) (pV (ba_Pl hP) hK hN (va_recv hK (ba_Pl hP) (ci := 7) (q0 := 0) rfl rfl)) rfl rfl hl.1 rfl (lv_room (Nat.le_of_ble_eq_true rfl)) d_L_law_266 ⟨by omega, by omega⟩)) (fun r7 hr7 => ?_)
    subst hr7
    refine W.eq (g2 := F0 m 269 ls [.int 0]) rfl ?_
    have hP : va_P D cls ([oO cJ out fo1] ++ ((oT cI cZ o7 dT gT la ca aa na ya ta n ns nn nr d g sl cr ak no ye tl 0 ((fmT n d g bo bm (2 * n - 1)).1) bp ((fmT n d g bo bm (2 * n - 1)).2.2) ((fmT n d g bo bm (2 * n - 1)).2.1)) ++ u1)) H := ba_Pp pmT.symm hP
    have hD : va_D A ([oO cJ out fo1] ++ ((oT cI cZ o7 dT gT la ca aa na ya ta n ns nn nr d g sl cr ak no ye tl 0 ((fmT n d g bo bm (2 * n - 1)).1) bp ((fmT n d g bo bm (2 * n - 1)).2.2) ((fmT n d g bo bm (2 * n - 1)).2.1)) ++ u1)) := ba_Dp pmT.symm hD
    refine lv_iload hx hb d_L_law_269 (lv_at hl 1 rfl) ?_
    refine lv_icmp_eq (tgt := 276) hx hb d_L_law_271 (by decide) (fun c_271 => ?_) (fun c_271 => ?_)
    · refine lv_iload hx hb d_L_law_276 (lv_at hl 1 rfl) ?_
      refine lv_if_ne (tgt := 292) hx hb d_L_law_278 (by decide) (fun c_278 => ?_) (fun c_278 => ?_)
      · exact absurd hc0 c_278
      · refine lv_aload_n hx hb d_L_law_281 rfl (lv_at hl 5 rfl) ?_
        refine lv_iconst (v := 0) hx hb d_L_law_282 (by decide) ?_
        refine va_lald hx hb hK hP 0 2 rfl rfl (by unfold vp_in; decide) d_L_law_283 ?_
        rw [show fo1 (0 : Int32).toNatClampNeg = aMir (fmT n d g bo bm (2 * n - 1)) p0 from hfo]
        refine lv_lload hx hb d_L_law_284 (lv_at hl 0 rfl) ?_
        refine W.lcmp hx hb d_L_law_286 ?_
        refine lv_if_eq (tgt := 292) hx hb d_L_law_287 (by decide) (fun c_287 => ?_) (fun c_287 => ?_)
        · refine lv_goto (tgt := 1049) hx hb d_L_law_292 (by decide) ?_
          exact hk _ _ _ _ _ _ _ _ _ _ _ _ _ _ _ _ _ _ H locs ls hSI hCI hP hD hS (lv_sub hl [2, 3, 4, 5, 6] rfl)
        · exact absurd (cmp_s _) c_287
    · exact absurd hc0.symm c_271
  · exact absurd hc hn0
  · exact absurd hc0 hn
  · have hCI := hpx
    have hP : va_P D cls ((oT cI cZ o7 dT gT la ca aa na ya ta n ns nn nr d g sl cr ak no ye tl (cMir (fmT n d g bo bm (2 * n - 1)).1 p0) ((fmT n d g bo bm (2 * n - 1)).1) bp ((fmT n d g bo bm (2 * n - 1)).2.2) ((fmT n d g bo bm (2 * n - 1)).2.1)) ++ ([oO cJ out fo1] ++ u1)) H := hP
    have hD : va_D A ((oT cI cZ o7 dT gT la ca aa na ya ta n ns nn nr d g sl cr ak no ye tl (cMir (fmT n d g bo bm (2 * n - 1)).1 p0) ((fmT n d g bo bm (2 * n - 1)).1) bp ((fmT n d g bo bm (2 * n - 1)).2.2) ((fmT n d g bo bm (2 * n - 1)).2.1)) ++ ([oO cJ out fo1] ++ u1)) := hD
    refine W.eq (g2 := F0 m 263 ls [.long r6]) rfl ?_
    refine lv_lstore (lv' := [(6, .long r6), (5, .int (cMir (fmT n d g bo bm (2 * n - 1)).1 p0)), (0, .ref sa9), (1, .ref o), (2, .ref o7), (3, .ref out), (4, .int (nI i))]) hx hb d_L_law_263 hl (by decide) rfl (fun ls hl => ?_)
    refine lv_aload_n hx hb d_L_law_265 rfl (lv_at hl 4 rfl) ?_
    refine vp_callSi (va_Run.run (va_runV (As := []) (rest := []) hF9 (c_T_thrown_ok l D cI cZ cJ cO o7 dT gT la ca aa na ya ta n ns nn nr d g sl cr ak no ye tl (cMir (fmT n d g bo bm (2 * n - 1)).1 p0) ((fmT n d g bo bm (2 * n - 1)).1) bp ((fmT n d g bo bm (2 * n - 1)).2.2) ((fmT n d g bo bm (2 * n - 1)).2.1) h4 h64 hSI.1) (cwV 0 hg (gv g_691 g_692 g_693 g_26 g_694) rfl rfl rfl (by decide +kernel) ⟨Nat.le_trans (m := 9) (Nat.le_of_ble_eq_true rfl) hR1, Nat.le_trans (m := 260) (Nat.le_of_ble_eq_true rfl) hR2⟩) (pV (ba_Pl hP) hK hN (va_recv hK (ba_Pl hP) (ci := 7) (q0 := 0) rfl rfl)) rfl rfl hl.1 rfl (lv_room (Nat.le_of_ble_eq_true rfl)) d_L_law_266 ⟨by omega, by omega⟩)) (fun r7 hr7 => ?_)
    subst hr7
    refine W.eq (g2 := F0 m 269 ls [.int (cMir (fmT n d g bo bm (2 * n - 1)).1 p0)]) rfl ?_
    have hP : va_P D cls ([oO cJ out fo1] ++ ((oT cI cZ o7 dT gT la ca aa na ya ta n ns nn nr d g sl cr ak no ye tl (cMir (fmT n d g bo bm (2 * n - 1)).1 p0) ((fmT n d g bo bm (2 * n - 1)).1) bp ((fmT n d g bo bm (2 * n - 1)).2.2) ((fmT n d g bo bm (2 * n - 1)).2.1)) ++ u1)) H := ba_Pp pmT.symm hP
    have hD : va_D A ([oO cJ out fo1] ++ ((oT cI cZ o7 dT gT la ca aa na ya ta n ns nn nr d g sl cr ak no ye tl (cMir (fmT n d g bo bm (2 * n - 1)).1 p0) ((fmT n d g bo bm (2 * n - 1)).1) bp ((fmT n d g bo bm (2 * n - 1)).2.2) ((fmT n d g bo bm (2 * n - 1)).2.1)) ++ u1)) := ba_Dp pmT.symm hD
    refine lv_iload hx hb d_L_law_269 (lv_at hl 1 rfl) ?_
    refine lv_icmp_eq (tgt := 276) hx hb d_L_law_271 (by decide) (fun c_271 => ?_) (fun c_271 => ?_)
    · refine lv_iload hx hb d_L_law_276 (lv_at hl 1 rfl) ?_
      refine lv_if_ne (tgt := 292) hx hb d_L_law_278 (by decide) (fun c_278 => ?_) (fun c_278 => ?_)
      · refine lv_goto (tgt := 1049) hx hb d_L_law_292 (by decide) ?_
        exact hk _ _ _ _ _ _ _ _ _ _ _ _ _ _ _ _ _ _ H locs ls hSI hCI hP hD hS (lv_sub hl [2, 3, 4, 5, 6] rfl)
      · exact absurd c_278 hn0
    · exact absurd rfl c_271

set_option maxHeartbeats 4000000 in
set_option maxRecDepth 100000 in
/-- the law's way through sum -/
theorem st_sum {p : Program} {l : Launch} {e : Env} {R : Room} {s : State} {m : MethodId} {args : Array Value} {below : List Frame} {meth : Method} {c : Code} {Q : State → Prop} {A : Nat → Prop} {D : va_G} {cI cZ cJ cO : ClassId} {e0 mi sa9 ln : Nat} {sc : Nat → Int32} {out o7 dT gT la ca aa na ya ta o n i cells slots : Nat} (hlt : l.stackTraces = false) (hF9 : CallFix p m c c_L_law 8 s args GT "RubbingMirrorsLaw") (hK : va_K D cls (TY cI cZ cJ cO) s) (hN : nW s) (hA : ∀ q, s.heap.size ≤ q → A q) (hU : vx_Zq Bundle.tN "UNASSIGNED_STACK" Bundle.steD A s s.heap) (hV : vx_Zq Bundle.tN "SUPPRESSED_SENTINEL" Bundle.listD A s s.heap) (hsP : sP A e0 mi s s.heap) (hX9 : va_X sa9 ln sc s s.heap) (hb9 : sa9 < s.heap.size) (hbA : ¬ A sa9) (hR1 : 9 ≤ R.frames) (hR2 : 260 ≤ R.locals) (h4 : 4 ≤ n) (h64 : n ≤ 64) (hln : ln < 2 ^ 20) (hin : i + 7 ≤ ln) (hc1 : cells + 3 ≤ R.cells) (hc2 : slots + 40 ≤ R.slots) (hk : LK p l e R s m args below meth c Q A D cI cZ cJ cO e0 sa9 ln sc out o7 dT gT la ca aa na ya ta o n i 1049 (cells + 3) (slots + 40)) : LK p l e R s m args below meth c Q A D cI cZ cJ cO e0 sa9 ln sc out o7 dT gT la ca aa na ya ta o n i 295 cells slots := by
  intro d g ns sl cr nn ak no ye nr tl th be bp bm bo u fo H locs ls hSI hCI hP hD hS hl
  obtain ⟨hx, hb, hml, hown, hg⟩ := hF9
  have hF9 : CallFix p m c c_L_law 8 s args GT "RubbingMirrorsLaw" := ⟨hx, hb, hml, hown, hg⟩
  obtain ⟨p0, hp0⟩ : ∃ x, x = sc (nI i + 1).toNatClampNeg := ⟨_, rfl⟩
  refine lv_aload_n hx hb d_L_law_295 rfl (lv_at hl 1 rfl) ?_
  refine lv_aload_n hx hb d_L_law_296 rfl (lv_at hl 0 rfl) ?_
  refine lv_iload hx hb d_L_law_297 (lv_at hl 4 rfl) ?_
  refine lv_iconst (v := 1) hx hb d_L_law_299 (by decide) ?_
  refine lv_iadd hx hb d_L_law_300 ?_
  refine va_sld hx hb hX9 hb9 hbA hS (by rw [show nI i + 1 = nI (i + 1) from nI_k i 1]; exact vp_in_nI (by omega) (by omega)) d_L_law_301 ?_
  rw [← hp0]
  refine lv_aload_n hx hb d_L_law_302 rfl (lv_at hl 3 rfl) ?_
  have hP : va_P D cls (([oO cJ out fo] ++ u) ++ (oT cI cZ o7 dT gT la ca aa na ya ta n ns nn nr d g sl cr ak no ye tl th be bp bm bo)) H := ba_Pp pmL hP
  have hD : va_D A (([oO cJ out fo] ++ u) ++ (oT cI cZ o7 dT gT la ca aa na ya ta n ns nn nr d g sl cr ak no ye tl th be bp bm bo)) := ba_Dp pmL hD
  refine mcalli (wc := ([oO cJ out fo] ++ u)) (wr := (oT cI cZ o7 dT gT la ca aa na ya ta n ns nn nr d g sl cr ak no ye tl th be bp bm bo)) (vx_runSW (As := [.ref o, .int p0, .ref out]) (rest := []) hF9 (c_L_sum_ok l D cI cZ cJ cO H.size e0 mi o u (CI.o hCI) out fo p0 (cSum n p0) _ _ (K_sum l hlt D cI cZ cJ cO e0 mi o n d g ns sl cr nn ak no ye nr tl h4 h64 u hCI  p0) (fun _ _ h => h.1)) (vx_cwSW 3 hg (gqW g_333 g_334 g_17 g_335) rfl rfl rfl (by decide +kernel) ⟨Nat.le_trans (m := 9) (Nat.le_of_ble_eq_true rfl) hR1, Nat.le_trans (m := 260) (Nat.le_of_ble_eq_true rfl) hR2⟩) (kS hP hD hK hN hS hA hU hV hsP) rfl rfl hl.1 rfl (lv_room (Nat.le_of_ble_eq_true rfl)) d_L_law_303 ⟨by omega, by omega⟩) hP hD hS hA (fun r5 u9 H locs hq hP hD hS => ?_)
  obtain ⟨rfl, fo1, u1, rfl, hq⟩ := hq
  have hP : va_P D cls ([oO cJ out fo1] ++ ((oT cI cZ o7 dT gT la ca aa na ya ta n ns nn nr d g sl cr ak no ye tl th be bp bm bo) ++ u1)) H := ba_Pp pmL.symm hP
  have hD : va_D A ([oO cJ out fo1] ++ ((oT cI cZ o7 dT gT la ca aa na ya ta n ns nn nr d g sl cr ak no ye tl th be bp bm bo) ++ u1)) := ba_Dp pmL.symm hD
  refine W.widen (k := cells + 3) (n := slots + 40) (by omega) (by omega) ?_
  refine W.eq (g2 := F0 m 306 ls [.int (cSum n p0)]) rfl ?_
  refine lv_istore (lv' := [(5, .int (cSum n p0)), (0, .ref sa9), (1, .ref o), (2, .ref o7), (3, .ref out), (4, .int (nI i))]) hx hb d_L_law_306 hl (by decide) rfl (fun ls hl => ?_)
  refine lv_aload_n hx hb d_L_law_308 rfl (lv_at hl 3 rfl) ?_
  refine lv_aload_n hx hb d_L_law_309 rfl (lv_at hl 1 rfl) ?_
  refine lv_iload hx hb d_L_law_310 (lv_at hl 5 rfl) ?_
  refine lv_iconst (v := 1) hx hb d_L_law_312 (by decide) ?_
  refine lv_iadd hx hb d_L_law_313 ?_
  refine va_sld hx hb hX9 hb9 hbA hS (by rw [show nI i + 1 = nI (i + 1) from nI_k i 1]; exact vp_in_nI (by omega) (by omega)) d_L_law_314 ?_
  rw [← hp0]
  have hP : va_P D cls ((oT cI cZ o7 dT gT la ca aa na ya ta n ns nn nr d g sl cr ak no ye tl th be bp bm bo) ++ ([oO cJ out fo1] ++ u1)) H := ba_Pp pmT hP
  have hD : va_D A ((oT cI cZ o7 dT gT la ca aa na ya ta n ns nn nr d g sl cr ak no ye tl th be bp bm bo) ++ ([oO cJ out fo1] ++ u1)) := ba_Dp pmT hD
  refine mcalll (wc := (oT cI cZ o7 dT gT la ca aa na ya ta n ns nn nr d g sl cr ak no ye tl th be bp bm bo)) (wr := ([oO cJ out fo1] ++ u1)) (va_runV (As := [.int p0]) (rest := []) hF9 (c_T_sum_ok l D cI cZ cJ cO H.size o7 dT gT la ca aa na ya ta n ns nn nr d g sl cr ak no ye tl th be bp bm bo h4 h64 hSI.1 p0 ) (cwV 1 hg (gv g_729 g_730 g_731 g_26 g_732) rfl rfl rfl (by decide +kernel) ⟨Nat.le_trans (m := 9) (Nat.le_of_ble_eq_true rfl) hR1, Nat.le_trans (m := 260) (Nat.le_of_ble_eq_true rfl) hR2⟩) (mV (ba_Pl hP) hK hN (ba_Dl hD) (va_recv hK (ba_Pl hP) (ci := 7) (q0 := 0) rfl rfl)) rfl rfl hl.1 rfl (lv_room (Nat.le_of_ble_eq_true rfl)) d_L_law_315 ⟨by omega, by omega⟩) hP hD hS hA (fun r6 u9 H locs hq2 hP hD hS => ?_)
  refine W.widen (k := cells + 3) (n := slots + 40) (by omega) (by omega) ?_
  obtain ⟨rfl, hv⟩ := hq2
  rcases hq with ⟨hc0, r1, hφ, hfo⟩ | ⟨hn0, hpx⟩
  · obtain rfl := hv hc0
    obtain ⟨-, rfl, hCI⟩ := hφ
    have hSI := hSI
    have hP : va_P D cls ((oT cI cZ o7 dT gT la ca aa na ya ta n ns nn nr d g sl cr ak no ye tl (cSum n p0) be bp bm bo) ++ ([oO cJ out fo1] ++ u1)) H := hP
    have hD : va_D A ((oT cI cZ o7 dT gT la ca aa na ya ta n ns nn nr d g sl cr ak no ye tl (cSum n p0) be bp bm bo) ++ ([oO cJ out fo1] ++ u1)) := hD
    refine W.eq (g2 := F0 m 318 ls [.long (rsv n d g p0.toNatClampNeg)]) rfl ?_
    refine lv_lstore (lv' := [(6, .long (rsv n d g p0.toNatClampNeg)), (5, .int (cSum n p0)), (0, .ref sa9), (1, .ref o), (2, .ref o7), (3, .ref out), (4, .int (nI i))]) hx hb d_L_law_318 hl (by decide) rfl (fun ls hl => ?_)
    refine lv_aload_n hx hb d_L_law_320 rfl (lv_at hl 4 rfl) ?_
    refine vp_callSi (va_Run.run (va_runV (As := []) (rest := []) hF9 (c_T_thrown_ok l D cI cZ cJ cO o7 dT gT la ca aa na ya ta n ns nn nr d g sl cr ak no ye tl (cSum n p0) be bp bm bo h4 h64 hSI.1) (cwV 0 hg (gv g_691 g_692 g_693 g_26 g_694) rfl rfl rfl (by decide +kernel) ⟨Nat.le_trans (m := 9) (Nat.le_of_ble_eq_true rfl) hR1, Nat.le_trans (m := 260) (Nat.le_of_ble_eq_true rfl) hR2⟩) (pV (ba_Pl hP) hK hN (va_recv hK (ba_Pl hP) (ci := 7) (q0 := 0) rfl rfl)) rfl rfl hl.1 rfl (lv_room (Nat.le_of_ble_eq_true rfl)) d_L_law_321 ⟨by omega, by omega⟩)) (fun r7 hr7 => ?_)
    subst hr7
    refine W.eq (g2 := F0 m 324 ls [.int (cSum n p0)]) rfl ?_
    have hP : va_P D cls ([oO cJ out fo1] ++ ((oT cI cZ o7 dT gT la ca aa na ya ta n ns nn nr d g sl cr ak no ye tl (cSum n p0) be bp bm bo) ++ u1)) H := ba_Pp pmT.symm hP
    have hD : va_D A ([oO cJ out fo1] ++ ((oT cI cZ o7 dT gT la ca aa na ya ta n ns nn nr d g sl cr ak no ye tl (cSum n p0) be bp bm bo) ++ u1)) := ba_Dp pmT.symm hD
    refine lv_iload hx hb d_L_law_324 (lv_at hl 1 rfl) ?_
    refine lv_icmp_eq (tgt := 331) hx hb d_L_law_326 (by decide) (fun c_326 => ?_) (fun c_326 => ?_)
    · refine lv_iload hx hb d_L_law_331 (lv_at hl 1 rfl) ?_
      refine lv_if_ne (tgt := 347) hx hb d_L_law_333 (by decide) (fun c_333 => ?_) (fun c_333 => ?_)
      · exact absurd hc0 c_333
      · refine lv_aload_n hx hb d_L_law_336 rfl (lv_at hl 5 rfl) ?_
        refine lv_iconst (v := 0) hx hb d_L_law_337 (by decide) ?_
        refine va_lald hx hb hK hP 0 2 rfl rfl (by unfold vp_in; decide) d_L_law_338 ?_
        rw [show fo1 (0 : Int32).toNatClampNeg = rsv n d g p0.toNatClampNeg from hfo]
        refine lv_lload hx hb d_L_law_339 (lv_at hl 0 rfl) ?_
        refine W.lcmp hx hb d_L_law_341 ?_
        refine lv_if_eq (tgt := 347) hx hb d_L_law_342 (by decide) (fun c_342 => ?_) (fun c_342 => ?_)
        · refine lv_goto (tgt := 1049) hx hb d_L_law_347 (by decide) ?_
          exact hk _ _ _ _ _ _ _ _ _ _ _ _ _ _ _ _ _ _ H locs ls hSI hCI hP hD hS (lv_sub hl [2, 3, 4, 5, 6] rfl)
        · exact absurd (cmp_s _) c_342
    · exact absurd rfl c_326
  · have hCI := hpx
    have hP : va_P D cls ((oT cI cZ o7 dT gT la ca aa na ya ta n ns nn nr d g sl cr ak no ye tl (cSum n p0) be bp bm bo) ++ ([oO cJ out fo1] ++ u1)) H := hP
    have hD : va_D A ((oT cI cZ o7 dT gT la ca aa na ya ta n ns nn nr d g sl cr ak no ye tl (cSum n p0) be bp bm bo) ++ ([oO cJ out fo1] ++ u1)) := hD
    refine W.eq (g2 := F0 m 318 ls [.long r6]) rfl ?_
    refine lv_lstore (lv' := [(6, .long r6), (5, .int (cSum n p0)), (0, .ref sa9), (1, .ref o), (2, .ref o7), (3, .ref out), (4, .int (nI i))]) hx hb d_L_law_318 hl (by decide) rfl (fun ls hl => ?_)
    refine lv_aload_n hx hb d_L_law_320 rfl (lv_at hl 4 rfl) ?_
    refine vp_callSi (va_Run.run (va_runV (As := []) (rest := []) hF9 (c_T_thrown_ok l D cI cZ cJ cO o7 dT gT la ca aa na ya ta n ns nn nr d g sl cr ak no ye tl (cSum n p0) be bp bm bo h4 h64 hSI.1) (cwV 0 hg (gv g_691 g_692 g_693 g_26 g_694) rfl rfl rfl (by decide +kernel) ⟨Nat.le_trans (m := 9) (Nat.le_of_ble_eq_true rfl) hR1, Nat.le_trans (m := 260) (Nat.le_of_ble_eq_true rfl) hR2⟩) (pV (ba_Pl hP) hK hN (va_recv hK (ba_Pl hP) (ci := 7) (q0 := 0) rfl rfl)) rfl rfl hl.1 rfl (lv_room (Nat.le_of_ble_eq_true rfl)) d_L_law_321 ⟨by omega, by omega⟩)) (fun r7 hr7 => ?_)
    subst hr7
    refine W.eq (g2 := F0 m 324 ls [.int (cSum n p0)]) rfl ?_
    have hP : va_P D cls ([oO cJ out fo1] ++ ((oT cI cZ o7 dT gT la ca aa na ya ta n ns nn nr d g sl cr ak no ye tl (cSum n p0) be bp bm bo) ++ u1)) H := ba_Pp pmT.symm hP
    have hD : va_D A ([oO cJ out fo1] ++ ((oT cI cZ o7 dT gT la ca aa na ya ta n ns nn nr d g sl cr ak no ye tl (cSum n p0) be bp bm bo) ++ u1)) := ba_Dp pmT.symm hD
    refine lv_iload hx hb d_L_law_324 (lv_at hl 1 rfl) ?_
    refine lv_icmp_eq (tgt := 331) hx hb d_L_law_326 (by decide) (fun c_326 => ?_) (fun c_326 => ?_)
    · refine lv_iload hx hb d_L_law_331 (lv_at hl 1 rfl) ?_
      refine lv_if_ne (tgt := 347) hx hb d_L_law_333 (by decide) (fun c_333 => ?_) (fun c_333 => ?_)
      · refine lv_goto (tgt := 1049) hx hb d_L_law_347 (by decide) ?_
        exact hk _ _ _ _ _ _ _ _ _ _ _ _ _ _ _ _ _ _ H locs ls hSI hCI hP hD hS (lv_sub hl [2, 3, 4, 5, 6] rfl)
      · exact absurd c_333 hn0
    · exact absurd rfl c_326
