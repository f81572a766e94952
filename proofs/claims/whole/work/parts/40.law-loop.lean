
theorem and15 (x : Int32) : ∃ k, k < 16 ∧ x &&& 15 = nI k := by
  refine ⟨x.toBitVec.toNat % 16, Nat.mod_lt _ (by omega), ?_⟩
  apply Int32.toBitVec_inj.mp
  apply BitVec.eq_of_toNat_eq
  rw [Int32.toBitVec_and, BitVec.toNat_and]
  have h1 : (15 : Int32).toBitVec.toNat = 2 ^ 4 - 1 := rfl
  rw [h1, Nat.and_two_pow_sub_one_eq_mod]
  have h2 : x.toBitVec.toNat % 16 < 2 ^ 32 := by omega
  show x.toBitVec.toNat % 16 = (BitVec.ofNat 32 (x.toBitVec.toNat % 16)).toNat
  rw [BitVec.toNat_ofNat, Nat.mod_eq_of_lt h2]
theorem lt16 {k : Nat} (h : k < 16) : k = 0 ∨ k = 1 ∨ k = 2 ∨ k = 3 ∨ k = 4 ∨ k = 5 ∨ k = 6 ∨ k = 7 ∨ k = 8 ∨ k = 9 ∨ k = 10 ∨ k = 11 ∨ k = 12 ∨ k = 13 ∨ k = 14 ∨ k = 15 := by omega
theorem hd_out {i ln : Nat} (hi : i < 2 ^ 20) (hl : ln < 2 ^ 20) (h : ¬ nI ln - 7 < nI i) : i + 7 ≤ ln := by
  have e7 : (7 : Int32).toInt = 7 := rfl
  rw [ilt, s32 (by rw [nI_toInt (by omega), e7]; omega) (by rw [nI_toInt (by omega), e7]; omega), nI_toInt (by omega), nI_toInt (by omega), e7] at h
  omega
theorem lk_wide {p : Program} {l : Launch} {e : Env} {R : Room} {s : State} {m : MethodId} {args : Array Value} {below : List Frame} {meth : Method} {c : Code} {Q : State → Prop} {A : Nat → Prop} {D : va_G} {cI cZ cJ cO : ClassId} {e0 sa9 ln : Nat} {sc : Nat → Int32} {out o7 dT gT la ca aa na ya ta o n i pc cells slots k t : Nat} (h1 : cells ≤ k) (h2 : slots ≤ t) (h : LK p l e R s m args below meth c Q A D cI cZ cJ cO e0 sa9 ln sc out o7 dT gT la ca aa na ya ta o n i pc k t) : LK p l e R s m args below meth c Q A D cI cZ cJ cO e0 sa9 ln sc out o7 dT gT la ca aa na ya ta o n i pc cells slots := by
  intro d g ns sl cr nn ak no ye nr tl th be bp bm bo u fo H locs ls hSI hCI hP hD hS hl
  exact W.widen (k := k) (n := t) h1 h2 (h d g ns sl cr nn ak no ye nr tl th be bp bm bo u fo H locs ls hSI hCI hP hD hS hl)

set_option maxHeartbeats 4000000 in
set_option maxRecDepth 100000 in
theorem law_head {p : Program} {l : Launch} {e : Env} {R : Room} {s : State} {m : MethodId} {args : Array Value} {below : List Frame} {meth : Method} {c : Code} {Q : State → Prop} {A : Nat → Prop} {D : va_G} {cI cZ cJ cO : ClassId} {e0 mi sa9 ln : Nat} {sc : Nat → Int32} {out o7 dT gT la ca aa na ya ta o n i cells slots : Nat} (hlt : l.stackTraces = false) (hF9 : CallFix p m c c_L_law 8 s args GT "RubbingMirrorsLaw") (hK : va_K D cls (TY cI cZ cJ cO) s) (hN : nW s) (hA : ∀ q, s.heap.size ≤ q → A q) (hU : vx_Zq Bundle.tN "UNASSIGNED_STACK" Bundle.steD A s s.heap) (hV : vx_Zq Bundle.tN "SUPPRESSED_SENTINEL" Bundle.listD A s s.heap) (hsP : sP A e0 mi s s.heap) (hX9 : va_X sa9 ln sc s s.heap) (hb9 : sa9 < s.heap.size) (hbA : ¬ A sa9) (hR1 : 9 ≤ R.frames) (hR2 : 260 ≤ R.locals) (h4 : 4 ≤ n) (h64 : n ≤ 64) (hln : ln < 2 ^ 20) (hi : i < 2 ^ 20) (hend : LK p l e R s m args below meth c Q A D cI cZ cJ cO e0 sa9 ln sc out o7 dT gT la ca aa na ya ta o n i 1055 cells slots) (hgo : i + 7 ≤ ln → LK p l e R s m args below meth c Q A D cI cZ cJ cO e0 sa9 ln sc out o7 dT gT la ca aa na ya ta o n i 43 cells slots) : LK p l e R s m args below meth c Q A D cI cZ cJ cO e0 sa9 ln sc out o7 dT gT la ca aa na ya ta o n i 33 cells slots := by
  intro d g ns sl cr nn ak no ye nr tl th be bp bm bo u fo H locs ls hSI hCI hP hD hS hl
  obtain ⟨hx, hb, hml, hown, hg⟩ := hF9
  refine lv_iload hx hb d_L_law_33 (lv_at hl 4 rfl) ?_
  refine lv_aload_n hx hb d_L_law_35 rfl (lv_at hl 0 rfl) ?_
  refine va_slen hx hb hX9 hb9 hbA hS d_L_law_36 ?_
  refine W.eq (g2 := F0 m 37 ls [.int (nI ln), .int (nI i)]) rfl ?_
  refine lv_bipush (v := 7) hx hb d_L_law_37 (by decide) ?_
  refine lv_isub hx hb d_L_law_39 ?_
  refine lv_icmp_gt (tgt := 1055) hx hb d_L_law_40 (by decide) (fun c_40 => ?_) (fun c_40 => ?_)
  · exact hend d g ns sl cr nn ak no ye nr tl th be bp bm bo u fo H locs ls hSI hCI hP hD hS (lv_sub hl [0, 1, 2, 3, 4] rfl)
  · have hin : i + 7 ≤ ln := hd_out hi hln c_40
    exact (hgo hin) d g ns sl cr nn ak no ye nr tl th be bp bm bo u fo H locs ls hSI hCI hP hD hS (lv_sub hl [0, 1, 2, 3, 4] rfl)

set_option maxHeartbeats 4000000 in
set_option maxRecDepth 100000 in
theorem law_switch {p : Program} {l : Launch} {e : Env} {R : Room} {s : State} {m : MethodId} {args : Array Value} {below : List Frame} {meth : Method} {c : Code} {Q : State → Prop} {A : Nat → Prop} {D : va_G} {cI cZ cJ cO : ClassId} {e0 mi sa9 ln : Nat} {sc : Nat → Int32} {out o7 dT gT la ca aa na ya ta o n i cells slots : Nat} (hlt : l.stackTraces = false) (hF9 : CallFix p m c c_L_law 8 s args GT "RubbingMirrorsLaw") (hK : va_K D cls (TY cI cZ cJ cO) s) (hN : nW s) (hA : ∀ q, s.heap.size ≤ q → A q) (hU : vx_Zq Bundle.tN "UNASSIGNED_STACK" Bundle.steD A s s.heap) (hV : vx_Zq Bundle.tN "SUPPRESSED_SENTINEL" Bundle.listD A s s.heap) (hsP : sP A e0 mi s s.heap) (hX9 : va_X sa9 ln sc s s.heap) (hb9 : sa9 < s.heap.size) (hbA : ¬ A sa9) (hR1 : 9 ≤ R.frames) (hR2 : 260 ≤ R.locals) (h4 : 4 ≤ n) (h64 : n ≤ 64) (hln : ln < 2 ^ 20) (hin : i + 7 ≤ ln) (h0 : LK p l e R s m args below meth c Q A D cI cZ cJ cO e0 sa9 ln sc out o7 dT gT la ca aa na ya ta o n i 124 cells slots) (h1 : LK p l e R s m args below meth c Q A D cI cZ cJ cO e0 sa9 ln sc out o7 dT gT la ca aa na ya ta o n i 172 cells slots) (h2 : LK p l e R s m args below meth c Q A D cI cZ cJ cO e0 sa9 ln sc out o7 dT gT la ca aa na ya ta o n i 240 cells slots) (h3 : LK p l e R s m args below meth c Q A D cI cZ cJ cO e0 sa9 ln sc out o7 dT gT la ca aa na ya ta o n i 295 cells slots) (h4 : LK p l e R s m args below meth c Q A D cI cZ cJ cO e0 sa9 ln sc out o7 dT gT la ca aa na ya ta o n i 350 cells slots) (h5 : LK p l e R s m args below meth c Q A D cI cZ cJ cO e0 sa9 ln sc out o7 dT gT la ca aa na ya ta o n i 418 cells slots) (h6 : LK p l e R s m args below meth c Q A D cI cZ cJ cO e0 sa9 ln sc out o7 dT gT la ca aa na ya ta o n i 486 cells slots) (h7 : LK p l e R s m args below meth c Q A D cI cZ cJ cO e0 sa9 ln sc out o7 dT gT la ca aa na ya ta o n i 499 cells slots) (h8 : LK p l e R s m args below meth c Q A D cI cZ cJ cO e0 sa9 ln sc out o7 dT gT la ca aa na ya ta o n i 555 cells slots) (h9 : LK p l e R s m args below meth c Q A D cI cZ cJ cO e0 sa9 ln sc out o7 dT gT la ca aa na ya ta o n i 615 cells slots) (h10 : LK p l e R s m args below meth c Q A D cI cZ cJ cO e0 sa9 ln sc out o7 dT gT la ca aa na ya ta o n i 671 cells slots) (h11 : LK p l e R s m args below meth c Q A D cI cZ cJ cO e0 sa9 ln sc out o7 dT gT la ca aa na ya ta o n i 727 cells slots) (h12 : LK p l e R s m args below meth c Q A D cI cZ cJ cO e0 sa9 ln sc out o7 dT gT la ca aa na ya ta o n i 807 cells slots) (h13 : LK p l e R s m args below meth c Q A D cI cZ cJ cO e0 sa9 ln sc out o7 dT gT la ca aa na ya ta o n i 875 cells slots) (h14 : LK p l e R s m args below meth c Q A D cI cZ cJ cO e0 sa9 ln sc out o7 dT gT la ca aa na ya ta o n i 993 cells slots) (h15 : LK p l e R s m args below meth c Q A D cI cZ cJ cO e0 sa9 ln sc out o7 dT gT la ca aa na ya ta o n i 1049 cells slots) : LK p l e R s m args below meth c Q A D cI cZ cJ cO e0 sa9 ln sc out o7 dT gT la ca aa na ya ta o n i 43 cells slots := by
  intro d g ns sl cr nn ak no ye nr tl th be bp bm bo u fo H locs ls hSI hCI hP hD hS hl
  obtain ⟨hx, hb, hml, hown, hg⟩ := hF9
  refine lv_aload_n hx hb d_L_law_43 rfl (lv_at hl 0 rfl) ?_
  refine lv_iload hx hb d_L_law_44 (lv_at hl 4 rfl) ?_
  refine va_sld hx hb hX9 hb9 hbA hS (vp_in_nI (by omega) (by omega)) d_L_law_46 ?_
  refine lv_bipush (v := 15) hx hb d_L_law_47 (by decide) ?_
  refine lv_iand hx hb d_L_law_49 ?_
  obtain ⟨k, hk16, hk⟩ := and15 (sc (nI i).toNatClampNeg)
  rw [hk]
  rcases lt16 hk16 with rfl | rfl | rfl | rfl | rfl | rfl | rfl | rfl | rfl | rfl | rfl | rfl | rfl | rfl | rfl | rfl
  · refine lv_tableIn (tgt := 124) (off := 74) hx hb d_L_law_50 (by decide) (by decide) rfl (by decide) ?_
    exact h0 d g ns sl cr nn ak no ye nr tl th be bp bm bo u fo H locs ls hSI hCI hP hD hS (lv_sub hl [0, 1, 2, 3, 4] rfl)
  · refine lv_tableIn (tgt := 172) (off := 122) hx hb d_L_law_50 (by decide) (by decide) rfl (by decide) ?_
    exact h1 d g ns sl cr nn ak no ye nr tl th be bp bm bo u fo H locs ls hSI hCI hP hD hS (lv_sub hl [0, 1, 2, 3, 4] rfl)
  · refine lv_tableIn (tgt := 240) (off := 190) hx hb d_L_law_50 (by decide) (by decide) rfl (by decide) ?_
    exact h2 d g ns sl cr nn ak no ye nr tl th be bp bm bo u fo H locs ls hSI hCI hP hD hS (lv_sub hl [0, 1, 2, 3, 4] rfl)
  · refine lv_tableIn (tgt := 295) (off := 245) hx hb d_L_law_50 (by decide) (by decide) rfl (by decide) ?_
    exact h3 d g ns sl cr nn ak no ye nr tl th be bp bm bo u fo H locs ls hSI hCI hP hD hS (lv_sub hl [0, 1, 2, 3, 4] rfl)
  · refine lv_tableIn (tgt := 350) (off := 300) hx hb d_L_law_50 (by decide) (by decide) rfl (by decide) ?_
    exact h4 d g ns sl cr nn ak no ye nr tl th be bp bm bo u fo H locs ls hSI hCI hP hD hS (lv_sub hl [0, 1, 2, 3, 4] rfl)
  · refine lv_tableIn (tgt := 418) (off := 368) hx hb d_L_law_50 (by decide) (by decide) rfl (by decide) ?_
    exact h5 d g ns sl cr nn ak no ye nr tl th be bp bm bo u fo H locs ls hSI hCI hP hD hS (lv_sub hl [0, 1, 2, 3, 4] rfl)
  · refine lv_tableIn (tgt := 486) (off := 436) hx hb d_L_law_50 (by decide) (by decide) rfl (by decide) ?_
    exact h6 d g ns sl cr nn ak no ye nr tl th be bp bm bo u fo H locs ls hSI hCI hP hD hS (lv_sub hl [0, 1, 2, 3, 4] rfl)
  · refine lv_tableIn (tgt := 499) (off := 449) hx hb d_L_law_50 (by decide) (by decide) rfl (by decide) ?_
    exact h7 d g ns sl cr nn ak no ye nr tl th be bp bm bo u fo H locs ls hSI hCI hP hD hS (lv_sub hl [0, 1, 2, 3, 4] rfl)
  · refine lv_tableIn (tgt := 555) (off := 505) hx hb d_L_law_50 (by decide) (by decide) rfl (by decide) ?_
    exact h8 d g ns sl cr nn ak no ye nr tl th be bp bm bo u fo H locs ls hSI hCI hP hD hS (lv_sub hl [0, 1, 2, 3, 4] rfl)
  · refine lv_tableIn (tgt := 615) (off := 565) hx hb d_L_law_50 (by decide) (by decide) rfl (by decide) ?_
    exact h9 d g ns sl cr nn ak no ye nr tl th be bp bm bo u fo H locs ls hSI hCI hP hD hS (lv_sub hl [0, 1, 2, 3, 4] rfl)
  · refine lv_tableIn (tgt := 671) (off := 621) hx hb d_L_law_50 (by decide) (by decide) rfl (by decide) ?_
    exact h10 d g ns sl cr nn ak no ye nr tl th be bp bm bo u fo H locs ls hSI hCI hP hD hS (lv_sub hl [0, 1, 2, 3, 4] rfl)
  · refine lv_tableIn (tgt := 727) (off := 677) hx hb d_L_law_50 (by decide) (by decide) rfl (by decide) ?_
    exact h11 d g ns sl cr nn ak no ye nr tl th be bp bm bo u fo H locs ls hSI hCI hP hD hS (lv_sub hl [0, 1, 2, 3, 4] rfl)
  · refine lv_tableIn (tgt := 807) (off := 757) hx hb d_L_law_50 (by decide) (by decide) rfl (by decide) ?_
    exact h12 d g ns sl cr nn ak no ye nr tl th be bp bm bo u fo H locs ls hSI hCI hP hD hS (lv_sub hl [0, 1, 2, 3, 4] rfl)
  · refine lv_tableIn (tgt := 875) (off := 825) hx hb d_L_law_50 (by decide) (by decide) rfl (by decide) ?_
    exact h13 d g ns sl cr nn ak no ye nr tl th be bp bm bo u fo H locs ls hSI hCI hP hD hS (lv_sub hl [0, 1, 2, 3, 4] rfl)
  · refine lv_tableIn (tgt := 993) (off := 943) hx hb d_L_law_50 (by decide) (by decide) rfl (by decide) ?_
    exact h14 d g ns sl cr nn ak no ye nr tl th be bp bm bo u fo H locs ls hSI hCI hP hD hS (lv_sub hl [0, 1, 2, 3, 4] rfl)
  · refine lv_tableOut (tgt := 1049) hx hb d_L_law_50 (by decide) (by decide) ?_
    exact h15 d g ns sl cr nn ak no ye nr tl th be bp bm bo u fo H locs ls hSI hCI hP hD hS (lv_sub hl [0, 1, 2, 3, 4] rfl)

set_option maxHeartbeats 4000000 in
set_option maxRecDepth 100000 in
theorem law_next {p : Program} {l : Launch} {e : Env} {R : Room} {s : State} {m : MethodId} {args : Array Value} {below : List Frame} {meth : Method} {c : Code} {Q : State → Prop} {A : Nat → Prop} {D : va_G} {cI cZ cJ cO : ClassId} {e0 mi sa9 ln : Nat} {sc : Nat → Int32} {out o7 dT gT la ca aa na ya ta o n i cells slots : Nat} (hlt : l.stackTraces = false) (hF9 : CallFix p m c c_L_law 8 s args GT "RubbingMirrorsLaw") (hK : va_K D cls (TY cI cZ cJ cO) s) (hN : nW s) (hA : ∀ q, s.heap.size ≤ q → A q) (hU : vx_Zq Bundle.tN "UNASSIGNED_STACK" Bundle.steD A s s.heap) (hV : vx_Zq Bundle.tN "SUPPRESSED_SENTINEL" Bundle.listD A s s.heap) (hsP : sP A e0 mi s s.heap) (hX9 : va_X sa9 ln sc s s.heap) (hb9 : sa9 < s.heap.size) (hbA : ¬ A sa9) (hR1 : 9 ≤ R.frames) (hR2 : 260 ≤ R.locals) (h4 : 4 ≤ n) (h64 : n ≤ 64) (hln : ln < 2 ^ 20) (hk : LK p l e R s m args below meth c Q A D cI cZ cJ cO e0 sa9 ln sc out o7 dT gT la ca aa na ya ta o n (i + 7) 33 cells slots) : LK p l e R s m args below meth c Q A D cI cZ cJ cO e0 sa9 ln sc out o7 dT gT la ca aa na ya ta o n i 1049 cells slots := by
  intro d g ns sl cr nn ak no ye nr tl th be bp bm bo u fo H locs ls hSI hCI hP hD hS hl
  obtain ⟨hx, hb, hml, hown, hg⟩ := hF9
  refine lv_iinc (v := (nI i) + 7) (lv' := [(4, .int ((nI i) + 7)), (0, .ref sa9), (1, .ref o), (2, .ref o7), (3, .ref out)]) hx hb d_L_law_1049 hl (k := 4) rfl rfl (by decide) rfl (fun ls hl => ?_)
  refine lv_goto (tgt := 33) hx hb d_L_law_1052 (by decide) ?_
  have hl : lv_has ls 8 [(4, .int (nI (i + 7))), (0, .ref sa9), (1, .ref o), (2, .ref o7), (3, .ref out)] := by rw [← show nI i + 7 = nI (i + 7) from nI_k i 7]; exact hl
  exact hk d g ns sl cr nn ak no ye nr tl th be bp bm bo u fo H locs ls hSI hCI hP hD hS (lv_sub hl [1, 2, 3, 4, 0] rfl)


/-- THE LAW'S LOOP -/
theorem law_loop {p : Program} {l : Launch} {e : Env} {R : Room} {s : State} {m : MethodId} {args : Array Value} {below : List Frame} {meth : Method} {c : Code} {Q : State → Prop} {A : Nat → Prop} {D : va_G} {cI cZ cJ cO : ClassId} {e0 mi sa9 ln : Nat} {sc : Nat → Int32} {out o7 dT gT la ca aa na ya ta o n : Nat} (hlt : l.stackTraces = false) (hF9 : CallFix p m c c_L_law 8 s args GT "RubbingMirrorsLaw") (hK : va_K D cls (TY cI cZ cJ cO) s) (hN : nW s) (hA : ∀ q, s.heap.size ≤ q → A q) (hU : vx_Zq Bundle.tN "UNASSIGNED_STACK" Bundle.steD A s s.heap) (hV : vx_Zq Bundle.tN "SUPPRESSED_SENTINEL" Bundle.listD A s s.heap) (hsP : sP A e0 mi s s.heap) (hX9 : va_X sa9 ln sc s s.heap) (hb9 : sa9 < s.heap.size) (hbA : ¬ A sa9) (hR1 : 9 ≤ R.frames) (hR2 : 260 ≤ R.locals) (h4 : 4 ≤ n) (h64 : n ≤ 64) (hln : ln < 2 ^ 20) (hend : ∀ i cells slots : Nat, cells ≤ R.cells → slots ≤ R.slots → LK p l e R s m args below meth c Q A D cI cZ cJ cO e0 sa9 ln sc out o7 dT gT la ca aa na ya ta o n i 1055 cells slots) : ∀ (f i cells slots : Nat), ln < i + 7 * f + 7 → i < 2 ^ 20 → cells + 3 * f ≤ R.cells → slots + 40 * f ≤ R.slots → LK p l e R s m args below meth c Q A D cI cZ cJ cO e0 sa9 ln sc out o7 dT gT la ca aa na ya ta o n i 33 cells slots := by
  intro f
  induction f with
  | zero =>
    intro i cells slots h1 h2 h3 h5
    exact law_head hlt hF9 hK hN hA hU hV hsP hX9 hb9 hbA hR1 hR2 h4 h64 hln h2 (hend i cells slots (by omega) (by omega)) (fun h9 => absurd h9 (by omega))
  | succ f ih =>
    intro i cells slots h1 h2 h3 h5
    refine law_head hlt hF9 hK hN hA hU hV hsP hX9 hb9 hbA hR1 hR2 h4 h64 hln h2 (hend i cells slots (by omega) (by omega)) (fun hin => ?_)
    have hk := law_next hlt hF9 hK hN hA hU hV hsP hX9 hb9 hbA hR1 hR2 h4 h64 hln (ih (i + 7) (cells + 3) (slots + 40) (by omega) (by omega) (by omega) (by omega))
    exact law_switch hlt hF9 hK hN hA hU hV hsP hX9 hb9 hbA hR1 hR2 h4 h64 hln hin (st_depth hlt hF9 hK hN hA hU hV hsP hX9 hb9 hbA hR1 hR2 h4 h64 hln hin (by omega) (by omega) hk) (st_place hlt hF9 hK hN hA hU hV hsP hX9 hb9 hbA hR1 hR2 h4 h64 hln hin (by omega) (by omega) hk) (st_mirror hlt hF9 hK hN hA hU hV hsP hX9 hb9 hbA hR1 hR2 h4 h64 hln hin (by omega) (by omega) hk) (st_sum hlt hF9 hK hN hA hU hV hsP hX9 hb9 hbA hR1 hR2 h4 h64 hln hin (by omega) (by omega) hk) (st_repeat_ hlt hF9 hK hN hA hU hV hsP hX9 hb9 hbA hR1 hR2 h4 h64 hln hin (by omega) (by omega) hk) (st_fill hlt hF9 hK hN hA hU hV hsP hX9 hb9 hbA hR1 hR2 h4 h64 hln hin (by omega) (by omega) hk) (st_forget hlt hF9 hK hN hA hU hV hsP hX9 hb9 hbA hR1 hR2 h4 h64 hln hin (by omega) (by omega) hk) (st_shape hlt hF9 hK hN hA hU hV hsP hX9 hb9 hbA hR1 hR2 h4 h64 hln hin (by omega) (by omega) hk) (st_carve hlt hF9 hK hN hA hU hV hsP hX9 hb9 hbA hR1 hR2 h4 h64 hln hin (by omega) (by omega) hk) (st_match_ hlt hF9 hK hN hA hU hV hsP hX9 hb9 hbA hR1 hR2 h4 h64 hln hin (by omega) (by omega) hk) (st_kind hlt hF9 hK hN hA hU hV hsP hX9 hb9 hbA hR1 hR2 h4 h64 hln hin (by omega) (by omega) hk) (st_question hlt hF9 hK hN hA hU hV hsP hX9 hb9 hbA hR1 hR2 h4 h64 hln hin (by omega) (by omega) hk) (st_ask hlt hF9 hK hN hA hU hV hsP hX9 hb9 hbA hR1 hR2 h4 h64 hln hin (by omega) (by omega) hk) (st_rule hlt hF9 hK hN hA hU hV hsP hX9 hb9 hbA hR1 hR2 h4 h64 hln hin (by omega) (by omega) hk) (st_age hlt hF9 hK hN hA hU hV hsP hX9 hb9 hbA hR1 hR2 h4 h64 hln hin (by omega) (by omega) hk) (lk_wide (by omega) (by omega) hk)
