set_option maxHeartbeats 4000000 in
set_option maxRecDepth 100000 in
/-- the law's depth -/
theorem c_L_depth_ok (l : Launch) (D : va_G) (cI cZ cJ cO : ClassId) (sz e0 mi : Nat) (o : Nat) (u0 : va_W) (ho : ∃ fs, (o, .inr (3, fs)) ∈ u0) (p0 p1 : Int32) (c9 : Int32) (φ : va_W → Prop) (px : va_W → Prop) (hM : ∀ sz, vx_Met l y_M_depth (wq y_M_depth c_M_depth 3 none) ({ frames := 6, cells := 1, slots := 6, locals := 100 }) (kP D (TY cI cZ cJ cO) u0 [.ref o, .int p0, .int p1] sz e0 mi) (va_Qv φ (mB D (TY cI cZ cJ cO) (va_A u0 sz)) (va_A u0 sz)) (vx_X px (xB D (TY cI cZ cJ cO) (va_A u0 sz) (fun E => (c9 = 1 ∧ E = eI) ∨ (c9 = 2 ∧ E = eA))) (va_A u0 sz)) 1 6 (va_A u0 sz)) (hφ0 : ∀ u, φ u → c9 = 0) : Met l y_L_depth (wqW y_L_depth c_L_depth 4 (some .int) [(0, 6, 9, 13), (0, 6, 12, 15)]) ({ frames := 7, cells := 1, slots := 6, locals := 122 }) (kP D (TY cI cZ cJ cO) ([] ++ u0) [.ref o, .int p0, .int p1] sz e0 mi) (va_Qi (fun (r : Int32) (u : va_W) => r = c9 ∧ ((c9 = 0 ∧ φ u) ∨ (¬ c9 = 0 ∧ px u))) (mB D (TY cI cZ cJ cO) (va_A ([] ++ u0) sz)) (va_A ([] ++ u0) sz)) 1 6 (va_A ([] ++ u0) sz) := by
  refine met_ofWH (cc := c_L_depth) (maxL := 4) (ret := (some .int)) (hh := [(0, 6, 9, 13), (0, 6, 12, 15)]) (by decide) rfl ?_
  intro p e s m args below meth c s₁ B hml hv
  obtain ⟨rfl, hsz, hP, hK, hD0, hN, hU, hV, hsP⟩ := hv
  have hx := B.exec
  have hb := B.bytes
  have hr := B.returns
  have hat := atoms_spec (ws := (wqW y_L_depth c_L_depth 4 (some .int) [(0, 6, 9, 13), (0, 6, 12, 15)])) B.pre
  have hg := gt_hW hat
  have htab := vx_table (x := y_L_depth) B (hat _ List.mem_cons_self)
  have hown : s.vm.findClass "RubbingMirrorsLaw" = some m.cls := findClass_of_methodNamed B.named
  have hlocks := B.notSynchronized
  subst hsz
  have hD := hD0.self (sz := s.heap.size)
  generalize hAe : va_A ([] ++ u0) s.heap.size = A at hD hU hV hsP ⊢
  have hA : ∀ q : Nat, s.heap.size ≤ q → A q := fun q h => by rw [← hAe]; exact Or.inr h
  have hS : va_S A s.heap s.heap [] := va_S.rf
  have hl := lv_entry ([.ref o, .int p0, .int p1]) (n := 4) (Nat.le_of_ble_eq_true rfl)
  rw [lg_entry_eq]
  generalize (lg_sl ([.ref o, .int p0, .int p1]) ++ List.replicate (4 - (lg_sl ([.ref o, .int p0, .int p1])).length) Slot.unset).toArray = ls at hl ⊢
  have hl : lv_has ls 4 [(0, .ref o), (1, .int p0), (2, .int p1)] := hl
  refine lv_aload_n hx hb d_L_depth_0 rfl (lv_at hl 0 rfl) ?_
  refine lv_iload_n hx hb d_L_depth_1 rfl (lv_at hl 1 rfl) ?_
  refine lv_iload_n hx hb d_L_depth_2 rfl (lv_at hl 2 rfl) ?_
  have hP : va_P D cls (u0 ++ []) _ := ba_Pp List.perm_append_comm hP
  have hD : va_D A (u0 ++ []) := ba_Dp List.perm_append_comm hD
  refine xcallv (wc := u0) (wr := []) (vx_runV (As := [.int p0, .int p1]) (rest := []) ⟨hx, hb, hml, hown, hg⟩ (hM s.heap.size) (cwV 2 hg (gv g_157 g_158 g_159 g_18 g_160) rfl rfl rfl (by decide +kernel) ⟨Nat.le_of_ble_eq_true rfl, Nat.le_of_ble_eq_true rfl⟩) (kV hP hD hK hN hS hA hU hV hsP ho) rfl rfl hl.1 rfl (lv_room (Nat.le_of_ble_eq_true rfl)) d_L_depth_3 ⟨Nat.le_of_ble_eq_true rfl, Nat.le_of_ble_eq_true rfl⟩) hP hD hS hA ?_ ?_
  · intro E ce q9 u1 H locs hpx hxe hP hD hS hce hcv hcl
    rcases hxe with ⟨hc9, rfl⟩ | ⟨hc9, rfl⟩
    · refine vx_catch (own := "RubbingMirrorsLaw") (name := eI) hown [] ⟨0, 6, 9, 13⟩ [⟨0, 6, 12, 15⟩] (htab.trans rfl) (List.forall_mem_nil _) (by decide) (by decide) (hg _ g_155) (nw_use nw_6 hN) hce hcv hcl ?_
      have hP : va_P D cls ([] ++ u1) H := ba_Pp List.perm_append_comm hP
      have hD : va_D A ([] ++ u1) := ba_Dp List.perm_append_comm hD
      refine W.widen (k := 1) (n := 6) (by omega) (by omega) ?_
      refine W.eq (g2 := F0 m 9 ls [.ref q9]) rfl ?_
      refine lv_astore_n (lv' := [(3, .ref q9), (0, .ref o), (1, .int p0), (2, .int p1)]) hx hb d_L_depth_9 rfl hl (by decide) rfl (fun ls hl => ?_)
      refine lv_iconst (v := 1) hx hb d_L_depth_10 (by decide) ?_
      exact W.iret hx hb hr (fun t9 ht hW => ⟨⟨_, ([] ++ u1), rfl, ⟨hc9.symm, Or.inr ⟨by rw [hc9]; decide, hpx⟩⟩, by rw [ht]; exact hP, va_K.moved hW.alike hK, hD⟩, hS.F ht⟩) hS.2.2 d_L_depth_11
    · refine vx_catch (own := "RubbingMirrorsLaw") (name := eA) hown [⟨0, 6, 9, 13⟩] ⟨0, 6, 12, 15⟩ [] (htab.trans rfl) (List.forall_mem_cons.mpr ⟨Or.inr ⟨by decide, _, hg _ g_155, hN.2.2.1 (eA, eI) (List.mem_of_getElem? (i := 2) rfl)⟩, List.forall_mem_nil _⟩) (by decide) (by decide) (hg _ g_156) (nw_use nw_13 hN) hce hcv hcl ?_
      have hP : va_P D cls ([] ++ u1) H := ba_Pp List.perm_append_comm hP
      have hD : va_D A ([] ++ u1) := ba_Dp List.perm_append_comm hD
      refine W.widen (k := 1) (n := 6) (by omega) (by omega) ?_
      refine W.eq (g2 := F0 m 12 ls [.ref q9]) rfl ?_
      refine lv_astore_n (lv' := [(3, .ref q9), (0, .ref o), (1, .int p0), (2, .int p1)]) hx hb d_L_depth_12 rfl hl (by decide) rfl (fun ls hl => ?_)
      refine lv_iconst (v := 2) hx hb d_L_depth_13 (by decide) ?_
      exact W.iret hx hb hr (fun t9 ht hW => ⟨⟨_, ([] ++ u1), rfl, ⟨hc9.symm, Or.inr ⟨by rw [hc9]; decide, hpx⟩⟩, by rw [ht]; exact hP, va_K.moved hW.alike hK, hD⟩, hS.F ht⟩) hS.2.2 d_L_depth_14
  · intro u1 H locs hφ hP hD hS
    have hc9 := hφ0 _ hφ
    have hP : va_P D cls ([] ++ u1) H := ba_Pp List.perm_append_comm hP
    have hD : va_D A ([] ++ u1) := ba_Dp List.perm_append_comm hD
    refine W.widen (k := 1) (n := 6) (by omega) (by omega) ?_
    refine W.eq (g2 := F0 m 6 ls []) rfl ?_
    refine lv_goto (tgt := 15) hx hb d_L_depth_6 (by decide) ?_
    refine lv_iconst (v := 0) hx hb d_L_depth_15 (by decide) ?_
    exact W.iret hx hb hr (fun t9 ht hW => ⟨⟨_, ([] ++ u1), rfl, ⟨hc9.symm, Or.inl ⟨hc9, hφ⟩⟩, by rw [ht]; exact hP, va_K.moved hW.alike hK, hD⟩, hS.F ht⟩) hS.2.2 d_L_depth_16

set_option maxHeartbeats 4000000 in
set_option maxRecDepth 100000 in
/-- the law's place -/
theorem c_L_place_ok (l : Launch) (D : va_G) (cI cZ cJ cO : ClassId) (sz e0 mi : Nat) (o : Nat) (u0 : va_W) (ho : ∃ fs, (o, .inr (3, fs)) ∈ u0) (out : Nat) (fo : Nat → Int64) (p0 p1 : Int32) (c9 : Int32) (φ : Int32 → va_W → Prop) (px : va_W → Prop) (hM : ∀ sz, vx_Met l y_M_place (wq y_M_place c_M_place 3 (some .int)) ({ frames := 6, cells := 1, slots := 6, locals := 100 }) (kP D (TY cI cZ cJ cO) u0 [.ref o, .int p0, .int p1] sz e0 mi) (va_Qi φ (mB D (TY cI cZ cJ cO) (va_A u0 sz)) (va_A u0 sz)) (vx_X px (xB D (TY cI cZ cJ cO) (va_A u0 sz) (fun E => (c9 = 1 ∧ E = eI))) (va_A u0 sz)) 1 6 (va_A u0 sz)) (hφ0 : ∀ r u, φ r u → c9 = 0) : Met l y_L_place (wqW y_L_place c_L_place 5 (some .int) [(0, 10, 13, 13)]) ({ frames := 7, cells := 1, slots := 6, locals := 122 }) (kP D (TY cI cZ cJ cO) ([(out, .inl (cJ, 1, .inr (.inl fo)))] ++ u0) [.ref o, .int p0, .int p1, .ref out] sz e0 mi) (va_Qi (fun (r : Int32) (u : va_W) => r = c9 ∧ ∃ (fo1 : Nat → Int64) (u1 : va_W), u = [(out, .inl (cJ, 1, .inr (.inl fo1)))] ++ u1 ∧ ((c9 = 0 ∧ ∃ r1, φ r1 u1 ∧ fo1 0 = r1.toInt64) ∨ (¬ c9 = 0 ∧ px u1))) (mB D (TY cI cZ cJ cO) (va_A ([(out, .inl (cJ, 1, .inr (.inl fo)))] ++ u0) sz)) (va_A ([(out, .inl (cJ, 1, .inr (.inl fo)))] ++ u0) sz)) 1 6 (va_A ([(out, .inl (cJ, 1, .inr (.inl fo)))] ++ u0) sz) := by
  refine met_ofWH (cc := c_L_place) (maxL := 5) (ret := (some .int)) (hh := [(0, 10, 13, 13)]) (by decide) rfl ?_
  intro p e s m args below meth c s₁ B hml hv
  obtain ⟨rfl, hsz, hP, hK, hD0, hN, hU, hV, hsP⟩ := hv
  have hx := B.exec
  have hb := B.bytes
  have hr := B.returns
  have hat := atoms_spec (ws := (wqW y_L_place c_L_place 5 (some .int) [(0, 10, 13, 13)])) B.pre
  have hg := gt_hW hat
  have htab := vx_table (x := y_L_place) B (hat _ List.mem_cons_self)
  have hown : s.vm.findClass "RubbingMirrorsLaw" = some m.cls := findClass_of_methodNamed B.named
  have hlocks := B.notSynchronized
  subst hsz
  have hD := hD0.self (sz := s.heap.size)
  generalize hAe : va_A ([(out, .inl (cJ, 1, .inr (.inl fo)))] ++ u0) s.heap.size = A at hD hU hV hsP ⊢
  have hA : ∀ q : Nat, s.heap.size ≤ q → A q := fun q h => by rw [← hAe]; exact Or.inr h
  have hS : va_S A s.heap s.heap [] := va_S.rf
  have hl := lv_entry ([.ref o, .int p0, .int p1, .ref out]) (n := 5) (Nat.le_of_ble_eq_true rfl)
  rw [lg_entry_eq]
  generalize (lg_sl ([.ref o, .int p0, .int p1, .ref out]) ++ List.replicate (5 - (lg_sl ([.ref o, .int p0, .int p1, .ref out])).length) Slot.unset).toArray = ls at hl ⊢
  have hl : lv_has ls 5 [(0, .ref o), (1, .int p0), (2, .int p1), (3, .ref out)] := hl
  refine lv_aload_n hx hb d_L_place_0 rfl (lv_at hl 3 rfl) ?_
  refine lv_iconst (v := 0) hx hb d_L_place_1 (by decide) ?_
  refine lv_aload_n hx hb d_L_place_2 rfl (lv_at hl 0 rfl) ?_
  refine lv_iload_n hx hb d_L_place_3 rfl (lv_at hl 1 rfl) ?_
  refine lv_iload_n hx hb d_L_place_4 rfl (lv_at hl 2 rfl) ?_
  have hP : va_P D cls (u0 ++ [(out, .inl (cJ, 1, .inr (.inl fo)))]) _ := ba_Pp List.perm_append_comm hP
  have hD : va_D A (u0 ++ [(out, .inl (cJ, 1, .inr (.inl fo)))]) := ba_Dp List.perm_append_comm hD
  refine xcalli (wc := u0) (wr := [(out, .inl (cJ, 1, .inr (.inl fo)))]) (vx_runV (As := [.int p0, .int p1]) (rest := [.int 0, .ref out]) ⟨hx, hb, hml, hown, hg⟩ (hM s.heap.size) (cwV 2 hg (gv g_260 g_261 g_262 g_18 g_263) rfl rfl rfl (by decide +kernel) ⟨Nat.le_of_ble_eq_true rfl, Nat.le_of_ble_eq_true rfl⟩) (kV hP hD hK hN hS hA hU hV hsP ho) rfl rfl hl.1 rfl (lv_room (Nat.le_of_ble_eq_true rfl)) d_L_place_5 ⟨Nat.le_of_ble_eq_true rfl, Nat.le_of_ble_eq_true rfl⟩) hP hD hS hA ?_ ?_
  · intro E ce q9 u1 H locs hpx hxe hP hD hS hce hcv hcl
    obtain ⟨hc9, rfl⟩ := hxe
    refine vx_catch (own := "RubbingMirrorsLaw") (name := eI) hown [] ⟨0, 10, 13, 13⟩ [] (htab.trans rfl) (List.forall_mem_nil _) (by decide) (by decide) (hg _ g_155) (nw_use nw_6 hN) hce hcv hcl ?_
    have hP : va_P D cls ([(out, .inl (cJ, 1, .inr (.inl fo)))] ++ u1) H := ba_Pp List.perm_append_comm hP
    have hD : va_D A ([(out, .inl (cJ, 1, .inr (.inl fo)))] ++ u1) := ba_Dp List.perm_append_comm hD
    refine W.widen (k := 1) (n := 6) (by omega) (by omega) ?_
    refine W.eq (g2 := F0 m 13 ls [.ref q9]) rfl ?_
    refine lv_astore (lv' := [(4, .ref q9), (0, .ref o), (1, .int p0), (2, .int p1), (3, .ref out)]) hx hb d_L_place_13 hl (by decide) rfl (fun ls hl => ?_)
    refine lv_iconst (v := 1) hx hb d_L_place_15 (by decide) ?_
    exact W.iret hx hb hr (fun t9 ht hW => ⟨⟨_, ([(out, .inl (cJ, 1, .inr (.inl fo)))] ++ u1), rfl, ⟨hc9.symm, fo, u1, rfl, Or.inr ⟨by rw [hc9]; decide, hpx⟩⟩, by rw [ht]; exact hP, va_K.moved hW.alike hK, hD⟩, hS.F ht⟩) hS.2.2 d_L_place_16
  · intro r1 u1 H locs hφ hP hD hS
    have hc9 := hφ0 _ _ hφ
    have hP : va_P D cls ([(out, .inl (cJ, 1, .inr (.inl fo)))] ++ u1) H := ba_Pp List.perm_append_comm hP
    have hD : va_D A ([(out, .inl (cJ, 1, .inr (.inl fo)))] ++ u1) := ba_Dp List.perm_append_comm hD
    refine W.widen (k := 1) (n := 6) (by omega) (by omega) ?_
    refine W.eq (g2 := F0 m 8 ls [.int r1, .int 0, .ref out]) rfl ?_
    refine lv_i2l (v := r1.toInt64) hx hb d_L_place_8 rfl ?_
    refine va_last hx hb hK hP hD hS 0 2 rfl rfl (by unfold vp_in; decide) d_L_place_9 (fun H locs hP hD hS => ?_)
    rw [sb_cl0] at hP hD
    have hP : va_P D cls ([(out, .inl (cJ, 1, .inr (.inl (vp_updL fo 0 r1.toInt64))))] ++ u1) H := hP
    have hD : va_D A ([(out, .inl (cJ, 1, .inr (.inl (vp_updL fo 0 r1.toInt64))))] ++ u1) := hD
    refine lv_goto (tgt := 17) hx hb d_L_place_10 (by decide) ?_
    refine lv_iconst (v := 0) hx hb d_L_place_17 (by decide) ?_
    exact W.iret hx hb hr (fun t9 ht hW => ⟨⟨_, ([(out, .inl (cJ, 1, .inr (.inl (vp_updL fo 0 r1.toInt64))))] ++ u1), rfl, ⟨hc9.symm, (vp_updL fo 0 r1.toInt64), u1, rfl, Or.inl ⟨hc9, r1, hφ, if_pos rfl⟩⟩, by rw [ht]; exact hP, va_K.moved hW.alike hK, hD⟩, hS.F ht⟩) hS.2.2 d_L_place_18

set_option maxHeartbeats 4000000 in
set_option maxRecDepth 100000 in
/-- the law's mirror -/
theorem c_L_mirror_ok (l : Launch) (D : va_G) (cI cZ cJ cO : ClassId) (sz e0 mi : Nat) (o : Nat) (u0 : va_W) (ho : ∃ fs, (o, .inr (3, fs)) ∈ u0) (out : Nat) (fo : Nat → Int64) (p0 : Int32) (c9 : Int32) (φ : Int64 → va_W → Prop) (px : va_W → Prop) (hM : ∀ sz, vx_Met l y_M_mirror (wq y_M_mirror c_M_mirror 2 (some .long)) ({ frames := 6, cells := 1, slots := 6, locals := 100 }) (kP D (TY cI cZ cJ cO) u0 [.ref o, .int p0] sz e0 mi) (va_Ql φ (mB D (TY cI cZ cJ cO) (va_A u0 sz)) (va_A u0 sz)) (vx_X px (xB D (TY cI cZ cJ cO) (va_A u0 sz) (fun E => (c9 = 1 ∧ E = eS) ∨ (c9 = 2 ∧ E = eI))) (va_A u0 sz)) 1 6 (va_A u0 sz)) (hφ0 : ∀ r u, φ r u → c9 = 0) : Met l y_L_mirror (wqW y_L_mirror c_L_mirror 4 (some .int) [(0, 8, 11, 25), (0, 8, 14, 13)]) ({ frames := 7, cells := 1, slots := 6, locals := 121 }) (kP D (TY cI cZ cJ cO) ([(out, .inl (cJ, 1, .inr (.inl fo)))] ++ u0) [.ref o, .int p0, .ref out] sz e0 mi) (va_Qi (fun (r : Int32) (u : va_W) => r = c9 ∧ ∃ (fo1 : Nat → Int64) (u1 : va_W), u = [(out, .inl (cJ, 1, .inr (.inl fo1)))] ++ u1 ∧ ((c9 = 0 ∧ ∃ r1, φ r1 u1 ∧ fo1 0 = r1) ∨ (¬ c9 = 0 ∧ px u1))) (mB D (TY cI cZ cJ cO) (va_A ([(out, .inl (cJ, 1, .inr (.inl fo)))] ++ u0) sz)) (va_A ([(out, .inl (cJ, 1, .inr (.inl fo)))] ++ u0) sz)) 1 6 (va_A ([(out, .inl (cJ, 1, .inr (.inl fo)))] ++ u0) sz) := by
  refine met_ofWH (cc := c_L_mirror) (maxL := 4) (ret := (some .int)) (hh := [(0, 8, 11, 25), (0, 8, 14, 13)]) (by decide) rfl ?_
  intro p e s m args below meth c s₁ B hml hv
  obtain ⟨rfl, hsz, hP, hK, hD0, hN, hU, hV, hsP⟩ := hv
  have hx := B.exec
  have hb := B.bytes
  have hr := B.returns
  have hat := atoms_spec (ws := (wqW y_L_mirror c_L_mirror 4 (some .int) [(0, 8, 11, 25), (0, 8, 14, 13)])) B.pre
  have hg := gt_hW hat
  have htab := vx_table (x := y_L_mirror) B (hat _ List.mem_cons_self)
  have hown : s.vm.findClass "RubbingMirrorsLaw" = some m.cls := findClass_of_methodNamed B.named
  have hlocks := B.notSynchronized
  subst hsz
  have hD := hD0.self (sz := s.heap.size)
  generalize hAe : va_A ([(out, .inl (cJ, 1, .inr (.inl fo)))] ++ u0) s.heap.size = A at hD hU hV hsP ⊢
  have hA : ∀ q : Nat, s.heap.size ≤ q → A q := fun q h => by rw [← hAe]; exact Or.inr h
  have hS : va_S A s.heap s.heap [] := va_S.rf
  have hl := lv_entry ([.ref o, .int p0, .ref out]) (n := 4) (Nat.le_of_ble_eq_true rfl)
  rw [lg_entry_eq]
  generalize (lg_sl ([.ref o, .int p0, .ref out]) ++ List.replicate (4 - (lg_sl ([.ref o, .int p0, .ref out])).length) Slot.unset).toArray = ls at hl ⊢
  have hl : lv_has ls 4 [(0, .ref o), (1, .int p0), (2, .ref out)] := hl
  refine lv_aload_n hx hb d_L_mirror_0 rfl (lv_at hl 2 rfl) ?_
  refine lv_iconst (v := 0) hx hb d_L_mirror_1 (by decide) ?_
  refine lv_aload_n hx hb d_L_mirror_2 rfl (lv_at hl 0 rfl) ?_
  refine lv_iload_n hx hb d_L_mirror_3 rfl (lv_at hl 1 rfl) ?_
  have hP : va_P D cls (u0 ++ [(out, .inl (cJ, 1, .inr (.inl fo)))]) _ := ba_Pp List.perm_append_comm hP
  have hD : va_D A (u0 ++ [(out, .inl (cJ, 1, .inr (.inl fo)))]) := ba_Dp List.perm_append_comm hD
  refine xcalll (wc := u0) (wr := [(out, .inl (cJ, 1, .inr (.inl fo)))]) (vx_runV (As := [.int p0]) (rest := [.int 0, .ref out]) ⟨hx, hb, hml, hown, hg⟩ (hM s.heap.size) (cwV 1 hg (gv g_277 g_278 g_279 g_18 g_280) rfl rfl rfl (by decide +kernel) ⟨Nat.le_of_ble_eq_true rfl, Nat.le_of_ble_eq_true rfl⟩) (kV hP hD hK hN hS hA hU hV hsP ho) rfl rfl hl.1 rfl (lv_room (Nat.le_of_ble_eq_true rfl)) d_L_mirror_4 ⟨Nat.le_of_ble_eq_true rfl, Nat.le_of_ble_eq_true rfl⟩) hP hD hS hA ?_ ?_
  · intro E ce q9 u1 H locs hpx hxe hP hD hS hce hcv hcl
    rcases hxe with ⟨hc9, rfl⟩ | ⟨hc9, rfl⟩
    · refine vx_catch (own := "RubbingMirrorsLaw") (name := eS) hown [] ⟨0, 8, 11, 25⟩ [⟨0, 8, 14, 13⟩] (htab.trans rfl) (List.forall_mem_nil _) (by decide) (by decide) (hg _ g_276) (nw_use nw_14 hN) hce hcv hcl ?_
      have hP : va_P D cls ([(out, .inl (cJ, 1, .inr (.inl fo)))] ++ u1) H := ba_Pp List.perm_append_comm hP
      have hD : va_D A ([(out, .inl (cJ, 1, .inr (.inl fo)))] ++ u1) := ba_Dp List.perm_append_comm hD
      refine W.widen (k := 1) (n := 6) (by omega) (by omega) ?_
      refine W.eq (g2 := F0 m 11 ls [.ref q9]) rfl ?_
      refine lv_astore_n (lv' := [(3, .ref q9), (0, .ref o), (1, .int p0), (2, .ref out)]) hx hb d_L_mirror_11 rfl hl (by decide) rfl (fun ls hl => ?_)
      refine lv_iconst (v := 1) hx hb d_L_mirror_12 (by decide) ?_
      exact W.iret hx hb hr (fun t9 ht hW => ⟨⟨_, ([(out, .inl (cJ, 1, .inr (.inl fo)))] ++ u1), rfl, ⟨hc9.symm, fo, u1, rfl, Or.inr ⟨by rw [hc9]; decide, hpx⟩⟩, by rw [ht]; exact hP, va_K.moved hW.alike hK, hD⟩, hS.F ht⟩) hS.2.2 d_L_mirror_13
    · refine vx_catch (own := "RubbingMirrorsLaw") (name := eI) hown [⟨0, 8, 11, 25⟩] ⟨0, 8, 14, 13⟩ [] (htab.trans rfl) (List.forall_mem_cons.mpr ⟨Or.inr ⟨by decide, _, hg _ g_276, hN.2.2.1 (eI, eS) (List.mem_of_getElem? (i := 1) rfl)⟩, List.forall_mem_nil _⟩) (by decide) (by decide) (hg _ g_155) (nw_use nw_6 hN) hce hcv hcl ?_
      have hP : va_P D cls ([(out, .inl (cJ, 1, .inr (.inl fo)))] ++ u1) H := ba_Pp List.perm_append_comm hP
      have hD : va_D A ([(out, .inl (cJ, 1, .inr (.inl fo)))] ++ u1) := ba_Dp List.perm_append_comm hD
      refine W.widen (k := 1) (n := 6) (by omega) (by omega) ?_
      refine W.eq (g2 := F0 m 14 ls [.ref q9]) rfl ?_
      refine lv_astore_n (lv' := [(3, .ref q9), (0, .ref o), (1, .int p0), (2, .ref out)]) hx hb d_L_mirror_14 rfl hl (by decide) rfl (fun ls hl => ?_)
      refine lv_iconst (v := 2) hx hb d_L_mirror_15 (by decide) ?_
      exact W.iret hx hb hr (fun t9 ht hW => ⟨⟨_, ([(out, .inl (cJ, 1, .inr (.inl fo)))] ++ u1), rfl, ⟨hc9.symm, fo, u1, rfl, Or.inr ⟨by rw [hc9]; decide, hpx⟩⟩, by rw [ht]; exact hP, va_K.moved hW.alike hK, hD⟩, hS.F ht⟩) hS.2.2 d_L_mirror_16
  · intro r1 u1 H locs hφ hP hD hS
    have hc9 := hφ0 _ _ hφ
    have hP : va_P D cls ([(out, .inl (cJ, 1, .inr (.inl fo)))] ++ u1) H := ba_Pp List.perm_append_comm hP
    have hD : va_D A ([(out, .inl (cJ, 1, .inr (.inl fo)))] ++ u1) := ba_Dp List.perm_append_comm hD
    refine W.widen (k := 1) (n := 6) (by omega) (by omega) ?_
    refine W.eq (g2 := F0 m 7 ls [.long r1, .int 0, .ref out]) rfl ?_
    refine va_last hx hb hK hP hD hS 0 2 rfl rfl (by unfold vp_in; decide) d_L_mirror_7 (fun H locs hP hD hS => ?_)
    rw [sb_cl0] at hP hD
    have hP : va_P D cls ([(out, .inl (cJ, 1, .inr (.inl (vp_updL fo 0 r1))))] ++ u1) H := hP
    have hD : va_D A ([(out, .inl (cJ, 1, .inr (.inl (vp_updL fo 0 r1))))] ++ u1) := hD
    refine lv_goto (tgt := 17) hx hb d_L_mirror_8 (by decide) ?_
    refine lv_iconst (v := 0) hx hb d_L_mirror_17 (by decide) ?_
    exact W.iret hx hb hr (fun t9 ht hW => ⟨⟨_, ([(out, .inl (cJ, 1, .inr (.inl (vp_updL fo 0 r1))))] ++ u1), rfl, ⟨hc9.symm, (vp_updL fo 0 r1), u1, rfl, Or.inl ⟨hc9, r1, hφ, if_pos rfl⟩⟩, by rw [ht]; exact hP, va_K.moved hW.alike hK, hD⟩, hS.F ht⟩) hS.2.2 d_L_mirror_18

set_option maxHeartbeats 4000000 in
set_option maxRecDepth 100000 in
/-- the law's sum -/
theorem c_L_sum_ok (l : Launch) (D : va_G) (cI cZ cJ cO : ClassId) (sz e0 mi : Nat) (o : Nat) (u0 : va_W) (ho : ∃ fs, (o, .inr (3, fs)) ∈ u0) (out : Nat) (fo : Nat → Int64) (p0 : Int32) (c9 : Int32) (φ : Int64 → va_W → Prop) (px : va_W → Prop) (hM : ∀ sz, vx_Met l y_M_sum (wq y_M_sum c_M_sum 2 (some .long)) ({ frames := 6, cells := 1, slots := 6, locals := 100 }) (kP D (TY cI cZ cJ cO) u0 [.ref o, .int p0] sz e0 mi) (va_Ql φ (mB D (TY cI cZ cJ cO) (va_A u0 sz)) (va_A u0 sz)) (vx_X px (xB D (TY cI cZ cJ cO) (va_A u0 sz) (fun E => (c9 = 1 ∧ E = eA))) (va_A u0 sz)) 1 6 (va_A u0 sz)) (hφ0 : ∀ r u, φ r u → c9 = 0) : Met l y_L_sum (wqW y_L_sum c_L_sum 4 (some .int) [(0, 8, 11, 15)]) ({ frames := 7, cells := 1, slots := 6, locals := 121 }) (kP D (TY cI cZ cJ cO) ([(out, .inl (cJ, 1, .inr (.inl fo)))] ++ u0) [.ref o, .int p0, .ref out] sz e0 mi) (va_Qi (fun (r : Int32) (u : va_W) => r = c9 ∧ ∃ (fo1 : Nat → Int64) (u1 : va_W), u = [(out, .inl (cJ, 1, .inr (.inl fo1)))] ++ u1 ∧ ((c9 = 0 ∧ ∃ r1, φ r1 u1 ∧ fo1 0 = r1) ∨ (¬ c9 = 0 ∧ px u1))) (mB D (TY cI cZ cJ cO) (va_A ([(out, .inl (cJ, 1, .inr (.inl fo)))] ++ u0) sz)) (va_A ([(out, .inl (cJ, 1, .inr (.inl fo)))] ++ u0) sz)) 1 6 (va_A ([(out, .inl (cJ, 1, .inr (.inl fo)))] ++ u0) sz) := by
  refine met_ofWH (cc := c_L_sum) (maxL := 4) (ret := (some .int)) (hh := [(0, 8, 11, 15)]) (by decide) rfl ?_
  intro p e s m args below meth c s₁ B hml hv
  obtain ⟨rfl, hsz, hP, hK, hD0, hN, hU, hV, hsP⟩ := hv
  have hx := B.exec
  have hb := B.bytes
  have hr := B.returns
  have hat := atoms_spec (ws := (wqW y_L_sum c_L_sum 4 (some .int) [(0, 8, 11, 15)])) B.pre
  have hg := gt_hW hat
  have htab := vx_table (x := y_L_sum) B (hat _ List.mem_cons_self)
  have hown : s.vm.findClass "RubbingMirrorsLaw" = some m.cls := findClass_of_methodNamed B.named
  have hlocks := B.notSynchronized
  subst hsz
  have hD := hD0.self (sz := s.heap.size)
  generalize hAe : va_A ([(out, .inl (cJ, 1, .inr (.inl fo)))] ++ u0) s.heap.size = A at hD hU hV hsP ⊢
  have hA : ∀ q : Nat, s.heap.size ≤ q → A q := fun q h => by rw [← hAe]; exact Or.inr h
  have hS : va_S A s.heap s.heap [] := va_S.rf
  have hl := lv_entry ([.ref o, .int p0, .ref out]) (n := 4) (Nat.le_of_ble_eq_true rfl)
  rw [lg_entry_eq]
  generalize (lg_sl ([.ref o, .int p0, .ref out]) ++ List.replicate (4 - (lg_sl ([.ref o, .int p0, .ref out])).length) Slot.unset).toArray = ls at hl ⊢
  have hl : lv_has ls 4 [(0, .ref o), (1, .int p0), (2, .ref out)] := hl
  refine lv_aload_n hx hb d_L_sum_0 rfl (lv_at hl 2 rfl) ?_
  refine lv_iconst (v := 0) hx hb d_L_sum_1 (by decide) ?_
  refine lv_aload_n hx hb d_L_sum_2 rfl (lv_at hl 0 rfl) ?_
  refine lv_iload_n hx hb d_L_sum_3 rfl (lv_at hl 1 rfl) ?_
  have hP : va_P D cls (u0 ++ [(out, .inl (cJ, 1, .inr (.inl fo)))]) _ := ba_Pp List.perm_append_comm hP
  have hD : va_D A (u0 ++ [(out, .inl (cJ, 1, .inr (.inl fo)))]) := ba_Dp List.perm_append_comm hD
  refine xcalll (wc := u0) (wr := [(out, .inl (cJ, 1, .inr (.inl fo)))]) (vx_runV (As := [.int p0]) (rest := [.int 0, .ref out]) ⟨hx, hb, hml, hown, hg⟩ (hM s.heap.size) (cwV 1 hg (gv g_336 g_337 g_338 g_18 g_339) rfl rfl rfl (by decide +kernel) ⟨Nat.le_of_ble_eq_true rfl, Nat.le_of_ble_eq_true rfl⟩) (kV hP hD hK hN hS hA hU hV hsP ho) rfl rfl hl.1 rfl (lv_room (Nat.le_of_ble_eq_true rfl)) d_L_sum_4 ⟨Nat.le_of_ble_eq_true rfl, Nat.le_of_ble_eq_true rfl⟩) hP hD hS hA ?_ ?_
  · intro E ce q9 u1 H locs hpx hxe hP hD hS hce hcv hcl
    obtain ⟨hc9, rfl⟩ := hxe
    refine vx_catch (own := "RubbingMirrorsLaw") (name := eA) hown [] ⟨0, 8, 11, 15⟩ [] (htab.trans rfl) (List.forall_mem_nil _) (by decide) (by decide) (hg _ g_156) (nw_use nw_13 hN) hce hcv hcl ?_
    have hP : va_P D cls ([(out, .inl (cJ, 1, .inr (.inl fo)))] ++ u1) H := ba_Pp List.perm_append_comm hP
    have hD : va_D A ([(out, .inl (cJ, 1, .inr (.inl fo)))] ++ u1) := ba_Dp List.perm_append_comm hD
    refine W.widen (k := 1) (n := 6) (by omega) (by omega) ?_
    refine W.eq (g2 := F0 m 11 ls [.ref q9]) rfl ?_
    refine lv_astore_n (lv' := [(3, .ref q9), (0, .ref o), (1, .int p0), (2, .ref out)]) hx hb d_L_sum_11 rfl hl (by decide) rfl (fun ls hl => ?_)
    refine lv_iconst (v := 1) hx hb d_L_sum_12 (by decide) ?_
    exact W.iret hx hb hr (fun t9 ht hW => ⟨⟨_, ([(out, .inl (cJ, 1, .inr (.inl fo)))] ++ u1), rfl, ⟨hc9.symm, fo, u1, rfl, Or.inr ⟨by rw [hc9]; decide, hpx⟩⟩, by rw [ht]; exact hP, va_K.moved hW.alike hK, hD⟩, hS.F ht⟩) hS.2.2 d_L_sum_13
  · intro r1 u1 H locs hφ hP hD hS
    have hc9 := hφ0 _ _ hφ
    have hP : va_P D cls ([(out, .inl (cJ, 1, .inr (.inl fo)))] ++ u1) H := ba_Pp List.perm_append_comm hP
    have hD : va_D A ([(out, .inl (cJ, 1, .inr (.inl fo)))] ++ u1) := ba_Dp List.perm_append_comm hD
    refine W.widen (k := 1) (n := 6) (by omega) (by omega) ?_
    refine W.eq (g2 := F0 m 7 ls [.long r1, .int 0, .ref out]) rfl ?_
    refine va_last hx hb hK hP hD hS 0 2 rfl rfl (by unfold vp_in; decide) d_L_sum_7 (fun H locs hP hD hS => ?_)
    rw [sb_cl0] at hP hD
    have hP : va_P D cls ([(out, .inl (cJ, 1, .inr (.inl (vp_updL fo 0 r1))))] ++ u1) H := hP
    have hD : va_D A ([(out, .inl (cJ, 1, .inr (.inl (vp_updL fo 0 r1))))] ++ u1) := hD
    refine lv_goto (tgt := 14) hx hb d_L_sum_8 (by decide) ?_
    refine lv_iconst (v := 0) hx hb d_L_sum_14 (by decide) ?_
    exact W.iret hx hb hr (fun t9 ht hW => ⟨⟨_, ([(out, .inl (cJ, 1, .inr (.inl (vp_updL fo 0 r1))))] ++ u1), rfl, ⟨hc9.symm, (vp_updL fo 0 r1), u1, rfl, Or.inl ⟨hc9, r1, hφ, if_pos rfl⟩⟩, by rw [ht]; exact hP, va_K.moved hW.alike hK, hD⟩, hS.F ht⟩) hS.2.2 d_L_sum_15

set_option maxHeartbeats 4000000 in
set_option maxRecDepth 100000 in
/-- the law's repeat_ -/
theorem c_L_repeat__ok (l : Launch) (D : va_G) (cI cZ cJ cO : ClassId) (sz e0 mi : Nat) (o : Nat) (u0 : va_W) (ho : ∃ fs, (o, .inr (3, fs)) ∈ u0) (out : Nat) (fo : Nat → Int64) (p0 p1 : Int32) (c9 : Int32) (φ : Int32 → va_W → Prop) (px : va_W → Prop) (hM : ∀ sz, vx_Met l y_M_repeat_ (wq y_M_repeat_ c_M_repeat_ 10 (some .int)) ({ frames := 6, cells := 1, slots := 6, locals := 100 }) (kP D (TY cI cZ cJ cO) u0 [.ref o, .int p0, .int p1] sz e0 mi) (va_Qi φ (mB D (TY cI cZ cJ cO) (va_A u0 sz)) (va_A u0 sz)) (vx_X px (xB D (TY cI cZ cJ cO) (va_A u0 sz) (fun E => (c9 = 1 ∧ E = eA))) (va_A u0 sz)) 1 6 (va_A u0 sz)) (hφ0 : ∀ r u, φ r u → c9 = 0) : Met l y_L_repeat_ (wqW y_L_repeat_ c_L_repeat_ 5 (some .int) [(0, 10, 13, 15)]) ({ frames := 7, cells := 1, slots := 6, locals := 129 }) (kP D (TY cI cZ cJ cO) ([(out, .inl (cJ, 1, .inr (.inl fo)))] ++ u0) [.ref o, .int p0, .int p1, .ref out] sz e0 mi) (va_Qi (fun (r : Int32) (u : va_W) => r = c9 ∧ ∃ (fo1 : Nat → Int64) (u1 : va_W), u = [(out, .inl (cJ, 1, .inr (.inl fo1)))] ++ u1 ∧ ((c9 = 0 ∧ ∃ r1, φ r1 u1 ∧ fo1 0 = r1.toInt64) ∨ (¬ c9 = 0 ∧ px u1))) (mB D (TY cI cZ cJ cO) (va_A ([(out, .inl (cJ, 1, .inr (.inl fo)))] ++ u0) sz)) (va_A ([(out, .inl (cJ, 1, .inr (.inl fo)))] ++ u0) sz)) 1 6 (va_A ([(out, .inl (cJ, 1, .inr (.inl fo)))] ++ u0) sz) := by
  refine met_ofWH (cc := c_L_repeat_) (maxL := 5) (ret := (some .int)) (hh := [(0, 10, 13, 15)]) (by decide) rfl ?_
  intro p e s m args below meth c s₁ B hml hv
  obtain ⟨rfl, hsz, hP, hK, hD0, hN, hU, hV, hsP⟩ := hv
  have hx := B.exec
  have hb := B.bytes
  have hr := B.returns
  have hat := atoms_spec (ws := (wqW y_L_repeat_ c_L_repeat_ 5 (some .int) [(0, 10, 13, 15)])) B.pre
  have hg := gt_hW hat
  have htab := vx_table (x := y_L_repeat_) B (hat _ List.mem_cons_self)
  have hown : s.vm.findClass "RubbingMirrorsLaw" = some m.cls := findClass_of_methodNamed B.named
  have hlocks := B.notSynchronized
  subst hsz
  have hD := hD0.self (sz := s.heap.size)
  generalize hAe : va_A ([(out, .inl (cJ, 1, .inr (.inl fo)))] ++ u0) s.heap.size = A at hD hU hV hsP ⊢
  have hA : ∀ q : Nat, s.heap.size ≤ q → A q := fun q h => by rw [← hAe]; exact Or.inr h
  have hS : va_S A s.heap s.heap [] := va_S.rf
  have hl := lv_entry ([.ref o, .int p0, .int p1, .ref out]) (n := 5) (Nat.le_of_ble_eq_true rfl)
  rw [lg_entry_eq]
  generalize (lg_sl ([.ref o, .int p0, .int p1, .ref out]) ++ List.replicate (5 - (lg_sl ([.ref o, .int p0, .int p1, .ref out])).length) Slot.unset).toArray = ls at hl ⊢
  have hl : lv_has ls 5 [(0, .ref o), (1, .int p0), (2, .int p1), (3, .ref out)] := hl
  refine lv_aload_n hx hb d_L_repeat__0 rfl (lv_at hl 3 rfl) ?_
  refine lv_iconst (v := 0) hx hb d_L_repeat__1 (by decide) ?_
  refine lv_aload_n hx hb d_L_repeat__2 rfl (lv_at hl 0 rfl) ?_
  refine lv_iload_n hx hb d_L_repeat__3 rfl (lv_at hl 1 rfl) ?_
  refine lv_iload_n hx hb d_L_repeat__4 rfl (lv_at hl 2 rfl) ?_
  have hP : va_P D cls (u0 ++ [(out, .inl (cJ, 1, .inr (.inl fo)))]) _ := ba_Pp List.perm_append_comm hP
  have hD : va_D A (u0 ++ [(out, .inl (cJ, 1, .inr (.inl fo)))]) := ba_Dp List.perm_append_comm hD
  refine xcalli (wc := u0) (wr := [(out, .inl (cJ, 1, .inr (.inl fo)))]) (vx_runV (As := [.int p0, .int p1]) (rest := [.int 0, .ref out]) ⟨hx, hb, hml, hown, hg⟩ (hM s.heap.size) (cwV 2 hg (gv g_348 g_349 g_350 g_18 g_351) rfl rfl rfl (by decide +kernel) ⟨Nat.le_of_ble_eq_true rfl, Nat.le_of_ble_eq_true rfl⟩) (kV hP hD hK hN hS hA hU hV hsP ho) rfl rfl hl.1 rfl (lv_room (Nat.le_of_ble_eq_true rfl)) d_L_repeat__5 ⟨Nat.le_of_ble_eq_true rfl, Nat.le_of_ble_eq_true rfl⟩) hP hD hS hA ?_ ?_
  · intro E ce q9 u1 H locs hpx hxe hP hD hS hce hcv hcl
    obtain ⟨hc9, rfl⟩ := hxe
    refine vx_catch (own := "RubbingMirrorsLaw") (name := eA) hown [] ⟨0, 10, 13, 15⟩ [] (htab.trans rfl) (List.forall_mem_nil _) (by decide) (by decide) (hg _ g_156) (nw_use nw_13 hN) hce hcv hcl ?_
    have hP : va_P D cls ([(out, .inl (cJ, 1, .inr (.inl fo)))] ++ u1) H := ba_Pp List.perm_append_comm hP
    have hD : va_D A ([(out, .inl (cJ, 1, .inr (.inl fo)))] ++ u1) := ba_Dp List.perm_append_comm hD
    refine W.widen (k := 1) (n := 6) (by omega) (by omega) ?_
    refine W.eq (g2 := F0 m 13 ls [.ref q9]) rfl ?_
    refine lv_astore (lv' := [(4, .ref q9), (0, .ref o), (1, .int p0), (2, .int p1), (3, .ref out)]) hx hb d_L_repeat__13 hl (by decide) rfl (fun ls hl => ?_)
    refine lv_iconst (v := 1) hx hb d_L_repeat__15 (by decide) ?_
    exact W.iret hx hb hr (fun t9 ht hW => ⟨⟨_, ([(out, .inl (cJ, 1, .inr (.inl fo)))] ++ u1), rfl, ⟨hc9.symm, fo, u1, rfl, Or.inr ⟨by rw [hc9]; decide, hpx⟩⟩, by rw [ht]; exact hP, va_K.moved hW.alike hK, hD⟩, hS.F ht⟩) hS.2.2 d_L_repeat__16
  · intro r1 u1 H locs hφ hP hD hS
    have hc9 := hφ0 _ _ hφ
    have hP : va_P D cls ([(out, .inl (cJ, 1, .inr (.inl fo)))] ++ u1) H := ba_Pp List.perm_append_comm hP
    have hD : va_D A ([(out, .inl (cJ, 1, .inr (.inl fo)))] ++ u1) := ba_Dp List.perm_append_comm hD
    refine W.widen (k := 1) (n := 6) (by omega) (by omega) ?_
    refine W.eq (g2 := F0 m 8 ls [.int r1, .int 0, .ref out]) rfl ?_
    refine lv_i2l (v := r1.toInt64) hx hb d_L_repeat__8 rfl ?_
    refine va_last hx hb hK hP hD hS 0 2 rfl rfl (by unfold vp_in; decide) d_L_repeat__9 (fun H locs hP hD hS => ?_)
    rw [sb_cl0] at hP hD
    have hP : va_P D cls ([(out, .inl (cJ, 1, .inr (.inl (vp_updL fo 0 r1.toInt64))))] ++ u1) H := hP
    have hD : va_D A ([(out, .inl (cJ, 1, .inr (.inl (vp_updL fo 0 r1.toInt64))))] ++ u1) := hD
    refine lv_goto (tgt := 17) hx hb d_L_repeat__10 (by decide) ?_
    refine lv_iconst (v := 0) hx hb d_L_repeat__17 (by decide) ?_
    exact W.iret hx hb hr (fun t9 ht hW => ⟨⟨_, ([(out, .inl (cJ, 1, .inr (.inl (vp_updL fo 0 r1.toInt64))))] ++ u1), rfl, ⟨hc9.symm, (vp_updL fo 0 r1.toInt64), u1, rfl, Or.inl ⟨hc9, r1, hφ, if_pos rfl⟩⟩, by rw [ht]; exact hP, va_K.moved hW.alike hK, hD⟩, hS.F ht⟩) hS.2.2 d_L_repeat__18

set_option maxHeartbeats 4000000 in
set_option maxRecDepth 100000 in
/-- the law's fill -/
theorem c_L_fill_ok (l : Launch) (D : va_G) (cI cZ cJ cO : ClassId) (sz e0 mi : Nat) (o : Nat) (u0 : va_W) (ho : ∃ fs, (o, .inr (3, fs)) ∈ u0) (out : Nat) (fo : Nat → Int64) (p0 p1 : Int32) (c9 : Int32) (φ : Int32 → va_W → Prop) (px : va_W → Prop) (hM : ∀ sz, vx_Met l y_M_fill (wq y_M_fill c_M_fill 3 (some .int)) ({ frames := 6, cells := 1, slots := 6, locals := 100 }) (kP D (TY cI cZ cJ cO) u0 [.ref o, .int p0, .int p1] sz e0 mi) (va_Qi φ (mB D (TY cI cZ cJ cO) (va_A u0 sz)) (va_A u0 sz)) (vx_X px (xB D (TY cI cZ cJ cO) (va_A u0 sz) (fun E => (c9 = 1 ∧ E = eA))) (va_A u0 sz)) 1 6 (va_A u0 sz)) (hφ0 : ∀ r u, φ r u → c9 = 0) : Met l y_L_fill (wqW y_L_fill c_L_fill 5 (some .int) [(0, 10, 13, 15)]) ({ frames := 7, cells := 1, slots := 6, locals := 122 }) (kP D (TY cI cZ cJ cO) ([(out, .inl (cJ, 1, .inr (.inl fo)))] ++ u0) [.ref o, .int p0, .int p1, .ref out] sz e0 mi) (va_Qi (fun (r : Int32) (u : va_W) => r = c9 ∧ ∃ (fo1 : Nat → Int64) (u1 : va_W), u = [(out, .inl (cJ, 1, .inr (.inl fo1)))] ++ u1 ∧ ((c9 = 0 ∧ ∃ r1, φ r1 u1 ∧ fo1 0 = r1.toInt64) ∨ (¬ c9 = 0 ∧ px u1))) (mB D (TY cI cZ cJ cO) (va_A ([(out, .inl (cJ, 1, .inr (.inl fo)))] ++ u0) sz)) (va_A ([(out, .inl (cJ, 1, .inr (.inl fo)))] ++ u0) sz)) 1 6 (va_A ([(out, .inl (cJ, 1, .inr (.inl fo)))] ++ u0) sz) := by
  refine met_ofWH (cc := c_L_fill) (maxL := 5) (ret := (some .int)) (hh := [(0, 10, 13, 15)]) (by decide) rfl ?_
  intro p e s m args below meth c s₁ B hml hv
  obtain ⟨rfl, hsz, hP, hK, hD0, hN, hU, hV, hsP⟩ := hv
  have hx := B.exec
  have hb := B.bytes
  have hr := B.returns
  have hat := atoms_spec (ws := (wqW y_L_fill c_L_fill 5 (some .int) [(0, 10, 13, 15)])) B.pre
  have hg := gt_hW hat
  have htab := vx_table (x := y_L_fill) B (hat _ List.mem_cons_self)
  have hown : s.vm.findClass "RubbingMirrorsLaw" = some m.cls := findClass_of_methodNamed B.named
  have hlocks := B.notSynchronized
  subst hsz
  have hD := hD0.self (sz := s.heap.size)
  generalize hAe : va_A ([(out, .inl (cJ, 1, .inr (.inl fo)))] ++ u0) s.heap.size = A at hD hU hV hsP ⊢
  have hA : ∀ q : Nat, s.heap.size ≤ q → A q := fun q h => by rw [← hAe]; exact Or.inr h
  have hS : va_S A s.heap s.heap [] := va_S.rf
  have hl := lv_entry ([.ref o, .int p0, .int p1, .ref out]) (n := 5) (Nat.le_of_ble_eq_true rfl)
  rw [lg_entry_eq]
  generalize (lg_sl ([.ref o, .int p0, .int p1, .ref out]) ++ List.replicate (5 - (lg_sl ([.ref o, .int p0, .int p1, .ref out])).length) Slot.unset).toArray = ls at hl ⊢
  have hl : lv_has ls 5 [(0, .ref o), (1, .int p0), (2, .int p1), (3, .ref out)] := hl
  refine lv_aload_n hx hb d_L_fill_0 rfl (lv_at hl 3 rfl) ?_
  refine lv_iconst (v := 0) hx hb d_L_fill_1 (by decide) ?_
  refine lv_aload_n hx hb d_L_fill_2 rfl (lv_at hl 0 rfl) ?_
  refine lv_iload_n hx hb d_L_fill_3 rfl (lv_at hl 1 rfl) ?_
  refine lv_iload_n hx hb d_L_fill_4 rfl (lv_at hl 2 rfl) ?_
  have hP : va_P D cls (u0 ++ [(out, .inl (cJ, 1, .inr (.inl fo)))]) _ := ba_Pp List.perm_append_comm hP
  have hD : va_D A (u0 ++ [(out, .inl (cJ, 1, .inr (.inl fo)))]) := ba_Dp List.perm_append_comm hD
  refine xcalli (wc := u0) (wr := [(out, .inl (cJ, 1, .inr (.inl fo)))]) (vx_runV (As := [.int p0, .int p1]) (rest := [.int 0, .ref out]) ⟨hx, hb, hml, hown, hg⟩ (hM s.heap.size) (cwV 2 hg (gv g_356 g_357 g_358 g_18 g_359) rfl rfl rfl (by decide +kernel) ⟨Nat.le_of_ble_eq_true rfl, Nat.le_of_ble_eq_true rfl⟩) (kV hP hD hK hN hS hA hU hV hsP ho) rfl rfl hl.1 rfl (lv_room (Nat.le_of_ble_eq_true rfl)) d_L_fill_5 ⟨Nat.le_of_ble_eq_true rfl, Nat.le_of_ble_eq_true rfl⟩) hP hD hS hA ?_ ?_
  · intro E ce q9 u1 H locs hpx hxe hP hD hS hce hcv hcl
    obtain ⟨hc9, rfl⟩ := hxe
    refine vx_catch (own := "RubbingMirrorsLaw") (name := eA) hown [] ⟨0, 10, 13, 15⟩ [] (htab.trans rfl) (List.forall_mem_nil _) (by decide) (by decide) (hg _ g_156) (nw_use nw_13 hN) hce hcv hcl ?_
    have hP : va_P D cls ([(out, .inl (cJ, 1, .inr (.inl fo)))] ++ u1) H := ba_Pp List.perm_append_comm hP
    have hD : va_D A ([(out, .inl (cJ, 1, .inr (.inl fo)))] ++ u1) := ba_Dp List.perm_append_comm hD
    refine W.widen (k := 1) (n := 6) (by omega) (by omega) ?_
    refine W.eq (g2 := F0 m 13 ls [.ref q9]) rfl ?_
    refine lv_astore (lv' := [(4, .ref q9), (0, .ref o), (1, .int p0), (2, .int p1), (3, .ref out)]) hx hb d_L_fill_13 hl (by decide) rfl (fun ls hl => ?_)
    refine lv_iconst (v := 1) hx hb d_L_fill_15 (by decide) ?_
    exact W.iret hx hb hr (fun t9 ht hW => ⟨⟨_, ([(out, .inl (cJ, 1, .inr (.inl fo)))] ++ u1), rfl, ⟨hc9.symm, fo, u1, rfl, Or.inr ⟨by rw [hc9]; decide, hpx⟩⟩, by rw [ht]; exact hP, va_K.moved hW.alike hK, hD⟩, hS.F ht⟩) hS.2.2 d_L_fill_16
  · intro r1 u1 H locs hφ hP hD hS
    have hc9 := hφ0 _ _ hφ
    have hP : va_P D cls ([(out, .inl (cJ, 1, .inr (.inl fo)))] ++ u1) H := ba_Pp List.perm_append_comm hP
    have hD : va_D A ([(out, .inl (cJ, 1, .inr (.inl fo)))] ++ u1) := ba_Dp List.perm_append_comm hD
    refine W.widen (k := 1) (n := 6) (by omega) (by omega) ?_
    refine W.eq (g2 := F0 m 8 ls [.int r1, .int 0, .ref out]) rfl ?_
    refine lv_i2l (v := r1.toInt64) hx hb d_L_fill_8 rfl ?_
    refine va_last hx hb hK hP hD hS 0 2 rfl rfl (by unfold vp_in; decide) d_L_fill_9 (fun H locs hP hD hS => ?_)
    rw [sb_cl0] at hP hD
    have hP : va_P D cls ([(out, .inl (cJ, 1, .inr (.inl (vp_updL fo 0 r1.toInt64))))] ++ u1) H := hP
    have hD : va_D A ([(out, .inl (cJ, 1, .inr (.inl (vp_updL fo 0 r1.toInt64))))] ++ u1) := hD
    refine lv_goto (tgt := 17) hx hb d_L_fill_10 (by decide) ?_
    refine lv_iconst (v := 0) hx hb d_L_fill_17 (by decide) ?_
    exact W.iret hx hb hr (fun t9 ht hW => ⟨⟨_, ([(out, .inl (cJ, 1, .inr (.inl (vp_updL fo 0 r1.toInt64))))] ++ u1), rfl, ⟨hc9.symm, (vp_updL fo 0 r1.toInt64), u1, rfl, Or.inl ⟨hc9, r1, hφ, if_pos rfl⟩⟩, by rw [ht]; exact hP, va_K.moved hW.alike hK, hD⟩, hS.F ht⟩) hS.2.2 d_L_fill_18

set_option maxHeartbeats 4000000 in
set_option maxRecDepth 100000 in
/-- the law's shape -/
theorem c_L_shape_ok (l : Launch) (D : va_G) (cI cZ cJ cO : ClassId) (sz e0 mi : Nat) (o : Nat) (u0 : va_W) (ho : ∃ fs, (o, .inr (3, fs)) ∈ u0) (out : Nat) (fo : Nat → Int64) (p0 : Int32) (c9 : Int32) (φ : Int32 → va_W → Prop) (px : va_W → Prop) (hM : ∀ sz, vx_Met l y_M_shape (wq y_M_shape c_M_shape 2 (some .int)) ({ frames := 7, cells := 3, slots := 40, locals := 191 }) (kP D (TY cI cZ cJ cO) u0 [.ref o, .int p0] sz e0 mi) (va_Qi φ (mB D (TY cI cZ cJ cO) (va_A u0 sz)) (va_A u0 sz)) (vx_X px (xB D (TY cI cZ cJ cO) (va_A u0 sz) (fun E => (c9 = 1 ∧ E = eA) ∨ (c9 = 2 ∧ E = eS))) (va_A u0 sz)) 3 40 (va_A u0 sz)) (hφ0 : ∀ r u, φ r u → c9 = 0) : Met l y_L_shape (wqW y_L_shape c_L_shape 4 (some .int) [(0, 9, 12, 15), (0, 9, 15, 25)]) ({ frames := 8, cells := 3, slots := 40, locals := 212 }) (kP D (TY cI cZ cJ cO) ([(out, .inl (cJ, 1, .inr (.inl fo)))] ++ u0) [.ref o, .int p0, .ref out] sz e0 mi) (va_Qi (fun (r : Int32) (u : va_W) => r = c9 ∧ ∃ (fo1 : Nat → Int64) (u1 : va_W), u = [(out, .inl (cJ, 1, .inr (.inl fo1)))] ++ u1 ∧ ((c9 = 0 ∧ ∃ r1, φ r1 u1 ∧ fo1 0 = r1.toInt64) ∨ (¬ c9 = 0 ∧ px u1))) (mB D (TY cI cZ cJ cO) (va_A ([(out, .inl (cJ, 1, .inr (.inl fo)))] ++ u0) sz)) (va_A ([(out, .inl (cJ, 1, .inr (.inl fo)))] ++ u0) sz)) 3 40 (va_A ([(out, .inl (cJ, 1, .inr (.inl fo)))] ++ u0) sz) := by
  refine met_ofWH (cc := c_L_shape) (maxL := 4) (ret := (some .int)) (hh := [(0, 9, 12, 15), (0, 9, 15, 25)]) (by decide) rfl ?_
  intro p e s m args below meth c s₁ B hml hv
  obtain ⟨rfl, hsz, hP, hK, hD0, hN, hU, hV, hsP⟩ := hv
  have hx := B.exec
  have hb := B.bytes
  have hr := B.returns
  have hat := atoms_spec (ws := (wqW y_L_shape c_L_shape 4 (some .int) [(0, 9, 12, 15), (0, 9, 15, 25)])) B.pre
  have hg := gt_hW hat
  have htab := vx_table (x := y_L_shape) B (hat _ List.mem_cons_self)
  have hown : s.vm.findClass "RubbingMirrorsLaw" = some m.cls := findClass_of_methodNamed B.named
  have hlocks := B.notSynchronized
  subst hsz
  have hD := hD0.self (sz := s.heap.size)
  generalize hAe : va_A ([(out, .inl (cJ, 1, .inr (.inl fo)))] ++ u0) s.heap.size = A at hD hU hV hsP ⊢
  have hA : ∀ q : Nat, s.heap.size ≤ q → A q := fun q h => by rw [← hAe]; exact Or.inr h
  have hS : va_S A s.heap s.heap [] := va_S.rf
  have hl := lv_entry ([.ref o, .int p0, .ref out]) (n := 4) (Nat.le_of_ble_eq_true rfl)
  rw [lg_entry_eq]
  generalize (lg_sl ([.ref o, .int p0, .ref out]) ++ List.replicate (4 - (lg_sl ([.ref o, .int p0, .ref out])).length) Slot.unset).toArray = ls at hl ⊢
  have hl : lv_has ls 4 [(0, .ref o), (1, .int p0), (2, .ref out)] := hl
  refine lv_aload_n hx hb d_L_shape_0 rfl (lv_at hl 2 rfl) ?_
  refine lv_iconst (v := 0) hx hb d_L_shape_1 (by decide) ?_
  refine lv_aload_n hx hb d_L_shape_2 rfl (lv_at hl 0 rfl) ?_
  refine lv_iload_n hx hb d_L_shape_3 rfl (lv_at hl 1 rfl) ?_
  have hP : va_P D cls (u0 ++ [(out, .inl (cJ, 1, .inr (.inl fo)))]) _ := ba_Pp List.perm_append_comm hP
  have hD : va_D A (u0 ++ [(out, .inl (cJ, 1, .inr (.inl fo)))]) := ba_Dp List.perm_append_comm hD
  refine xcalli (wc := u0) (wr := [(out, .inl (cJ, 1, .inr (.inl fo)))]) (vx_runV (As := [.int p0]) (rest := [.int 0, .ref out]) ⟨hx, hb, hml, hown, hg⟩ (hM s.heap.size) (cwV 1 hg (gv g_373 g_374 g_375 g_18 g_376) rfl rfl rfl (by decide +kernel) ⟨Nat.le_of_ble_eq_true rfl, Nat.le_of_ble_eq_true rfl⟩) (kV hP hD hK hN hS hA hU hV hsP ho) rfl rfl hl.1 rfl (lv_room (Nat.le_of_ble_eq_true rfl)) d_L_shape_4 ⟨Nat.le_of_ble_eq_true rfl, Nat.le_of_ble_eq_true rfl⟩) hP hD hS hA ?_ ?_
  · intro E ce q9 u1 H locs hpx hxe hP hD hS hce hcv hcl
    rcases hxe with ⟨hc9, rfl⟩ | ⟨hc9, rfl⟩
    · refine vx_catch (own := "RubbingMirrorsLaw") (name := eA) hown [] ⟨0, 9, 12, 15⟩ [⟨0, 9, 15, 25⟩] (htab.trans rfl) (List.forall_mem_nil _) (by decide) (by decide) (hg _ g_156) (nw_use nw_13 hN) hce hcv hcl ?_
      have hP : va_P D cls ([(out, .inl (cJ, 1, .inr (.inl fo)))] ++ u1) H := ba_Pp List.perm_append_comm hP
      have hD : va_D A ([(out, .inl (cJ, 1, .inr (.inl fo)))] ++ u1) := ba_Dp List.perm_append_comm hD
      refine W.widen (k := 3) (n := 40) (by omega) (by omega) ?_
      refine W.eq (g2 := F0 m 12 ls [.ref q9]) rfl ?_
      refine lv_astore_n (lv' := [(3, .ref q9), (0, .ref o), (1, .int p0), (2, .ref out)]) hx hb d_L_shape_12 rfl hl (by decide) rfl (fun ls hl => ?_)
      refine lv_iconst (v := 1) hx hb d_L_shape_13 (by decide) ?_
      exact W.iret hx hb hr (fun t9 ht hW => ⟨⟨_, ([(out, .inl (cJ, 1, .inr (.inl fo)))] ++ u1), rfl, ⟨hc9.symm, fo, u1, rfl, Or.inr ⟨by rw [hc9]; decide, hpx⟩⟩, by rw [ht]; exact hP, va_K.moved hW.alike hK, hD⟩, hS.F ht⟩) hS.2.2 d_L_shape_14
    · refine vx_catch (own := "RubbingMirrorsLaw") (name := eS) hown [⟨0, 9, 12, 15⟩] ⟨0, 9, 15, 25⟩ [] (htab.trans rfl) (List.forall_mem_cons.mpr ⟨Or.inr ⟨by decide, _, hg _ g_156, hN.2.2.1 (eS, eA) (List.mem_of_getElem? (i := 5) rfl)⟩, List.forall_mem_nil _⟩) (by decide) (by decide) (hg _ g_276) (nw_use nw_14 hN) hce hcv hcl ?_
      have hP : va_P D cls ([(out, .inl (cJ, 1, .inr (.inl fo)))] ++ u1) H := ba_Pp List.perm_append_comm hP
      have hD : va_D A ([(out, .inl (cJ, 1, .inr (.inl fo)))] ++ u1) := ba_Dp List.perm_append_comm hD
      refine W.widen (k := 3) (n := 40) (by omega) (by omega) ?_
      refine W.eq (g2 := F0 m 15 ls [.ref q9]) rfl ?_
      refine lv_astore_n (lv' := [(3, .ref q9), (0, .ref o), (1, .int p0), (2, .ref out)]) hx hb d_L_shape_15 rfl hl (by decide) rfl (fun ls hl => ?_)
      refine lv_iconst (v := 2) hx hb d_L_shape_16 (by decide) ?_
      exact W.iret hx hb hr (fun t9 ht hW => ⟨⟨_, ([(out, .inl (cJ, 1, .inr (.inl fo)))] ++ u1), rfl, ⟨hc9.symm, fo, u1, rfl, Or.inr ⟨by rw [hc9]; decide, hpx⟩⟩, by rw [ht]; exact hP, va_K.moved hW.alike hK, hD⟩, hS.F ht⟩) hS.2.2 d_L_shape_17
  · intro r1 u1 H locs hφ hP hD hS
    have hc9 := hφ0 _ _ hφ
    have hP : va_P D cls ([(out, .inl (cJ, 1, .inr (.inl fo)))] ++ u1) H := ba_Pp List.perm_append_comm hP
    have hD : va_D A ([(out, .inl (cJ, 1, .inr (.inl fo)))] ++ u1) := ba_Dp List.perm_append_comm hD
    refine W.widen (k := 3) (n := 40) (by omega) (by omega) ?_
    refine W.eq (g2 := F0 m 7 ls [.int r1, .int 0, .ref out]) rfl ?_
    refine lv_i2l (v := r1.toInt64) hx hb d_L_shape_7 rfl ?_
    refine va_last hx hb hK hP hD hS 0 2 rfl rfl (by unfold vp_in; decide) d_L_shape_8 (fun H locs hP hD hS => ?_)
    rw [sb_cl0] at hP hD
    have hP : va_P D cls ([(out, .inl (cJ, 1, .inr (.inl (vp_updL fo 0 r1.toInt64))))] ++ u1) H := hP
    have hD : va_D A ([(out, .inl (cJ, 1, .inr (.inl (vp_updL fo 0 r1.toInt64))))] ++ u1) := hD
    refine lv_goto (tgt := 18) hx hb d_L_shape_9 (by decide) ?_
    refine lv_iconst (v := 0) hx hb d_L_shape_18 (by decide) ?_
    exact W.iret hx hb hr (fun t9 ht hW => ⟨⟨_, ([(out, .inl (cJ, 1, .inr (.inl (vp_updL fo 0 r1.toInt64))))] ++ u1), rfl, ⟨hc9.symm, (vp_updL fo 0 r1.toInt64), u1, rfl, Or.inl ⟨hc9, r1, hφ, if_pos rfl⟩⟩, by rw [ht]; exact hP, va_K.moved hW.alike hK, hD⟩, hS.F ht⟩) hS.2.2 d_L_shape_19

set_option maxHeartbeats 4000000 in
set_option maxRecDepth 100000 in
/-- the law's carve -/
theorem c_L_carve_ok (l : Launch) (D : va_G) (cI cZ cJ cO : ClassId) (sz e0 mi : Nat) (o : Nat) (u0 : va_W) (ho : ∃ fs, (o, .inr (3, fs)) ∈ u0) (p0 p1 p2 : Int32) (c9 : Int32) (φ : va_W → Prop) (px : va_W → Prop) (hM : ∀ sz, vx_Met l y_M_carve (wq y_M_carve c_M_carve 5 none) ({ frames := 6, cells := 1, slots := 6, locals := 100 }) (kP D (TY cI cZ cJ cO) u0 [.ref o, .int p0, .int p1, .int p2] sz e0 mi) (va_Qv φ (mB D (TY cI cZ cJ cO) (va_A u0 sz)) (va_A u0 sz)) (vx_X px (xB D (TY cI cZ cJ cO) (va_A u0 sz) (fun E => (c9 = 1 ∧ E = eI) ∨ (c9 = 2 ∧ E = eA))) (va_A u0 sz)) 1 6 (va_A u0 sz)) (hφ0 : ∀ u, φ u → c9 = 0) : Met l y_L_carve (wqW y_L_carve c_L_carve 5 (some .int) [(0, 7, 10, 13), (0, 7, 14, 15)]) ({ frames := 7, cells := 1, slots := 6, locals := 124 }) (kP D (TY cI cZ cJ cO) ([] ++ u0) [.ref o, .int p0, .int p1, .int p2] sz e0 mi) (va_Qi (fun (r : Int32) (u : va_W) => r = c9 ∧ ((c9 = 0 ∧ φ u) ∨ (¬ c9 = 0 ∧ px u))) (mB D (TY cI cZ cJ cO) (va_A ([] ++ u0) sz)) (va_A ([] ++ u0) sz)) 1 6 (va_A ([] ++ u0) sz) := by
  refine met_ofWH (cc := c_L_carve) (maxL := 5) (ret := (some .int)) (hh := [(0, 7, 10, 13), (0, 7, 14, 15)]) (by decide) rfl ?_
  intro p e s m args below meth c s₁ B hml hv
  obtain ⟨rfl, hsz, hP, hK, hD0, hN, hU, hV, hsP⟩ := hv
  have hx := B.exec
  have hb := B.bytes
  have hr := B.returns
  have hat := atoms_spec (ws := (wqW y_L_carve c_L_carve 5 (some .int) [(0, 7, 10, 13), (0, 7, 14, 15)])) B.pre
  have hg := gt_hW hat
  have htab := vx_table (x := y_L_carve) B (hat _ List.mem_cons_self)
  have hown : s.vm.findClass "RubbingMirrorsLaw" = some m.cls := findClass_of_methodNamed B.named
  have hlocks := B.notSynchronized
  subst hsz
  have hD := hD0.self (sz := s.heap.size)
  generalize hAe : va_A ([] ++ u0) s.heap.size = A at hD hU hV hsP ⊢
  have hA : ∀ q : Nat, s.heap.size ≤ q → A q := fun q h => by rw [← hAe]; exact Or.inr h
  have hS : va_S A s.heap s.heap [] := va_S.rf
  have hl := lv_entry ([.ref o, .int p0, .int p1, .int p2]) (n := 5) (Nat.le_of_ble_eq_true rfl)
  rw [lg_entry_eq]
  generalize (lg_sl ([.ref o, .int p0, .int p1, .int p2]) ++ List.replicate (5 - (lg_sl ([.ref o, .int p0, .int p1, .int p2])).length) Slot.unset).toArray = ls at hl ⊢
  have hl : lv_has ls 5 [(0, .ref o), (1, .int p0), (2, .int p1), (3, .int p2)] := hl
  refine lv_aload_n hx hb d_L_carve_0 rfl (lv_at hl 0 rfl) ?_
  refine lv_iload_n hx hb d_L_carve_1 rfl (lv_at hl 1 rfl) ?_
  refine lv_iload_n hx hb d_L_carve_2 rfl (lv_at hl 2 rfl) ?_
  refine lv_iload_n hx hb d_L_carve_3 rfl (lv_at hl 3 rfl) ?_
  have hP : va_P D cls (u0 ++ []) _ := ba_Pp List.perm_append_comm hP
  have hD : va_D A (u0 ++ []) := ba_Dp List.perm_append_comm hD
  refine xcallv (wc := u0) (wr := []) (vx_runV (As := [.int p0, .int p1, .int p2]) (rest := []) ⟨hx, hb, hml, hown, hg⟩ (hM s.heap.size) (cwV 3 hg (gv g_451 g_452 g_453 g_18 g_454) rfl rfl rfl (by decide +kernel) ⟨Nat.le_of_ble_eq_true rfl, Nat.le_of_ble_eq_true rfl⟩) (kV hP hD hK hN hS hA hU hV hsP ho) rfl rfl hl.1 rfl (lv_room (Nat.le_of_ble_eq_true rfl)) d_L_carve_4 ⟨Nat.le_of_ble_eq_true rfl, Nat.le_of_ble_eq_true rfl⟩) hP hD hS hA ?_ ?_
  · intro E ce q9 u1 H locs hpx hxe hP hD hS hce hcv hcl
    rcases hxe with ⟨hc9, rfl⟩ | ⟨hc9, rfl⟩
    · refine vx_catch (own := "RubbingMirrorsLaw") (name := eI) hown [] ⟨0, 7, 10, 13⟩ [⟨0, 7, 14, 15⟩] (htab.trans rfl) (List.forall_mem_nil _) (by decide) (by decide) (hg _ g_155) (nw_use nw_6 hN) hce hcv hcl ?_
      have hP : va_P D cls ([] ++ u1) H := ba_Pp List.perm_append_comm hP
      have hD : va_D A ([] ++ u1) := ba_Dp List.perm_append_comm hD
      refine W.widen (k := 1) (n := 6) (by omega) (by omega) ?_
      refine W.eq (g2 := F0 m 10 ls [.ref q9]) rfl ?_
      refine lv_astore (lv' := [(4, .ref q9), (0, .ref o), (1, .int p0), (2, .int p1), (3, .int p2)]) hx hb d_L_carve_10 hl (by decide) rfl (fun ls hl => ?_)
      refine lv_iconst (v := 1) hx hb d_L_carve_12 (by decide) ?_
      exact W.iret hx hb hr (fun t9 ht hW => ⟨⟨_, ([] ++ u1), rfl, ⟨hc9.symm, Or.inr ⟨by rw [hc9]; decide, hpx⟩⟩, by rw [ht]; exact hP, va_K.moved hW.alike hK, hD⟩, hS.F ht⟩) hS.2.2 d_L_carve_13
    · refine vx_catch (own := "RubbingMirrorsLaw") (name := eA) hown [⟨0, 7, 10, 13⟩] ⟨0, 7, 14, 15⟩ [] (htab.trans rfl) (List.forall_mem_cons.mpr ⟨Or.inr ⟨by decide, _, hg _ g_155, hN.2.2.1 (eA, eI) (List.mem_of_getElem? (i := 2) rfl)⟩, List.forall_mem_nil _⟩) (by decide) (by decide) (hg _ g_156) (nw_use nw_13 hN) hce hcv hcl ?_
      have hP : va_P D cls ([] ++ u1) H := ba_Pp List.perm_append_comm hP
      have hD : va_D A ([] ++ u1) := ba_Dp List.perm_append_comm hD
      refine W.widen (k := 1) (n := 6) (by omega) (by omega) ?_
      refine W.eq (g2 := F0 m 14 ls [.ref q9]) rfl ?_
      refine lv_astore (lv' := [(4, .ref q9), (0, .ref o), (1, .int p0), (2, .int p1), (3, .int p2)]) hx hb d_L_carve_14 hl (by decide) rfl (fun ls hl => ?_)
      refine lv_iconst (v := 2) hx hb d_L_carve_16 (by decide) ?_
      exact W.iret hx hb hr (fun t9 ht hW => ⟨⟨_, ([] ++ u1), rfl, ⟨hc9.symm, Or.inr ⟨by rw [hc9]; decide, hpx⟩⟩, by rw [ht]; exact hP, va_K.moved hW.alike hK, hD⟩, hS.F ht⟩) hS.2.2 d_L_carve_17
  · intro u1 H locs hφ hP hD hS
    have hc9 := hφ0 _ hφ
    have hP : va_P D cls ([] ++ u1) H := ba_Pp List.perm_append_comm hP
    have hD : va_D A ([] ++ u1) := ba_Dp List.perm_append_comm hD
    refine W.widen (k := 1) (n := 6) (by omega) (by omega) ?_
    refine W.eq (g2 := F0 m 7 ls []) rfl ?_
    refine lv_goto (tgt := 18) hx hb d_L_carve_7 (by decide) ?_
    refine lv_iconst (v := 0) hx hb d_L_carve_18 (by decide) ?_
    exact W.iret hx hb hr (fun t9 ht hW => ⟨⟨_, ([] ++ u1), rfl, ⟨hc9.symm, Or.inl ⟨hc9, hφ⟩⟩, by rw [ht]; exact hP, va_K.moved hW.alike hK, hD⟩, hS.F ht⟩) hS.2.2 d_L_carve_19

set_option maxHeartbeats 4000000 in
set_option maxRecDepth 100000 in
/-- the law's match_ -/
theorem c_L_match__ok (l : Launch) (D : va_G) (cI cZ cJ cO : ClassId) (sz e0 mi : Nat) (o : Nat) (u0 : va_W) (ho : ∃ fs, (o, .inr (3, fs)) ∈ u0) (out : Nat) (fo : Nat → Int64) (p0 : Int32) (c9 : Int32) (φ : Int32 → va_W → Prop) (px : va_W → Prop) (hM : ∀ sz, vx_Met l y_M_match_ (wq y_M_match_ c_M_match_ 2 (some .int)) ({ frames := 6, cells := 1, slots := 6, locals := 100 }) (kP D (TY cI cZ cJ cO) u0 [.ref o, .int p0] sz e0 mi) (va_Qi φ (mB D (TY cI cZ cJ cO) (va_A u0 sz)) (va_A u0 sz)) (vx_X px (xB D (TY cI cZ cJ cO) (va_A u0 sz) (fun E => (c9 = 1 ∧ E = eS) ∨ (c9 = 2 ∧ E = eI))) (va_A u0 sz)) 1 6 (va_A u0 sz)) (hφ0 : ∀ r u, φ r u → c9 = 0) : Met l y_L_match_ (wqW y_L_match_ c_L_match_ 4 (some .int) [(0, 9, 12, 25), (0, 9, 15, 13)]) ({ frames := 7, cells := 1, slots := 6, locals := 121 }) (kP D (TY cI cZ cJ cO) ([(out, .inl (cJ, 1, .inr (.inl fo)))] ++ u0) [.ref o, .int p0, .ref out] sz e0 mi) (va_Qi (fun (r : Int32) (u : va_W) => r = c9 ∧ ∃ (fo1 : Nat → Int64) (u1 : va_W), u = [(out, .inl (cJ, 1, .inr (.inl fo1)))] ++ u1 ∧ ((c9 = 0 ∧ ∃ r1, φ r1 u1 ∧ fo1 0 = r1.toInt64) ∨ (¬ c9 = 0 ∧ px u1))) (mB D (TY cI cZ cJ cO) (va_A ([(out, .inl (cJ, 1, .inr (.inl fo)))] ++ u0) sz)) (va_A ([(out, .inl (cJ, 1, .inr (.inl fo)))] ++ u0) sz)) 1 6 (va_A ([(out, .inl (cJ, 1, .inr (.inl fo)))] ++ u0) sz) := by
  refine met_ofWH (cc := c_L_match_) (maxL := 4) (ret := (some .int)) (hh := [(0, 9, 12, 25), (0, 9, 15, 13)]) (by decide) rfl ?_
  intro p e s m args below meth c s₁ B hml hv
  obtain ⟨rfl, hsz, hP, hK, hD0, hN, hU, hV, hsP⟩ := hv
  have hx := B.exec
  have hb := B.bytes
  have hr := B.returns
  have hat := atoms_spec (ws := (wqW y_L_match_ c_L_match_ 4 (some .int) [(0, 9, 12, 25), (0, 9, 15, 13)])) B.pre
  have hg := gt_hW hat
  have htab := vx_table (x := y_L_match_) B (hat _ List.mem_cons_self)
  have hown : s.vm.findClass "RubbingMirrorsLaw" = some m.cls := findClass_of_methodNamed B.named
  have hlocks := B.notSynchronized
  subst hsz
  have hD := hD0.self (sz := s.heap.size)
  generalize hAe : va_A ([(out, .inl (cJ, 1, .inr (.inl fo)))] ++ u0) s.heap.size = A at hD hU hV hsP ⊢
  have hA : ∀ q : Nat, s.heap.size ≤ q → A q := fun q h => by rw [← hAe]; exact Or.inr h
  have hS : va_S A s.heap s.heap [] := va_S.rf
  have hl := lv_entry ([.ref o, .int p0, .ref out]) (n := 4) (Nat.le_of_ble_eq_true rfl)
  rw [lg_entry_eq]
  generalize (lg_sl ([.ref o, .int p0, .ref out]) ++ List.replicate (4 - (lg_sl ([.ref o, .int p0, .ref out])).length) Slot.unset).toArray = ls at hl ⊢
  have hl : lv_has ls 4 [(0, .ref o), (1, .int p0), (2, .ref out)] := hl
  refine lv_aload_n hx hb d_L_match__0 rfl (lv_at hl 2 rfl) ?_
  refine lv_iconst (v := 0) hx hb d_L_match__1 (by decide) ?_
  refine lv_aload_n hx hb d_L_match__2 rfl (lv_at hl 0 rfl) ?_
  refine lv_iload_n hx hb d_L_match__3 rfl (lv_at hl 1 rfl) ?_
  have hP : va_P D cls (u0 ++ [(out, .inl (cJ, 1, .inr (.inl fo)))]) _ := ba_Pp List.perm_append_comm hP
  have hD : va_D A (u0 ++ [(out, .inl (cJ, 1, .inr (.inl fo)))]) := ba_Dp List.perm_append_comm hD
  refine xcalli (wc := u0) (wr := [(out, .inl (cJ, 1, .inr (.inl fo)))]) (vx_runV (As := [.int p0]) (rest := [.int 0, .ref out]) ⟨hx, hb, hml, hown, hg⟩ (hM s.heap.size) (cwV 1 hg (gv g_484 g_485 g_486 g_18 g_487) rfl rfl rfl (by decide +kernel) ⟨Nat.le_of_ble_eq_true rfl, Nat.le_of_ble_eq_true rfl⟩) (kV hP hD hK hN hS hA hU hV hsP ho) rfl rfl hl.1 rfl (lv_room (Nat.le_of_ble_eq_true rfl)) d_L_match__4 ⟨Nat.le_of_ble_eq_true rfl, Nat.le_of_ble_eq_true rfl⟩) hP hD hS hA ?_ ?_
  · intro E ce q9 u1 H locs hpx hxe hP hD hS hce hcv hcl
    rcases hxe with ⟨hc9, rfl⟩ | ⟨hc9, rfl⟩
    · refine vx_catch (own := "RubbingMirrorsLaw") (name := eS) hown [] ⟨0, 9, 12, 25⟩ [⟨0, 9, 15, 13⟩] (htab.trans rfl) (List.forall_mem_nil _) (by decide) (by decide) (hg _ g_276) (nw_use nw_14 hN) hce hcv hcl ?_
      have hP : va_P D cls ([(out, .inl (cJ, 1, .inr (.inl fo)))] ++ u1) H := ba_Pp List.perm_append_comm hP
      have hD : va_D A ([(out, .inl (cJ, 1, .inr (.inl fo)))] ++ u1) := ba_Dp List.perm_append_comm hD
      refine W.widen (k := 1) (n := 6) (by omega) (by omega) ?_
      refine W.eq (g2 := F0 m 12 ls [.ref q9]) rfl ?_
      refine lv_astore_n (lv' := [(3, .ref q9), (0, .ref o), (1, .int p0), (2, .ref out)]) hx hb d_L_match__12 rfl hl (by decide) rfl (fun ls hl => ?_)
      refine lv_iconst (v := 1) hx hb d_L_match__13 (by decide) ?_
      exact W.iret hx hb hr (fun t9 ht hW => ⟨⟨_, ([(out, .inl (cJ, 1, .inr (.inl fo)))] ++ u1), rfl, ⟨hc9.symm, fo, u1, rfl, Or.inr ⟨by rw [hc9]; decide, hpx⟩⟩, by rw [ht]; exact hP, va_K.moved hW.alike hK, hD⟩, hS.F ht⟩) hS.2.2 d_L_match__14
    · refine vx_catch (own := "RubbingMirrorsLaw") (name := eI) hown [⟨0, 9, 12, 25⟩] ⟨0, 9, 15, 13⟩ [] (htab.trans rfl) (List.forall_mem_cons.mpr ⟨Or.inr ⟨by decide, _, hg _ g_276, hN.2.2.1 (eI, eS) (List.mem_of_getElem? (i := 1) rfl)⟩, List.forall_mem_nil _⟩) (by decide) (by decide) (hg _ g_155) (nw_use nw_6 hN) hce hcv hcl ?_
      have hP : va_P D cls ([(out, .inl (cJ, 1, .inr (.inl fo)))] ++ u1) H := ba_Pp List.perm_append_comm hP
      have hD : va_D A ([(out, .inl (cJ, 1, .inr (.inl fo)))] ++ u1) := ba_Dp List.perm_append_comm hD
      refine W.widen (k := 1) (n := 6) (by omega) (by omega) ?_
      refine W.eq (g2 := F0 m 15 ls [.ref q9]) rfl ?_
      refine lv_astore_n (lv' := [(3, .ref q9), (0, .ref o), (1, .int p0), (2, .ref out)]) hx hb d_L_match__15 rfl hl (by decide) rfl (fun ls hl => ?_)
      refine lv_iconst (v := 2) hx hb d_L_match__16 (by decide) ?_
      exact W.iret hx hb hr (fun t9 ht hW => ⟨⟨_, ([(out, .inl (cJ, 1, .inr (.inl fo)))] ++ u1), rfl, ⟨hc9.symm, fo, u1, rfl, Or.inr ⟨by rw [hc9]; decide, hpx⟩⟩, by rw [ht]; exact hP, va_K.moved hW.alike hK, hD⟩, hS.F ht⟩) hS.2.2 d_L_match__17
  · intro r1 u1 H locs hφ hP hD hS
    have hc9 := hφ0 _ _ hφ
    have hP : va_P D cls ([(out, .inl (cJ, 1, .inr (.inl fo)))] ++ u1) H := ba_Pp List.perm_append_comm hP
    have hD : va_D A ([(out, .inl (cJ, 1, .inr (.inl fo)))] ++ u1) := ba_Dp List.perm_append_comm hD
    refine W.widen (k := 1) (n := 6) (by omega) (by omega) ?_
    refine W.eq (g2 := F0 m 7 ls [.int r1, .int 0, .ref out]) rfl ?_
    refine lv_i2l (v := r1.toInt64) hx hb d_L_match__7 rfl ?_
    refine va_last hx hb hK hP hD hS 0 2 rfl rfl (by unfold vp_in; decide) d_L_match__8 (fun H locs hP hD hS => ?_)
    rw [sb_cl0] at hP hD
    have hP : va_P D cls ([(out, .inl (cJ, 1, .inr (.inl (vp_updL fo 0 r1.toInt64))))] ++ u1) H := hP
    have hD : va_D A ([(out, .inl (cJ, 1, .inr (.inl (vp_updL fo 0 r1.toInt64))))] ++ u1) := hD
    refine lv_goto (tgt := 18) hx hb d_L_match__9 (by decide) ?_
    refine lv_iconst (v := 0) hx hb d_L_match__18 (by decide) ?_
    exact W.iret hx hb hr (fun t9 ht hW => ⟨⟨_, ([(out, .inl (cJ, 1, .inr (.inl (vp_updL fo 0 r1.toInt64))))] ++ u1), rfl, ⟨hc9.symm, (vp_updL fo 0 r1.toInt64), u1, rfl, Or.inl ⟨hc9, r1, hφ, if_pos rfl⟩⟩, by rw [ht]; exact hP, va_K.moved hW.alike hK, hD⟩, hS.F ht⟩) hS.2.2 d_L_match__19

set_option maxHeartbeats 4000000 in
set_option maxRecDepth 100000 in
/-- the law's kind -/
theorem c_L_kind_ok (l : Launch) (D : va_G) (cI cZ cJ cO : ClassId) (sz e0 mi : Nat) (o : Nat) (u0 : va_W) (ho : ∃ fs, (o, .inr (3, fs)) ∈ u0) (out : Nat) (fo : Nat → Int64) (p0 : Int32) (c9 : Int32) (φ : Int32 → va_W → Prop) (px : va_W → Prop) (hM : ∀ sz, vx_Met l y_M_kind (wq y_M_kind c_M_kind 2 (some .int)) ({ frames := 7, cells := 2, slots := 40, locals := 191 }) (kP D (TY cI cZ cJ cO) u0 [.ref o, .int p0] sz e0 mi) (va_Qi φ (mB D (TY cI cZ cJ cO) (va_A u0 sz)) (va_A u0 sz)) (vx_X px (xB D (TY cI cZ cJ cO) (va_A u0 sz) (fun E => (c9 = 1 ∧ E = eA) ∨ (c9 = 2 ∧ E = eS))) (va_A u0 sz)) 2 40 (va_A u0 sz)) (hφ0 : ∀ r u, φ r u → c9 = 0) : Met l y_L_kind (wqW y_L_kind c_L_kind 4 (some .int) [(0, 9, 12, 15), (0, 9, 15, 25)]) ({ frames := 8, cells := 2, slots := 40, locals := 212 }) (kP D (TY cI cZ cJ cO) ([(out, .inl (cJ, 1, .inr (.inl fo)))] ++ u0) [.ref o, .int p0, .ref out] sz e0 mi) (va_Qi (fun (r : Int32) (u : va_W) => r = c9 ∧ ∃ (fo1 : Nat → Int64) (u1 : va_W), u = [(out, .inl (cJ, 1, .inr (.inl fo1)))] ++ u1 ∧ ((c9 = 0 ∧ ∃ r1, φ r1 u1 ∧ fo1 0 = r1.toInt64) ∨ (¬ c9 = 0 ∧ px u1))) (mB D (TY cI cZ cJ cO) (va_A ([(out, .inl (cJ, 1, .inr (.inl fo)))] ++ u0) sz)) (va_A ([(out, .inl (cJ, 1, .inr (.inl fo)))] ++ u0) sz)) 2 40 (va_A ([(out, .inl (cJ, 1, .inr (.inl fo)))] ++ u0) sz) := by
  refine met_ofWH (cc := c_L_kind) (maxL := 4) (ret := (some .int)) (hh := [(0, 9, 12, 15), (0, 9, 15, 25)]) (by decide) rfl ?_
  intro p e s m args below meth c s₁ B hml hv
  obtain ⟨rfl, hsz, hP, hK, hD0, hN, hU, hV, hsP⟩ := hv
  have hx := B.exec
  have hb := B.bytes
  have hr := B.returns
  have hat := atoms_spec (ws := (wqW y_L_kind c_L_kind 4 (some .int) [(0, 9, 12, 15), (0, 9, 15, 25)])) B.pre
  have hg := gt_hW hat
  have htab := vx_table (x := y_L_kind) B (hat _ List.mem_cons_self)
  have hown : s.vm.findClass "RubbingMirrorsLaw" = some m.cls := findClass_of_methodNamed B.named
  have hlocks := B.notSynchronized
  subst hsz
  have hD := hD0.self (sz := s.heap.size)
  generalize hAe : va_A ([(out, .inl (cJ, 1, .inr (.inl fo)))] ++ u0) s.heap.size = A at hD hU hV hsP ⊢
  have hA : ∀ q : Nat, s.heap.size ≤ q → A q := fun q h => by rw [← hAe]; exact Or.inr h
  have hS : va_S A s.heap s.heap [] := va_S.rf
  have hl := lv_entry ([.ref o, .int p0, .ref out]) (n := 4) (Nat.le_of_ble_eq_true rfl)
  rw [lg_entry_eq]
  generalize (lg_sl ([.ref o, .int p0, .ref out]) ++ List.replicate (4 - (lg_sl ([.ref o, .int p0, .ref out])).length) Slot.unset).toArray = ls at hl ⊢
  have hl : lv_has ls 4 [(0, .ref o), (1, .int p0), (2, .ref out)] := hl
  refine lv_aload_n hx hb d_L_kind_0 rfl (lv_at hl 2 rfl) ?_
  refine lv_iconst (v := 0) hx hb d_L_kind_1 (by decide) ?_
  refine lv_aload_n hx hb d_L_kind_2 rfl (lv_at hl 0 rfl) ?_
  refine lv_iload_n hx hb d_L_kind_3 rfl (lv_at hl 1 rfl) ?_
  have hP : va_P D cls (u0 ++ [(out, .inl (cJ, 1, .inr (.inl fo)))]) _ := ba_Pp List.perm_append_comm hP
  have hD : va_D A (u0 ++ [(out, .inl (cJ, 1, .inr (.inl fo)))]) := ba_Dp List.perm_append_comm hD
  refine xcalli (wc := u0) (wr := [(out, .inl (cJ, 1, .inr (.inl fo)))]) (vx_runV (As := [.int p0]) (rest := [.int 0, .ref out]) ⟨hx, hb, hml, hown, hg⟩ (hM s.heap.size) (cwV 1 hg (gv g_512 g_513 g_514 g_18 g_515) rfl rfl rfl (by decide +kernel) ⟨Nat.le_of_ble_eq_true rfl, Nat.le_of_ble_eq_true rfl⟩) (kV hP hD hK hN hS hA hU hV hsP ho) rfl rfl hl.1 rfl (lv_room (Nat.le_of_ble_eq_true rfl)) d_L_kind_4 ⟨Nat.le_of_ble_eq_true rfl, Nat.le_of_ble_eq_true rfl⟩) hP hD hS hA ?_ ?_
  · intro E ce q9 u1 H locs hpx hxe hP hD hS hce hcv hcl
    rcases hxe with ⟨hc9, rfl⟩ | ⟨hc9, rfl⟩
    · refine vx_catch (own := "RubbingMirrorsLaw") (name := eA) hown [] ⟨0, 9, 12, 15⟩ [⟨0, 9, 15, 25⟩] (htab.trans rfl) (List.forall_mem_nil _) (by decide) (by decide) (hg _ g_156) (nw_use nw_13 hN) hce hcv hcl ?_
      have hP : va_P D cls ([(out, .inl (cJ, 1, .inr (.inl fo)))] ++ u1) H := ba_Pp List.perm_append_comm hP
      have hD : va_D A ([(out, .inl (cJ, 1, .inr (.inl fo)))] ++ u1) := ba_Dp List.perm_append_comm hD
      refine W.widen (k := 2) (n := 40) (by omega) (by omega) ?_
      refine W.eq (g2 := F0 m 12 ls [.ref q9]) rfl ?_
      refine lv_astore_n (lv' := [(3, .ref q9), (0, .ref o), (1, .int p0), (2, .ref out)]) hx hb d_L_kind_12 rfl hl (by decide) rfl (fun ls hl => ?_)
      refine lv_iconst (v := 1) hx hb d_L_kind_13 (by decide) ?_
      exact W.iret hx hb hr (fun t9 ht hW => ⟨⟨_, ([(out, .inl (cJ, 1, .inr (.inl fo)))] ++ u1), rfl, ⟨hc9.symm, fo, u1, rfl, Or.inr ⟨by rw [hc9]; decide, hpx⟩⟩, by rw [ht]; exact hP, va_K.moved hW.alike hK, hD⟩, hS.F ht⟩) hS.2.2 d_L_kind_14
    · refine vx_catch (own := "RubbingMirrorsLaw") (name := eS) hown [⟨0, 9, 12, 15⟩] ⟨0, 9, 15, 25⟩ [] (htab.trans rfl) (List.forall_mem_cons.mpr ⟨Or.inr ⟨by decide, _, hg _ g_156, hN.2.2.1 (eS, eA) (List.mem_of_getElem? (i := 5) rfl)⟩, List.forall_mem_nil _⟩) (by decide) (by decide) (hg _ g_276) (nw_use nw_14 hN) hce hcv hcl ?_
      have hP : va_P D cls ([(out, .inl (cJ, 1, .inr (.inl fo)))] ++ u1) H := ba_Pp List.perm_append_comm hP
      have hD : va_D A ([(out, .inl (cJ, 1, .inr (.inl fo)))] ++ u1) := ba_Dp List.perm_append_comm hD
      refine W.widen (k := 2) (n := 40) (by omega) (by omega) ?_
      refine W.eq (g2 := F0 m 15 ls [.ref q9]) rfl ?_
      refine lv_astore_n (lv' := [(3, .ref q9), (0, .ref o), (1, .int p0), (2, .ref out)]) hx hb d_L_kind_15 rfl hl (by decide) rfl (fun ls hl => ?_)
      refine lv_iconst (v := 2) hx hb d_L_kind_16 (by decide) ?_
      exact W.iret hx hb hr (fun t9 ht hW => ⟨⟨_, ([(out, .inl (cJ, 1, .inr (.inl fo)))] ++ u1), rfl, ⟨hc9.symm, fo, u1, rfl, Or.inr ⟨by rw [hc9]; decide, hpx⟩⟩, by rw [ht]; exact hP, va_K.moved hW.alike hK, hD⟩, hS.F ht⟩) hS.2.2 d_L_kind_17
  · intro r1 u1 H locs hφ hP hD hS
    have hc9 := hφ0 _ _ hφ
    have hP : va_P D cls ([(out, .inl (cJ, 1, .inr (.inl fo)))] ++ u1) H := ba_Pp List.perm_append_comm hP
    have hD : va_D A ([(out, .inl (cJ, 1, .inr (.inl fo)))] ++ u1) := ba_Dp List.perm_append_comm hD
    refine W.widen (k := 2) (n := 40) (by omega) (by omega) ?_
    refine W.eq (g2 := F0 m 7 ls [.int r1, .int 0, .ref out]) rfl ?_
    refine lv_i2l (v := r1.toInt64) hx hb d_L_kind_7 rfl ?_
    refine va_last hx hb hK hP hD hS 0 2 rfl rfl (by unfold vp_in; decide) d_L_kind_8 (fun H locs hP hD hS => ?_)
    rw [sb_cl0] at hP hD
    have hP : va_P D cls ([(out, .inl (cJ, 1, .inr (.inl (vp_updL fo 0 r1.toInt64))))] ++ u1) H := hP
    have hD : va_D A ([(out, .inl (cJ, 1, .inr (.inl (vp_updL fo 0 r1.toInt64))))] ++ u1) := hD
    refine lv_goto (tgt := 18) hx hb d_L_kind_9 (by decide) ?_
    refine lv_iconst (v := 0) hx hb d_L_kind_18 (by decide) ?_
    exact W.iret hx hb hr (fun t9 ht hW => ⟨⟨_, ([(out, .inl (cJ, 1, .inr (.inl (vp_updL fo 0 r1.toInt64))))] ++ u1), rfl, ⟨hc9.symm, (vp_updL fo 0 r1.toInt64), u1, rfl, Or.inl ⟨hc9, r1, hφ, if_pos rfl⟩⟩, by rw [ht]; exact hP, va_K.moved hW.alike hK, hD⟩, hS.F ht⟩) hS.2.2 d_L_kind_19

set_option maxHeartbeats 4000000 in
set_option maxRecDepth 100000 in
/-- the law's question -/
theorem c_L_question_ok (l : Launch) (D : va_G) (cI cZ cJ cO : ClassId) (sz e0 mi : Nat) (o : Nat) (u0 : va_W) (ho : ∃ fs, (o, .inr (3, fs)) ∈ u0) (out : Nat) (fo : Nat → Int64) (p0 p1 p2 : Int32) (c9 : Int32) (φ : Int32 → va_W → Prop) (px : va_W → Prop) (hM : ∀ sz, vx_Met l y_M_question (wq y_M_question c_M_question 5 (some .int)) ({ frames := 7, cells := 2, slots := 40, locals := 191 }) (kP D (TY cI cZ cJ cO) u0 [.ref o, .int p0, .int p1, .int p2] sz e0 mi) (va_Qi φ (mB D (TY cI cZ cJ cO) (va_A u0 sz)) (va_A u0 sz)) (vx_X px (xB D (TY cI cZ cJ cO) (va_A u0 sz) (fun E => (c9 = 1 ∧ E = eI) ∨ (c9 = 2 ∧ E = eA) ∨ (c9 = 3 ∧ E = eS))) (va_A u0 sz)) 2 40 (va_A u0 sz)) (hφ0 : ∀ r u, φ r u → c9 = 0) : Met l y_L_question (wqW y_L_question c_L_question 6 (some .int) [(0, 12, 15, 13), (0, 12, 19, 15), (0, 12, 23, 25)]) ({ frames := 8, cells := 2, slots := 40, locals := 215 }) (kP D (TY cI cZ cJ cO) ([(out, .inl (cJ, 1, .inr (.inl fo)))] ++ u0) [.ref o, .int p0, .int p1, .int p2, .ref out] sz e0 mi) (va_Qi (fun (r : Int32) (u : va_W) => r = c9 ∧ ∃ (fo1 : Nat → Int64) (u1 : va_W), u = [(out, .inl (cJ, 1, .inr (.inl fo1)))] ++ u1 ∧ ((c9 = 0 ∧ ∃ r1, φ r1 u1 ∧ fo1 0 = r1.toInt64) ∨ (¬ c9 = 0 ∧ px u1))) (mB D (TY cI cZ cJ cO) (va_A ([(out, .inl (cJ, 1, .inr (.inl fo)))] ++ u0) sz)) (va_A ([(out, .inl (cJ, 1, .inr (.inl fo)))] ++ u0) sz)) 2 40 (va_A ([(out, .inl (cJ, 1, .inr (.inl fo)))] ++ u0) sz) := by
  refine met_ofWH (cc := c_L_question) (maxL := 6) (ret := (some .int)) (hh := [(0, 12, 15, 13), (0, 12, 19, 15), (0, 12, 23, 25)]) (by decide) rfl ?_
  intro p e s m args below meth c s₁ B hml hv
  obtain ⟨rfl, hsz, hP, hK, hD0, hN, hU, hV, hsP⟩ := hv
  have hx := B.exec
  have hb := B.bytes
  have hr := B.returns
  have hat := atoms_spec (ws := (wqW y_L_question c_L_question 6 (some .int) [(0, 12, 15, 13), (0, 12, 19, 15), (0, 12, 23, 25)])) B.pre
  have hg := gt_hW hat
  have htab := vx_table (x := y_L_question) B (hat _ List.mem_cons_self)
  have hown : s.vm.findClass "RubbingMirrorsLaw" = some m.cls := findClass_of_methodNamed B.named
  have hlocks := B.notSynchronized
  subst hsz
  have hD := hD0.self (sz := s.heap.size)
  generalize hAe : va_A ([(out, .inl (cJ, 1, .inr (.inl fo)))] ++ u0) s.heap.size = A at hD hU hV hsP ⊢
  have hA : ∀ q : Nat, s.heap.size ≤ q → A q := fun q h => by rw [← hAe]; exact Or.inr h
  have hS : va_S A s.heap s.heap [] := va_S.rf
  have hl := lv_entry ([.ref o, .int p0, .int p1, .int p2, .ref out]) (n := 6) (Nat.le_of_ble_eq_true rfl)
  rw [lg_entry_eq]
  generalize (lg_sl ([.ref o, .int p0, .int p1, .int p2, .ref out]) ++ List.replicate (6 - (lg_sl ([.ref o, .int p0, .int p1, .int p2, .ref out])).length) Slot.unset).toArray = ls at hl ⊢
  have hl : lv_has ls 6 [(0, .ref o), (1, .int p0), (2, .int p1), (3, .int p2), (4, .ref out)] := hl
  refine lv_aload hx hb d_L_question_0 (lv_at hl 4 rfl) ?_
  refine lv_iconst (v := 0) hx hb d_L_question_2 (by decide) ?_
  refine lv_aload_n hx hb d_L_question_3 rfl (lv_at hl 0 rfl) ?_
  refine lv_iload_n hx hb d_L_question_4 rfl (lv_at hl 1 rfl) ?_
  refine lv_iload_n hx hb d_L_question_5 rfl (lv_at hl 2 rfl) ?_
  refine lv_iload_n hx hb d_L_question_6 rfl (lv_at hl 3 rfl) ?_
  have hP : va_P D cls (u0 ++ [(out, .inl (cJ, 1, .inr (.inl fo)))]) _ := ba_Pp List.perm_append_comm hP
  have hD : va_D A (u0 ++ [(out, .inl (cJ, 1, .inr (.inl fo)))]) := ba_Dp List.perm_append_comm hD
  refine xcalli (wc := u0) (wr := [(out, .inl (cJ, 1, .inr (.inl fo)))]) (vx_runV (As := [.int p0, .int p1, .int p2]) (rest := [.int 0, .ref out]) ⟨hx, hb, hml, hown, hg⟩ (hM s.heap.size) (cwV 3 hg (gv g_542 g_543 g_544 g_18 g_545) rfl rfl rfl (by decide +kernel) ⟨Nat.le_of_ble_eq_true rfl, Nat.le_of_ble_eq_true rfl⟩) (kV hP hD hK hN hS hA hU hV hsP ho) rfl rfl hl.1 rfl (lv_room (Nat.le_of_ble_eq_true rfl)) d_L_question_7 ⟨Nat.le_of_ble_eq_true rfl, Nat.le_of_ble_eq_true rfl⟩) hP hD hS hA ?_ ?_
  · intro E ce q9 u1 H locs hpx hxe hP hD hS hce hcv hcl
    rcases hxe with ⟨hc9, rfl⟩ | ⟨hc9, rfl⟩ | ⟨hc9, rfl⟩
    · refine vx_catch (own := "RubbingMirrorsLaw") (name := eI) hown [] ⟨0, 12, 15, 13⟩ [⟨0, 12, 19, 15⟩, ⟨0, 12, 23, 25⟩] (htab.trans rfl) (List.forall_mem_nil _) (by decide) (by decide) (hg _ g_155) (nw_use nw_6 hN) hce hcv hcl ?_
      have hP : va_P D cls ([(out, .inl (cJ, 1, .inr (.inl fo)))] ++ u1) H := ba_Pp List.perm_append_comm hP
      have hD : va_D A ([(out, .inl (cJ, 1, .inr (.inl fo)))] ++ u1) := ba_Dp List.perm_append_comm hD
      refine W.widen (k := 2) (n := 40) (by omega) (by omega) ?_
      refine W.eq (g2 := F0 m 15 ls [.ref q9]) rfl ?_
      refine lv_astore (lv' := [(5, .ref q9), (0, .ref o), (1, .int p0), (2, .int p1), (3, .int p2), (4, .ref out)]) hx hb d_L_question_15 hl (by decide) rfl (fun ls hl => ?_)
      refine lv_iconst (v := 1) hx hb d_L_question_17 (by decide) ?_
      exact W.iret hx hb hr (fun t9 ht hW => ⟨⟨_, ([(out, .inl (cJ, 1, .inr (.inl fo)))] ++ u1), rfl, ⟨hc9.symm, fo, u1, rfl, Or.inr ⟨by rw [hc9]; decide, hpx⟩⟩, by rw [ht]; exact hP, va_K.moved hW.alike hK, hD⟩, hS.F ht⟩) hS.2.2 d_L_question_18
    · refine vx_catch (own := "RubbingMirrorsLaw") (name := eA) hown [⟨0, 12, 15, 13⟩] ⟨0, 12, 19, 15⟩ [⟨0, 12, 23, 25⟩] (htab.trans rfl) (List.forall_mem_cons.mpr ⟨Or.inr ⟨by decide, _, hg _ g_155, hN.2.2.1 (eA, eI) (List.mem_of_getElem? (i := 2) rfl)⟩, List.forall_mem_nil _⟩) (by decide) (by decide) (hg _ g_156) (nw_use nw_13 hN) hce hcv hcl ?_
      have hP : va_P D cls ([(out, .inl (cJ, 1, .inr (.inl fo)))] ++ u1) H := ba_Pp List.perm_append_comm hP
      have hD : va_D A ([(out, .inl (cJ, 1, .inr (.inl fo)))] ++ u1) := ba_Dp List.perm_append_comm hD
      refine W.widen (k := 2) (n := 40) (by omega) (by omega) ?_
      refine W.eq (g2 := F0 m 19 ls [.ref q9]) rfl ?_
      refine lv_astore (lv' := [(5, .ref q9), (0, .ref o), (1, .int p0), (2, .int p1), (3, .int p2), (4, .ref out)]) hx hb d_L_question_19 hl (by decide) rfl (fun ls hl => ?_)
      refine lv_iconst (v := 2) hx hb d_L_question_21 (by decide) ?_
      exact W.iret hx hb hr (fun t9 ht hW => ⟨⟨_, ([(out, .inl (cJ, 1, .inr (.inl fo)))] ++ u1), rfl, ⟨hc9.symm, fo, u1, rfl, Or.inr ⟨by rw [hc9]; decide, hpx⟩⟩, by rw [ht]; exact hP, va_K.moved hW.alike hK, hD⟩, hS.F ht⟩) hS.2.2 d_L_question_22
    · refine vx_catch (own := "RubbingMirrorsLaw") (name := eS) hown [⟨0, 12, 15, 13⟩, ⟨0, 12, 19, 15⟩] ⟨0, 12, 23, 25⟩ [] (htab.trans rfl) (List.forall_mem_cons.mpr ⟨Or.inr ⟨by decide, _, hg _ g_155, hN.2.2.1 (eS, eI) (List.mem_of_getElem? (i := 4) rfl)⟩, List.forall_mem_cons.mpr ⟨Or.inr ⟨by decide, _, hg _ g_156, hN.2.2.1 (eS, eA) (List.mem_of_getElem? (i := 5) rfl)⟩, List.forall_mem_nil _⟩⟩) (by decide) (by decide) (hg _ g_276) (nw_use nw_14 hN) hce hcv hcl ?_
      have hP : va_P D cls ([(out, .inl (cJ, 1, .inr (.inl fo)))] ++ u1) H := ba_Pp List.perm_append_comm hP
      have hD : va_D A ([(out, .inl (cJ, 1, .inr (.inl fo)))] ++ u1) := ba_Dp List.perm_append_comm hD
      refine W.widen (k := 2) (n := 40) (by omega) (by omega) ?_
      refine W.eq (g2 := F0 m 23 ls [.ref q9]) rfl ?_
      refine lv_astore (lv' := [(5, .ref q9), (0, .ref o), (1, .int p0), (2, .int p1), (3, .int p2), (4, .ref out)]) hx hb d_L_question_23 hl (by decide) rfl (fun ls hl => ?_)
      refine lv_iconst (v := 3) hx hb d_L_question_25 (by decide) ?_
      exact W.iret hx hb hr (fun t9 ht hW => ⟨⟨_, ([(out, .inl (cJ, 1, .inr (.inl fo)))] ++ u1), rfl, ⟨hc9.symm, fo, u1, rfl, Or.inr ⟨by rw [hc9]; decide, hpx⟩⟩, by rw [ht]; exact hP, va_K.moved hW.alike hK, hD⟩, hS.F ht⟩) hS.2.2 d_L_question_26
  · intro r1 u1 H locs hφ hP hD hS
    have hc9 := hφ0 _ _ hφ
    have hP : va_P D cls ([(out, .inl (cJ, 1, .inr (.inl fo)))] ++ u1) H := ba_Pp List.perm_append_comm hP
    have hD : va_D A ([(out, .inl (cJ, 1, .inr (.inl fo)))] ++ u1) := ba_Dp List.perm_append_comm hD
    refine W.widen (k := 2) (n := 40) (by omega) (by omega) ?_
    refine W.eq (g2 := F0 m 10 ls [.int r1, .int 0, .ref out]) rfl ?_
    refine lv_i2l (v := r1.toInt64) hx hb d_L_question_10 rfl ?_
    refine va_last hx hb hK hP hD hS 0 2 rfl rfl (by unfold vp_in; decide) d_L_question_11 (fun H locs hP hD hS => ?_)
    rw [sb_cl0] at hP hD
    have hP : va_P D cls ([(out, .inl (cJ, 1, .inr (.inl (vp_updL fo 0 r1.toInt64))))] ++ u1) H := hP
    have hD : va_D A ([(out, .inl (cJ, 1, .inr (.inl (vp_updL fo 0 r1.toInt64))))] ++ u1) := hD
    refine lv_goto (tgt := 27) hx hb d_L_question_12 (by decide) ?_
    refine lv_iconst (v := 0) hx hb d_L_question_27 (by decide) ?_
    exact W.iret hx hb hr (fun t9 ht hW => ⟨⟨_, ([(out, .inl (cJ, 1, .inr (.inl (vp_updL fo 0 r1.toInt64))))] ++ u1), rfl, ⟨hc9.symm, (vp_updL fo 0 r1.toInt64), u1, rfl, Or.inl ⟨hc9, r1, hφ, if_pos rfl⟩⟩, by rw [ht]; exact hP, va_K.moved hW.alike hK, hD⟩, hS.F ht⟩) hS.2.2 d_L_question_28

set_option maxHeartbeats 4000000 in
set_option maxRecDepth 100000 in
/-- the law's ask -/
theorem c_L_ask_ok (l : Launch) (D : va_G) (cI cZ cJ cO : ClassId) (sz e0 mi : Nat) (o : Nat) (u0 : va_W) (ho : ∃ fs, (o, .inr (3, fs)) ∈ u0) (out : Nat) (fo : Nat → Int64) (p0 p1 : Int32) (c9 : Int32) (φ : Int32 → va_W → Prop) (px : va_W → Prop) (hM : ∀ sz, vx_Met l y_M_ask (wq y_M_ask c_M_ask 4 (some .int)) ({ frames := 6, cells := 1, slots := 6, locals := 100 }) (kP D (TY cI cZ cJ cO) u0 [.ref o, .int p0, .int p1] sz e0 mi) (va_Qi φ (mB D (TY cI cZ cJ cO) (va_A u0 sz)) (va_A u0 sz)) (vx_X px (xB D (TY cI cZ cJ cO) (va_A u0 sz) (fun E => (c9 = 1 ∧ E = eA) ∨ (c9 = 2 ∧ E = eS))) (va_A u0 sz)) 1 6 (va_A u0 sz)) (hφ0 : ∀ r u, φ r u → c9 = 0) : Met l y_L_ask (wqW y_L_ask c_L_ask 5 (some .int) [(0, 10, 13, 15), (0, 10, 17, 25)]) ({ frames := 7, cells := 1, slots := 6, locals := 123 }) (kP D (TY cI cZ cJ cO) ([(out, .inl (cJ, 1, .inr (.inl fo)))] ++ u0) [.ref o, .int p0, .int p1, .ref out] sz e0 mi) (va_Qi (fun (r : Int32) (u : va_W) => r = c9 ∧ ∃ (fo1 : Nat → Int64) (u1 : va_W), u = [(out, .inl (cJ, 1, .inr (.inl fo1)))] ++ u1 ∧ ((c9 = 0 ∧ ∃ r1, φ r1 u1 ∧ fo1 0 = r1.toInt64) ∨ (¬ c9 = 0 ∧ px u1))) (mB D (TY cI cZ cJ cO) (va_A ([(out, .inl (cJ, 1, .inr (.inl fo)))] ++ u0) sz)) (va_A ([(out, .inl (cJ, 1, .inr (.inl fo)))] ++ u0) sz)) 1 6 (va_A ([(out, .inl (cJ, 1, .inr (.inl fo)))] ++ u0) sz) := by
  refine met_ofWH (cc := c_L_ask) (maxL := 5) (ret := (some .int)) (hh := [(0, 10, 13, 15), (0, 10, 17, 25)]) (by decide) rfl ?_
  intro p e s m args below meth c s₁ B hml hv
  obtain ⟨rfl, hsz, hP, hK, hD0, hN, hU, hV, hsP⟩ := hv
  have hx := B.exec
  have hb := B.bytes
  have hr := B.returns
  have hat := atoms_spec (ws := (wqW y_L_ask c_L_ask 5 (some .int) [(0, 10, 13, 15), (0, 10, 17, 25)])) B.pre
  have hg := gt_hW hat
  have htab := vx_table (x := y_L_ask) B (hat _ List.mem_cons_self)
  have hown : s.vm.findClass "RubbingMirrorsLaw" = some m.cls := findClass_of_methodNamed B.named
  have hlocks := B.notSynchronized
  subst hsz
  have hD := hD0.self (sz := s.heap.size)
  generalize hAe : va_A ([(out, .inl (cJ, 1, .inr (.inl fo)))] ++ u0) s.heap.size = A at hD hU hV hsP ⊢
  have hA : ∀ q : Nat, s.heap.size ≤ q → A q := fun q h => by rw [← hAe]; exact Or.inr h
  have hS : va_S A s.heap s.heap [] := va_S.rf
  have hl := lv_entry ([.ref o, .int p0, .int p1, .ref out]) (n := 5) (Nat.le_of_ble_eq_true rfl)
  rw [lg_entry_eq]
  generalize (lg_sl ([.ref o, .int p0, .int p1, .ref out]) ++ List.replicate (5 - (lg_sl ([.ref o, .int p0, .int p1, .ref out])).length) Slot.unset).toArray = ls at hl ⊢
  have hl : lv_has ls 5 [(0, .ref o), (1, .int p0), (2, .int p1), (3, .ref out)] := hl
  refine lv_aload_n hx hb d_L_ask_0 rfl (lv_at hl 3 rfl) ?_
  refine lv_iconst (v := 0) hx hb d_L_ask_1 (by decide) ?_
  refine lv_aload_n hx hb d_L_ask_2 rfl (lv_at hl 0 rfl) ?_
  refine lv_iload_n hx hb d_L_ask_3 rfl (lv_at hl 1 rfl) ?_
  refine lv_iload_n hx hb d_L_ask_4 rfl (lv_at hl 2 rfl) ?_
  have hP : va_P D cls (u0 ++ [(out, .inl (cJ, 1, .inr (.inl fo)))]) _ := ba_Pp List.perm_append_comm hP
  have hD : va_D A (u0 ++ [(out, .inl (cJ, 1, .inr (.inl fo)))]) := ba_Dp List.perm_append_comm hD
  refine xcalli (wc := u0) (wr := [(out, .inl (cJ, 1, .inr (.inl fo)))]) (vx_runV (As := [.int p0, .int p1]) (rest := [.int 0, .ref out]) ⟨hx, hb, hml, hown, hg⟩ (hM s.heap.size) (cwV 2 hg (gv g_551 g_552 g_553 g_18 g_554) rfl rfl rfl (by decide +kernel) ⟨Nat.le_of_ble_eq_true rfl, Nat.le_of_ble_eq_true rfl⟩) (kV hP hD hK hN hS hA hU hV hsP ho) rfl rfl hl.1 rfl (lv_room (Nat.le_of_ble_eq_true rfl)) d_L_ask_5 ⟨Nat.le_of_ble_eq_true rfl, Nat.le_of_ble_eq_true rfl⟩) hP hD hS hA ?_ ?_
  · intro E ce q9 u1 H locs hpx hxe hP hD hS hce hcv hcl
    rcases hxe with ⟨hc9, rfl⟩ | ⟨hc9, rfl⟩
    · refine vx_catch (own := "RubbingMirrorsLaw") (name := eA) hown [] ⟨0, 10, 13, 15⟩ [⟨0, 10, 17, 25⟩] (htab.trans rfl) (List.forall_mem_nil _) (by decide) (by decide) (hg _ g_156) (nw_use nw_13 hN) hce hcv hcl ?_
      have hP : va_P D cls ([(out, .inl (cJ, 1, .inr (.inl fo)))] ++ u1) H := ba_Pp List.perm_append_comm hP
      have hD : va_D A ([(out, .inl (cJ, 1, .inr (.inl fo)))] ++ u1) := ba_Dp List.perm_append_comm hD
      refine W.widen (k := 1) (n := 6) (by omega) (by omega) ?_
      refine W.eq (g2 := F0 m 13 ls [.ref q9]) rfl ?_
      refine lv_astore (lv' := [(4, .ref q9), (0, .ref o), (1, .int p0), (2, .int p1), (3, .ref out)]) hx hb d_L_ask_13 hl (by decide) rfl (fun ls hl => ?_)
      refine lv_iconst (v := 1) hx hb d_L_ask_15 (by decide) ?_
      exact W.iret hx hb hr (fun t9 ht hW => ⟨⟨_, ([(out, .inl (cJ, 1, .inr (.inl fo)))] ++ u1), rfl, ⟨hc9.symm, fo, u1, rfl, Or.inr ⟨by rw [hc9]; decide, hpx⟩⟩, by rw [ht]; exact hP, va_K.moved hW.alike hK, hD⟩, hS.F ht⟩) hS.2.2 d_L_ask_16
    · refine vx_catch (own := "RubbingMirrorsLaw") (name := eS) hown [⟨0, 10, 13, 15⟩] ⟨0, 10, 17, 25⟩ [] (htab.trans rfl) (List.forall_mem_cons.mpr ⟨Or.inr ⟨by decide, _, hg _ g_156, hN.2.2.1 (eS, eA) (List.mem_of_getElem? (i := 5) rfl)⟩, List.forall_mem_nil _⟩) (by decide) (by decide) (hg _ g_276) (nw_use nw_14 hN) hce hcv hcl ?_
      have hP : va_P D cls ([(out, .inl (cJ, 1, .inr (.inl fo)))] ++ u1) H := ba_Pp List.perm_append_comm hP
      have hD : va_D A ([(out, .inl (cJ, 1, .inr (.inl fo)))] ++ u1) := ba_Dp List.perm_append_comm hD
      refine W.widen (k := 1) (n := 6) (by omega) (by omega) ?_
      refine W.eq (g2 := F0 m 17 ls [.ref q9]) rfl ?_
      refine lv_astore (lv' := [(4, .ref q9), (0, .ref o), (1, .int p0), (2, .int p1), (3, .ref out)]) hx hb d_L_ask_17 hl (by decide) rfl (fun ls hl => ?_)
      refine lv_iconst (v := 2) hx hb d_L_ask_19 (by decide) ?_
      exact W.iret hx hb hr (fun t9 ht hW => ⟨⟨_, ([(out, .inl (cJ, 1, .inr (.inl fo)))] ++ u1), rfl, ⟨hc9.symm, fo, u1, rfl, Or.inr ⟨by rw [hc9]; decide, hpx⟩⟩, by rw [ht]; exact hP, va_K.moved hW.alike hK, hD⟩, hS.F ht⟩) hS.2.2 d_L_ask_20
  · intro r1 u1 H locs hφ hP hD hS
    have hc9 := hφ0 _ _ hφ
    have hP : va_P D cls ([(out, .inl (cJ, 1, .inr (.inl fo)))] ++ u1) H := ba_Pp List.perm_append_comm hP
    have hD : va_D A ([(out, .inl (cJ, 1, .inr (.inl fo)))] ++ u1) := ba_Dp List.perm_append_comm hD
    refine W.widen (k := 1) (n := 6) (by omega) (by omega) ?_
    refine W.eq (g2 := F0 m 8 ls [.int r1, .int 0, .ref out]) rfl ?_
    refine lv_i2l (v := r1.toInt64) hx hb d_L_ask_8 rfl ?_
    refine va_last hx hb hK hP hD hS 0 2 rfl rfl (by unfold vp_in; decide) d_L_ask_9 (fun H locs hP hD hS => ?_)
    rw [sb_cl0] at hP hD
    have hP : va_P D cls ([(out, .inl (cJ, 1, .inr (.inl (vp_updL fo 0 r1.toInt64))))] ++ u1) H := hP
    have hD : va_D A ([(out, .inl (cJ, 1, .inr (.inl (vp_updL fo 0 r1.toInt64))))] ++ u1) := hD
    refine lv_goto (tgt := 21) hx hb d_L_ask_10 (by decide) ?_
    refine lv_iconst (v := 0) hx hb d_L_ask_21 (by decide) ?_
    exact W.iret hx hb hr (fun t9 ht hW => ⟨⟨_, ([(out, .inl (cJ, 1, .inr (.inl (vp_updL fo 0 r1.toInt64))))] ++ u1), rfl, ⟨hc9.symm, (vp_updL fo 0 r1.toInt64), u1, rfl, Or.inl ⟨hc9, r1, hφ, if_pos rfl⟩⟩, by rw [ht]; exact hP, va_K.moved hW.alike hK, hD⟩, hS.F ht⟩) hS.2.2 d_L_ask_22

set_option maxHeartbeats 4000000 in
set_option maxRecDepth 100000 in
/-- the law's rule -/
theorem c_L_rule_ok (l : Launch) (D : va_G) (cI cZ cJ cO : ClassId) (sz e0 mi : Nat) (o : Nat) (u0 : va_W) (ho : ∃ fs, (o, .inr (3, fs)) ∈ u0) (out : Nat) (fo : Nat → Int64) (p0 p1 p2 p3 p4 p5 : Int32) (c9 : Int32) (φ : Int32 → va_W → Prop) (px : va_W → Prop) (hM : ∀ sz, vx_Met l y_M_rule (wq y_M_rule c_M_rule 7 (some .int)) ({ frames := 7, cells := 2, slots := 40, locals := 191 }) (kP D (TY cI cZ cJ cO) u0 [.ref o, .int p0, .int p1, .int p2, .int p3, .int p4, .int p5] sz e0 mi) (va_Qi φ (mB D (TY cI cZ cJ cO) (va_A u0 sz)) (va_A u0 sz)) (vx_X px (xB D (TY cI cZ cJ cO) (va_A u0 sz) (fun E => (c9 = 1 ∧ E = eI) ∨ (c9 = 2 ∧ E = eA) ∨ (c9 = 3 ∧ E = eS))) (va_A u0 sz)) 2 40 (va_A u0 sz)) (hφ0 : ∀ r u, φ r u → c9 = 0) : Met l y_L_rule (wqW y_L_rule c_L_rule 9 (some .int) [(0, 18, 21, 13), (0, 18, 25, 15), (0, 18, 29, 25)]) ({ frames := 8, cells := 2, slots := 40, locals := 217 }) (kP D (TY cI cZ cJ cO) ([(out, .inl (cJ, 1, .inr (.inl fo)))] ++ u0) [.ref o, .int p0, .int p1, .int p2, .int p3, .int p4, .int p5, .ref out] sz e0 mi) (va_Qi (fun (r : Int32) (u : va_W) => r = c9 ∧ ∃ (fo1 : Nat → Int64) (u1 : va_W), u = [(out, .inl (cJ, 1, .inr (.inl fo1)))] ++ u1 ∧ ((c9 = 0 ∧ ∃ r1, φ r1 u1 ∧ fo1 0 = r1.toInt64) ∨ (¬ c9 = 0 ∧ px u1))) (mB D (TY cI cZ cJ cO) (va_A ([(out, .inl (cJ, 1, .inr (.inl fo)))] ++ u0) sz)) (va_A ([(out, .inl (cJ, 1, .inr (.inl fo)))] ++ u0) sz)) 2 40 (va_A ([(out, .inl (cJ, 1, .inr (.inl fo)))] ++ u0) sz) := by
  refine met_ofWH (cc := c_L_rule) (maxL := 9) (ret := (some .int)) (hh := [(0, 18, 21, 13), (0, 18, 25, 15), (0, 18, 29, 25)]) (by decide) rfl ?_
  intro p e s m args below meth c s₁ B hml hv
  obtain ⟨rfl, hsz, hP, hK, hD0, hN, hU, hV, hsP⟩ := hv
  have hx := B.exec
  have hb := B.bytes
  have hr := B.returns
  have hat := atoms_spec (ws := (wqW y_L_rule c_L_rule 9 (some .int) [(0, 18, 21, 13), (0, 18, 25, 15), (0, 18, 29, 25)])) B.pre
  have hg := gt_hW hat
  have htab := vx_table (x := y_L_rule) B (hat _ List.mem_cons_self)
  have hown : s.vm.findClass "RubbingMirrorsLaw" = some m.cls := findClass_of_methodNamed B.named
  have hlocks := B.notSynchronized
  subst hsz
  have hD := hD0.self (sz := s.heap.size)
  generalize hAe : va_A ([(out, .inl (cJ, 1, .inr (.inl fo)))] ++ u0) s.heap.size = A at hD hU hV hsP ⊢
  have hA : ∀ q : Nat, s.heap.size ≤ q → A q := fun q h => by rw [← hAe]; exact Or.inr h
  have hS : va_S A s.heap s.heap [] := va_S.rf
  have hl := lv_entry ([.ref o, .int p0, .int p1, .int p2, .int p3, .int p4, .int p5, .ref out]) (n := 9) (Nat.le_of_ble_eq_true rfl)
  rw [lg_entry_eq]
  generalize (lg_sl ([.ref o, .int p0, .int p1, .int p2, .int p3, .int p4, .int p5, .ref out]) ++ List.replicate (9 - (lg_sl ([.ref o, .int p0, .int p1, .int p2, .int p3, .int p4, .int p5, .ref out])).length) Slot.unset).toArray = ls at hl ⊢
  have hl : lv_has ls 9 [(0, .ref o), (1, .int p0), (2, .int p1), (3, .int p2), (4, .int p3), (5, .int p4), (6, .int p5), (7, .ref out)] := hl
  refine lv_aload hx hb d_L_rule_0 (lv_at hl 7 rfl) ?_
  refine lv_iconst (v := 0) hx hb d_L_rule_2 (by decide) ?_
  refine lv_aload_n hx hb d_L_rule_3 rfl (lv_at hl 0 rfl) ?_
  refine lv_iload_n hx hb d_L_rule_4 rfl (lv_at hl 1 rfl) ?_
  refine lv_iload_n hx hb d_L_rule_5 rfl (lv_at hl 2 rfl) ?_
  refine lv_iload_n hx hb d_L_rule_6 rfl (lv_at hl 3 rfl) ?_
  refine lv_iload hx hb d_L_rule_7 (lv_at hl 4 rfl) ?_
  refine lv_iload hx hb d_L_rule_9 (lv_at hl 5 rfl) ?_
  refine lv_iload hx hb d_L_rule_11 (lv_at hl 6 rfl) ?_
  have hP : va_P D cls (u0 ++ [(out, .inl (cJ, 1, .inr (.inl fo)))]) _ := ba_Pp List.perm_append_comm hP
  have hD : va_D A (u0 ++ [(out, .inl (cJ, 1, .inr (.inl fo)))]) := ba_Dp List.perm_append_comm hD
  refine xcalli (wc := u0) (wr := [(out, .inl (cJ, 1, .inr (.inl fo)))]) (vx_runV (As := [.int p0, .int p1, .int p2, .int p3, .int p4, .int p5]) (rest := [.int 0, .ref out]) ⟨hx, hb, hml, hown, hg⟩ (hM s.heap.size) (cwV 6 hg (gv g_582 g_583 g_584 g_18 g_585) rfl rfl rfl (by decide +kernel) ⟨Nat.le_of_ble_eq_true rfl, Nat.le_of_ble_eq_true rfl⟩) (kV hP hD hK hN hS hA hU hV hsP ho) rfl rfl hl.1 rfl (lv_room (Nat.le_of_ble_eq_true rfl)) d_L_rule_13 ⟨Nat.le_of_ble_eq_true rfl, Nat.le_of_ble_eq_true rfl⟩) hP hD hS hA ?_ ?_
  · intro E ce q9 u1 H locs hpx hxe hP hD hS hce hcv hcl
    rcases hxe with ⟨hc9, rfl⟩ | ⟨hc9, rfl⟩ | ⟨hc9, rfl⟩
    · refine vx_catch (own := "RubbingMirrorsLaw") (name := eI) hown [] ⟨0, 18, 21, 13⟩ [⟨0, 18, 25, 15⟩, ⟨0, 18, 29, 25⟩] (htab.trans rfl) (List.forall_mem_nil _) (by decide) (by decide) (hg _ g_155) (nw_use nw_6 hN) hce hcv hcl ?_
      have hP : va_P D cls ([(out, .inl (cJ, 1, .inr (.inl fo)))] ++ u1) H := ba_Pp List.perm_append_comm hP
      have hD : va_D A ([(out, .inl (cJ, 1, .inr (.inl fo)))] ++ u1) := ba_Dp List.perm_append_comm hD
      refine W.widen (k := 2) (n := 40) (by omega) (by omega) ?_
      refine W.eq (g2 := F0 m 21 ls [.ref q9]) rfl ?_
      refine lv_astore (lv' := [(8, .ref q9), (0, .ref o), (1, .int p0), (2, .int p1), (3, .int p2), (4, .int p3), (5, .int p4), (6, .int p5), (7, .ref out)]) hx hb d_L_rule_21 hl (by decide) rfl (fun ls hl => ?_)
      refine lv_iconst (v := 1) hx hb d_L_rule_23 (by decide) ?_
      exact W.iret hx hb hr (fun t9 ht hW => ⟨⟨_, ([(out, .inl (cJ, 1, .inr (.inl fo)))] ++ u1), rfl, ⟨hc9.symm, fo, u1, rfl, Or.inr ⟨by rw [hc9]; decide, hpx⟩⟩, by rw [ht]; exact hP, va_K.moved hW.alike hK, hD⟩, hS.F ht⟩) hS.2.2 d_L_rule_24
    · refine vx_catch (own := "RubbingMirrorsLaw") (name := eA) hown [⟨0, 18, 21, 13⟩] ⟨0, 18, 25, 15⟩ [⟨0, 18, 29, 25⟩] (htab.trans rfl) (List.forall_mem_cons.mpr ⟨Or.inr ⟨by decide, _, hg _ g_155, hN.2.2.1 (eA, eI) (List.mem_of_getElem? (i := 2) rfl)⟩, List.forall_mem_nil _⟩) (by decide) (by decide) (hg _ g_156) (nw_use nw_13 hN) hce hcv hcl ?_
      have hP : va_P D cls ([(out, .inl (cJ, 1, .inr (.inl fo)))] ++ u1) H := ba_Pp List.perm_append_comm hP
      have hD : va_D A ([(out, .inl (cJ, 1, .inr (.inl fo)))] ++ u1) := ba_Dp List.perm_append_comm hD
      refine W.widen (k := 2) (n := 40) (by omega) (by omega) ?_
      refine W.eq (g2 := F0 m 25 ls [.ref q9]) rfl ?_
      refine lv_astore (lv' := [(8, .ref q9), (0, .ref o), (1, .int p0), (2, .int p1), (3, .int p2), (4, .int p3), (5, .int p4), (6, .int p5), (7, .ref out)]) hx hb d_L_rule_25 hl (by decide) rfl (fun ls hl => ?_)
      refine lv_iconst (v := 2) hx hb d_L_rule_27 (by decide) ?_
      exact W.iret hx hb hr (fun t9 ht hW => ⟨⟨_, ([(out, .inl (cJ, 1, .inr (.inl fo)))] ++ u1), rfl, ⟨hc9.symm, fo, u1, rfl, Or.inr ⟨by rw [hc9]; decide, hpx⟩⟩, by rw [ht]; exact hP, va_K.moved hW.alike hK, hD⟩, hS.F ht⟩) hS.2.2 d_L_rule_28
    · refine vx_catch (own := "RubbingMirrorsLaw") (name := eS) hown [⟨0, 18, 21, 13⟩, ⟨0, 18, 25, 15⟩] ⟨0, 18, 29, 25⟩ [] (htab.trans rfl) (List.forall_mem_cons.mpr ⟨Or.inr ⟨by decide, _, hg _ g_155, hN.2.2.1 (eS, eI) (List.mem_of_getElem? (i := 4) rfl)⟩, List.forall_mem_cons.mpr ⟨Or.inr ⟨by decide, _, hg _ g_156, hN.2.2.1 (eS, eA) (List.mem_of_getElem? (i := 5) rfl)⟩, List.forall_mem_nil _⟩⟩) (by decide) (by decide) (hg _ g_276) (nw_use nw_14 hN) hce hcv hcl ?_
      have hP : va_P D cls ([(out, .inl (cJ, 1, .inr (.inl fo)))] ++ u1) H := ba_Pp List.perm_append_comm hP
      have hD : va_D A ([(out, .inl (cJ, 1, .inr (.inl fo)))] ++ u1) := ba_Dp List.perm_append_comm hD
      refine W.widen (k := 2) (n := 40) (by omega) (by omega) ?_
      refine W.eq (g2 := F0 m 29 ls [.ref q9]) rfl ?_
      refine lv_astore (lv' := [(8, .ref q9), (0, .ref o), (1, .int p0), (2, .int p1), (3, .int p2), (4, .int p3), (5, .int p4), (6, .int p5), (7, .ref out)]) hx hb d_L_rule_29 hl (by decide) rfl (fun ls hl => ?_)
      refine lv_iconst (v := 3) hx hb d_L_rule_31 (by decide) ?_
      exact W.iret hx hb hr (fun t9 ht hW => ⟨⟨_, ([(out, .inl (cJ, 1, .inr (.inl fo)))] ++ u1), rfl, ⟨hc9.symm, fo, u1, rfl, Or.inr ⟨by rw [hc9]; decide, hpx⟩⟩, by rw [ht]; exact hP, va_K.moved hW.alike hK, hD⟩, hS.F ht⟩) hS.2.2 d_L_rule_32
  · intro r1 u1 H locs hφ hP hD hS
    have hc9 := hφ0 _ _ hφ
    have hP : va_P D cls ([(out, .inl (cJ, 1, .inr (.inl fo)))] ++ u1) H := ba_Pp List.perm_append_comm hP
    have hD : va_D A ([(out, .inl (cJ, 1, .inr (.inl fo)))] ++ u1) := ba_Dp List.perm_append_comm hD
    refine W.widen (k := 2) (n := 40) (by omega) (by omega) ?_
    refine W.eq (g2 := F0 m 16 ls [.int r1, .int 0, .ref out]) rfl ?_
    refine lv_i2l (v := r1.toInt64) hx hb d_L_rule_16 rfl ?_
    refine va_last hx hb hK hP hD hS 0 2 rfl rfl (by unfold vp_in; decide) d_L_rule_17 (fun H locs hP hD hS => ?_)
    rw [sb_cl0] at hP hD
    have hP : va_P D cls ([(out, .inl (cJ, 1, .inr (.inl (vp_updL fo 0 r1.toInt64))))] ++ u1) H := hP
    have hD : va_D A ([(out, .inl (cJ, 1, .inr (.inl (vp_updL fo 0 r1.toInt64))))] ++ u1) := hD
    refine lv_goto (tgt := 33) hx hb d_L_rule_18 (by decide) ?_
    refine lv_iconst (v := 0) hx hb d_L_rule_33 (by decide) ?_
    exact W.iret hx hb hr (fun t9 ht hW => ⟨⟨_, ([(out, .inl (cJ, 1, .inr (.inl (vp_updL fo 0 r1.toInt64))))] ++ u1), rfl, ⟨hc9.symm, (vp_updL fo 0 r1.toInt64), u1, rfl, Or.inl ⟨hc9, r1, hφ, if_pos rfl⟩⟩, by rw [ht]; exact hP, va_K.moved hW.alike hK, hD⟩, hS.F ht⟩) hS.2.2 d_L_rule_34

set_option maxHeartbeats 4000000 in
set_option maxRecDepth 100000 in
/-- the law's age -/
theorem c_L_age_ok (l : Launch) (D : va_G) (cI cZ cJ cO : ClassId) (sz e0 mi : Nat) (o : Nat) (u0 : va_W) (ho : ∃ fs, (o, .inr (3, fs)) ∈ u0) (out : Nat) (fo : Nat → Int64) (p0 : Int32) (c9 : Int32) (φ : Int32 → va_W → Prop) (px : va_W → Prop) (hM : ∀ sz, vx_Met l y_M_age (wq y_M_age c_M_age 7 (some .int)) ({ frames := 6, cells := 1, slots := 6, locals := 100 }) (kP D (TY cI cZ cJ cO) u0 [.ref o, .int p0] sz e0 mi) (va_Qi φ (mB D (TY cI cZ cJ cO) (va_A u0 sz)) (va_A u0 sz)) (vx_X px (xB D (TY cI cZ cJ cO) (va_A u0 sz) (fun E => (c9 = 1 ∧ E = eI) ∨ (c9 = 2 ∧ E = eS))) (va_A u0 sz)) 1 6 (va_A u0 sz)) (hφ0 : ∀ r u, φ r u → c9 = 0) : Met l y_L_age (wqW y_L_age c_L_age 4 (some .int) [(0, 9, 12, 13), (0, 9, 15, 25)]) ({ frames := 7, cells := 1, slots := 6, locals := 126 }) (kP D (TY cI cZ cJ cO) ([(out, .inl (cJ, 1, .inr (.inl fo)))] ++ u0) [.ref o, .int p0, .ref out] sz e0 mi) (va_Qi (fun (r : Int32) (u : va_W) => r = c9 ∧ ∃ (fo1 : Nat → Int64) (u1 : va_W), u = [(out, .inl (cJ, 1, .inr (.inl fo1)))] ++ u1 ∧ ((c9 = 0 ∧ ∃ r1, φ r1 u1 ∧ fo1 0 = r1.toInt64) ∨ (¬ c9 = 0 ∧ px u1))) (mB D (TY cI cZ cJ cO) (va_A ([(out, .inl (cJ, 1, .inr (.inl fo)))] ++ u0) sz)) (va_A ([(out, .inl (cJ, 1, .inr (.inl fo)))] ++ u0) sz)) 1 6 (va_A ([(out, .inl (cJ, 1, .inr (.inl fo)))] ++ u0) sz) := by
  refine met_ofWH (cc := c_L_age) (maxL := 4) (ret := (some .int)) (hh := [(0, 9, 12, 13), (0, 9, 15, 25)]) (by decide) rfl ?_
  intro p e s m args below meth c s₁ B hml hv
  obtain ⟨rfl, hsz, hP, hK, hD0, hN, hU, hV, hsP⟩ := hv
  have hx := B.exec
  have hb := B.bytes
  have hr := B.returns
  have hat := atoms_spec (ws := (wqW y_L_age c_L_age 4 (some .int) [(0, 9, 12, 13), (0, 9, 15, 25)])) B.pre
  have hg := gt_hW hat
  have htab := vx_table (x := y_L_age) B (hat _ List.mem_cons_self)
  have hown : s.vm.findClass "RubbingMirrorsLaw" = some m.cls := findClass_of_methodNamed B.named
  have hlocks := B.notSynchronized
  subst hsz
  have hD := hD0.self (sz := s.heap.size)
  generalize hAe : va_A ([(out, .inl (cJ, 1, .inr (.inl fo)))] ++ u0) s.heap.size = A at hD hU hV hsP ⊢
  have hA : ∀ q : Nat, s.heap.size ≤ q → A q := fun q h => by rw [← hAe]; exact Or.inr h
  have hS : va_S A s.heap s.heap [] := va_S.rf
  have hl := lv_entry ([.ref o, .int p0, .ref out]) (n := 4) (Nat.le_of_ble_eq_true rfl)
  rw [lg_entry_eq]
  generalize (lg_sl ([.ref o, .int p0, .ref out]) ++ List.replicate (4 - (lg_sl ([.ref o, .int p0, .ref out])).length) Slot.unset).toArray = ls at hl ⊢
  have hl : lv_has ls 4 [(0, .ref o), (1, .int p0), (2, .ref out)] := hl
  refine lv_aload_n hx hb d_L_age_0 rfl (lv_at hl 2 rfl) ?_
  refine lv_iconst (v := 0) hx hb d_L_age_1 (by decide) ?_
  refine lv_aload_n hx hb d_L_age_2 rfl (lv_at hl 0 rfl) ?_
  refine lv_iload_n hx hb d_L_age_3 rfl (lv_at hl 1 rfl) ?_
  have hP : va_P D cls (u0 ++ [(out, .inl (cJ, 1, .inr (.inl fo)))]) _ := ba_Pp List.perm_append_comm hP
  have hD : va_D A (u0 ++ [(out, .inl (cJ, 1, .inr (.inl fo)))]) := ba_Dp List.perm_append_comm hD
  refine xcalli (wc := u0) (wr := [(out, .inl (cJ, 1, .inr (.inl fo)))]) (vx_runV (As := [.int p0]) (rest := [.int 0, .ref out]) ⟨hx, hb, hml, hown, hg⟩ (hM s.heap.size) (cwV 1 hg (gv g_621 g_622 g_623 g_18 g_624) rfl rfl rfl (by decide +kernel) ⟨Nat.le_of_ble_eq_true rfl, Nat.le_of_ble_eq_true rfl⟩) (kV hP hD hK hN hS hA hU hV hsP ho) rfl rfl hl.1 rfl (lv_room (Nat.le_of_ble_eq_true rfl)) d_L_age_4 ⟨Nat.le_of_ble_eq_true rfl, Nat.le_of_ble_eq_true rfl⟩) hP hD hS hA ?_ ?_
  · intro E ce q9 u1 H locs hpx hxe hP hD hS hce hcv hcl
    rcases hxe with ⟨hc9, rfl⟩ | ⟨hc9, rfl⟩
    · refine vx_catch (own := "RubbingMirrorsLaw") (name := eI) hown [] ⟨0, 9, 12, 13⟩ [⟨0, 9, 15, 25⟩] (htab.trans rfl) (List.forall_mem_nil _) (by decide) (by decide) (hg _ g_155) (nw_use nw_6 hN) hce hcv hcl ?_
      have hP : va_P D cls ([(out, .inl (cJ, 1, .inr (.inl fo)))] ++ u1) H := ba_Pp List.perm_append_comm hP
      have hD : va_D A ([(out, .inl (cJ, 1, .inr (.inl fo)))] ++ u1) := ba_Dp List.perm_append_comm hD
      refine W.widen (k := 1) (n := 6) (by omega) (by omega) ?_
      refine W.eq (g2 := F0 m 12 ls [.ref q9]) rfl ?_
      refine lv_astore_n (lv' := [(3, .ref q9), (0, .ref o), (1, .int p0), (2, .ref out)]) hx hb d_L_age_12 rfl hl (by decide) rfl (fun ls hl => ?_)
      refine lv_iconst (v := 1) hx hb d_L_age_13 (by decide) ?_
      exact W.iret hx hb hr (fun t9 ht hW => ⟨⟨_, ([(out, .inl (cJ, 1, .inr (.inl fo)))] ++ u1), rfl, ⟨hc9.symm, fo, u1, rfl, Or.inr ⟨by rw [hc9]; decide, hpx⟩⟩, by rw [ht]; exact hP, va_K.moved hW.alike hK, hD⟩, hS.F ht⟩) hS.2.2 d_L_age_14
    · refine vx_catch (own := "RubbingMirrorsLaw") (name := eS) hown [⟨0, 9, 12, 13⟩] ⟨0, 9, 15, 25⟩ [] (htab.trans rfl) (List.forall_mem_cons.mpr ⟨Or.inr ⟨by decide, _, hg _ g_155, hN.2.2.1 (eS, eI) (List.mem_of_getElem? (i := 4) rfl)⟩, List.forall_mem_nil _⟩) (by decide) (by decide) (hg _ g_276) (nw_use nw_14 hN) hce hcv hcl ?_
      have hP : va_P D cls ([(out, .inl (cJ, 1, .inr (.inl fo)))] ++ u1) H := ba_Pp List.perm_append_comm hP
      have hD : va_D A ([(out, .inl (cJ, 1, .inr (.inl fo)))] ++ u1) := ba_Dp List.perm_append_comm hD
      refine W.widen (k := 1) (n := 6) (by omega) (by omega) ?_
      refine W.eq (g2 := F0 m 15 ls [.ref q9]) rfl ?_
      refine lv_astore_n (lv' := [(3, .ref q9), (0, .ref o), (1, .int p0), (2, .ref out)]) hx hb d_L_age_15 rfl hl (by decide) rfl (fun ls hl => ?_)
      refine lv_iconst (v := 2) hx hb d_L_age_16 (by decide) ?_
      exact W.iret hx hb hr (fun t9 ht hW => ⟨⟨_, ([(out, .inl (cJ, 1, .inr (.inl fo)))] ++ u1), rfl, ⟨hc9.symm, fo, u1, rfl, Or.inr ⟨by rw [hc9]; decide, hpx⟩⟩, by rw [ht]; exact hP, va_K.moved hW.alike hK, hD⟩, hS.F ht⟩) hS.2.2 d_L_age_17
  · intro r1 u1 H locs hφ hP hD hS
    have hc9 := hφ0 _ _ hφ
    have hP : va_P D cls ([(out, .inl (cJ, 1, .inr (.inl fo)))] ++ u1) H := ba_Pp List.perm_append_comm hP
    have hD : va_D A ([(out, .inl (cJ, 1, .inr (.inl fo)))] ++ u1) := ba_Dp List.perm_append_comm hD
    refine W.widen (k := 1) (n := 6) (by omega) (by omega) ?_
    refine W.eq (g2 := F0 m 7 ls [.int r1, .int 0, .ref out]) rfl ?_
    refine lv_i2l (v := r1.toInt64) hx hb d_L_age_7 rfl ?_
    refine va_last hx hb hK hP hD hS 0 2 rfl rfl (by unfold vp_in; decide) d_L_age_8 (fun H locs hP hD hS => ?_)
    rw [sb_cl0] at hP hD
    have hP : va_P D cls ([(out, .inl (cJ, 1, .inr (.inl (vp_updL fo 0 r1.toInt64))))] ++ u1) H := hP
    have hD : va_D A ([(out, .inl (cJ, 1, .inr (.inl (vp_updL fo 0 r1.toInt64))))] ++ u1) := hD
    refine lv_goto (tgt := 18) hx hb d_L_age_9 (by decide) ?_
    refine lv_iconst (v := 0) hx hb d_L_age_18 (by decide) ?_
    exact W.iret hx hb hr (fun t9 ht hW => ⟨⟨_, ([(out, .inl (cJ, 1, .inr (.inl (vp_updL fo 0 r1.toInt64))))] ++ u1), rfl, ⟨hc9.symm, (vp_updL fo 0 r1.toInt64), u1, rfl, Or.inl ⟨hc9, r1, hφ, if_pos rfl⟩⟩, by rw [ht]; exact hP, va_K.moved hW.alike hK, hD⟩, hS.F ht⟩) hS.2.2 d_L_age_19

set_option maxHeartbeats 4000000 in
set_option maxRecDepth 100000 in
/-- cell -/
theorem c_L_cell_ok (l : Launch) (D : va_G) (cI cZ cJ cO : ClassId) (sa9 ln : Nat) (sc : Nat → Int32) (hln : ln < 2 ^ 20) (k : Nat) (hk : k < 2 ^ 20) : Met l y_L_cell (wq y_L_cell c_L_cell 2 (some .int)) ({ frames := 0, cells := 0, slots := 0, locals := 0 }) (rP D (TY cI cZ cJ cO) [(sa9, .inl (cI, ln, .inl sc))] [.ref sa9, .int (nI k)]) (vp_Si (fun r => r = if k < ln then sc k else 0)) 0 0 (fun _ => False) := by
  refine Met.ofW (cc := c_L_cell) (maxL := 2) (ret := (some .int)) (by decide) rfl ?_
  intro p e s m args below meth c s₁ B hml hv
  obtain ⟨rfl, hP, hK, hN⟩ := hv
  have hx := B.exec
  have hb := B.bytes
  have hr := B.returns
  have hg := gt_h (atoms_spec (ws := (wq y_L_cell c_L_cell 2 (some .int))) B.pre)
  have hown : s.vm.findClass "RubbingMirrorsLaw" = some m.cls := findClass_of_methodNamed B.named
  have hlocks := B.notSynchronized
  have hl := lv_entry ([.ref sa9, .int (nI k)]) (n := 2) (Nat.le_of_ble_eq_true rfl)
  rw [lg_entry_eq]
  generalize (lg_sl ([.ref sa9, .int (nI k)]) ++ List.replicate (2 - (lg_sl ([.ref sa9, .int (nI k)])).length) Slot.unset).toArray = ls at hl ⊢
  have hl : lv_has ls 2 [(0, .ref sa9), (1, .int (nI k))] := hl
  refine lv_iload_n hx hb d_L_cell_0 rfl (lv_at hl 1 rfl) ?_
  refine lv_aload_n hx hb d_L_cell_1 rfl (lv_at hl 0 rfl) ?_
  refine va_alen (v := nI ln) hx hb hK hP 0 0 rfl rfl rfl d_L_cell_2 ?_
  refine lv_icmp_ge (tgt := 12) hx hb d_L_cell_3 (by decide) (fun c_3 => ?_) (fun c_3 => ?_)
  · refine lv_iconst (v := 0) hx hb d_L_cell_12 (by decide) ?_
    exact W.iret hx hb hr (fun t9 ht hW => ⟨_, rfl, (by rw [if_neg]; intro q; exact absurd c_3 (by rw [ile, nI_toInt (by omega), nI_toInt (by omega)]; omega)), ht⟩) t_nil2 d_L_cell_13
  · have hk9 : k < ln := by rcases Nat.lt_or_ge k ln with q | q; exact q; exact absurd (by rw [ile, nI_toInt (by omega), nI_toInt (by omega)]; omega) c_3
    refine lv_aload_n hx hb d_L_cell_6 rfl (lv_at hl 0 rfl) ?_
    refine lv_iload_n hx hb d_L_cell_7 rfl (lv_at hl 1 rfl) ?_
    refine va_iald hx hb hK hP 0 0 rfl rfl (vp_in_nI hk9 (by omega)) d_L_cell_8 ?_
    refine lv_goto (tgt := 13) hx hb d_L_cell_9 (by decide) ?_
    exact W.iret hx hb hr (fun t9 ht hW => ⟨_, rfl, (by rw [nI_clamp (by omega), if_pos hk9]), ht⟩) t_nil2 d_L_cell_13
