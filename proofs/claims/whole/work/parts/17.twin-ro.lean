
/-- all depths of the row are -1 .. 255 -/
def dOK (n : Nat) (d : Nat → Int32) : Prop := ∀ k, k < n → -1 ≤ (d k).toInt ∧ (d k).toInt ≤ 255
/-- a long within bounds -/
def lw (v lo hi : Int64) : Bool := decide (lo.toInt ≤ v.toInt) && decide (v.toInt ≤ hi.toInt)
theorem lw_t {v lo hi : Int64} (h1 : ¬ lg_cmp v lo < 0) (h2 : ¬ 0 < lg_cmp v hi) : (1 : Int32) = bI (lw v lo hi) := by
  rw [cmp_lt, llt] at h1; rw [cmp_gt, llt] at h2
  rw [show lw v lo hi = true by simp [lw]; omega]; rfl
theorem lw_f1 {v lo hi : Int64} (h1 : lg_cmp v lo < 0) : (0 : Int32) = bI (lw v lo hi) := by
  rw [cmp_lt, llt] at h1
  rw [show lw v lo hi = false by simp [lw]; omega]; rfl
theorem lw_f2 {v lo hi : Int64} (h2 : 0 < lg_cmp v hi) : (0 : Int32) = bI (lw v lo hi) := by
  rw [cmp_gt, llt] at h2
  rw [show lw v lo hi = false by simp [lw]; omega]; rfl
/-- .. of ints -/
theorem lw_iw {v lo hi : Int32} : lw v.toInt64 lo.toInt64 hi.toInt64 = iw v lo hi := by
  unfold lw iw
  rw [Int32.toInt_toInt64, Int32.toInt_toInt64, Int32.toInt_toInt64]
theorem l0 : (0 : Int64).toInt = 0 := rfl
theorem n1_ti {n : Nat} (h4 : 4 ≤ n) (h64 : n ≤ 64) : (nI n - 1).toInt = (n : Int) - 1 := by
  have := sub_ti (a := n) (b := 1) (by omega) (by omega)
  exact this
theorem lw_pl {n : Nat} {k : Int64} (h4 : 4 ≤ n) (h64 : n ≤ 64) : lw k 0 (nI n - 1).toInt64 = hs n k.toInt := by
  unfold lw hs
  rw [Int32.toInt_toInt64, n1_ti h4 h64, l0]
  congr 1
  exact decide_eq_decide.mpr ⟨fun h => by omega, fun h => by omega⟩
theorem k32 {n : Nat} {k : Int64} (h64 : n ≤ 64) (h : hs n k.toInt = true) : k.toInt32.toInt = k.toInt := by
  obtain ⟨h1, h2⟩ := hs_iff.mp h
  rw [Int64.toInt_toInt32]
  exact Int.bmod_eq_of_le (by omega) (by omega)
theorem kt_in {n : Nat} {k : Int64} (h64 : n ≤ 64) (h : ¬ bI (hs n k.toInt) = 0) : vp_in k.toInt32 64 := by
  have h0 := bI_ne0 h
  obtain ⟨h1, h2⟩ := hs_iff.mp h0
  exact vp_in_iff.mpr (by rw [k32 h64 h0]; omega)
theorem kt_c {n : Nat} {k : Int64} (h64 : n ≤ 64) (h : ¬ bI (hs n k.toInt) = 0) : k.toInt32.toNatClampNeg = k.toInt.toNat := by
  have := k32 h64 (bI_ne0 h)
  show k.toInt32.toInt.toNat = _
  rw [this]
theorem hs_lt {n : Nat} {x : Int} (h : hs n x = true) : x.toNat < n := by have := hs_iff.mp h; omega
theorem kT_t {n : Nat} {d g : Nat → Int32} {k : Int64} (h64 : n ≤ 64) (h : ¬ bI (hs n k.toInt) = 0) (h1 : ¬ d k.toInt32.toNatClampNeg < 0) (h2 : g k.toInt32.toNatClampNeg = 0) : (1 : Int32) = bI (kn n d g k.toInt) := by
  rw [kt_c h64 h] at h1 h2
  have h3 : d k.toInt.toNat ≠ -1 := by intro e; rw [e] at h1; exact h1 (by decide)
  rw [show kn n d g k.toInt = true by simp only [kn, bI_ne0 h, h2, decide_true, Bool.and_true, Bool.true_and, decide_eq_true h3]]; rfl
theorem kT_f1 {n : Nat} {d g : Nat → Int32} {k : Int64} (h : bI (hs n k.toInt) = 0) : (0 : Int32) = bI (kn n d g k.toInt) := by
  rw [show kn n d g k.toInt = false by simp [kn, bI_eq0 h]]; rfl
theorem kT_f2 {n : Nat} {d g : Nat → Int32} {k : Int64} (h64 : n ≤ 64) (hd : dOK n d) (h : ¬ bI (hs n k.toInt) = 0) (h1 : d k.toInt32.toNatClampNeg < 0) : (0 : Int32) = bI (kn n d g k.toInt) := by
  rw [kt_c h64 h, ilt, i0] at h1
  have h3 : d k.toInt.toNat = -1 := ieq.mpr (by rw [im1]; have := (hd _ (hs_lt (bI_ne0 h))).1; omega)
  rw [show kn n d g k.toInt = false by simp only [kn, h3]; simp]; rfl
theorem kT_f3 {n : Nat} {d g : Nat → Int32} {k : Int64} (h64 : n ≤ 64) (h : ¬ bI (hs n k.toInt) = 0) (h1 : ¬ g k.toInt32.toNatClampNeg = 0) : (0 : Int32) = bI (kn n d g k.toInt) := by
  rw [kt_c h64 h] at h1
  rw [show kn n d g k.toInt = false by simp only [kn, decide_eq_false h1, Bool.and_false]]; rfl
/-- the reference's isBetter -/
def btL (bo : Int64) (bm : Int32) (off : Int64) (many : Int32) : Bool := decide (off * bm.toInt64 < bo * many.toInt64) || (decide (off * bm.toInt64 = bo * many.toInt64) && decide (bm < many))
theorem bL_0 {be bm many : Int32} {bo off : Int64} (h : be = -1) : (1 : Int32) = bI (decide (be = -1) || btL bo bm off many) := by rw [h]; rfl
theorem bL_1 {be bm many : Int32} {bo off : Int64} (h : lg_cmp (off * bm.toInt64) (bo * many.toInt64) < 0) : (1 : Int32) = bI (decide (be = -1) || btL bo bm off many) := by
  rw [show btL bo bm off many = true by simp [btL, cmp_lt.mp h], Bool.or_true]; rfl
theorem bL_2 {be bm many : Int32} {bo off : Int64} (h0 : ¬ be = -1) (h : ¬ lg_cmp (off * bm.toInt64) (bo * many.toInt64) < 0) (h1 : ¬ lg_cmp (off * bm.toInt64) (bo * many.toInt64) = 0) : (0 : Int32) = bI (decide (be = -1) || btL bo bm off many) := by
  rw [cmp_lt] at h; rw [cmp_eq] at h1
  rw [show btL bo bm off many = false by simp [btL, h, h1], decide_eq_false h0]; rfl
theorem bL_3 {be bm many : Int32} {bo off : Int64} (h0 : ¬ be = -1) (h : ¬ lg_cmp (off * bm.toInt64) (bo * many.toInt64) < 0) (h2 : many ≤ bm) : (0 : Int32) = bI (decide (be = -1) || btL bo bm off many) := by
  rw [cmp_lt] at h; rw [ile] at h2
  rw [decide_eq_false h0, show btL bo bm off many = false by
    simp only [btL, h, decide_false, Bool.false_or, Bool.and_eq_false_iff, decide_eq_false_iff_not]
    right; rw [ilt]; omega]; rfl
theorem bL_4 {be bm many : Int32} {bo off : Int64} (h1 : lg_cmp (off * bm.toInt64) (bo * many.toInt64) = 0) (h2 : ¬ many ≤ bm) : (1 : Int32) = bI (decide (be = -1) || btL bo bm off many) := by
  rw [cmp_eq] at h1; rw [ile] at h2
  rw [show btL bo bm off many = true by
    simp only [btL, h1, Bool.or_eq_true, Bool.and_eq_true, decide_eq_true_eq, true_and]
    right; rw [ilt]; omega, Bool.or_true]; rfl
theorem tl1 {j : Nat} (hj : j < 2 ^ 20) : (nI j).toInt64.toInt = (j : Int) := by rw [Int32.toInt_toInt64, nI_toInt (by omega)]
theorem tl2 {a b : Nat} (ha : a < 2 ^ 20) (hb : b < 2 ^ 20) : (nI a - nI b).toInt64.toInt = (a : Int) - b := by rw [Int32.toInt_toInt64, sub_ti ha hb]
theorem tl3 {a b : Nat} (ha : a < 2 ^ 20) (hb : b < 2 ^ 20) : (nI a + nI b).toInt64.toInt = (a : Int) + b := by rw [Int32.toInt_toInt64, add_ti ha hb]
theorem v64 {n j : Nat} (h64 : n ≤ 64) (hj : j < n) : vp_in (nI j) 64 := vp_in_nI (by omega) (by decide)
theorem v64k {n : Nat} {d g : Nat → Int32} {x : Int32} (h64 : n ≤ 64) (h : ¬ bI (kn n d g x.toInt64.toInt) = 0) : vp_in x 64 := by
  have := hs_iff.mp (kn_hs (bI_ne0 h))
  rw [Int32.toInt_toInt64] at this
  exact vp_in_iff.mpr (by omega)
theorem rsT_t {n : Nat} {d g : Nat → Int32} {S j : Nat} (hS : S < 2 ^ 20) (hj : j < 2 ^ 20) (h1 : ¬ bI (kn n d g (nI j).toInt64.toInt) = 0) (h2 : ¬ bI (kn n d g (nI j + nI S).toInt64.toInt) = 0) : rs n d g S j + ((d (nI j).toNatClampNeg - 128) * (d (nI j + nI S).toNatClampNeg - 128)).toInt64 = rs n d g S (j + 1) := by
  rw [Int32.toInt_toInt64] at h1 h2
  exact rs_t hS hj h1 h2
theorem rsT_f1 {n : Nat} {d g : Nat → Int32} {S j : Nat} (hj : j < 2 ^ 20) (h1 : bI (kn n d g (nI j).toInt64.toInt) = 0) : rs n d g S j = rs n d g S (j + 1) := by
  rw [Int32.toInt_toInt64] at h1
  exact rs_f1 hj h1
theorem rsT_f2 {n : Nat} {d g : Nat → Int32} {S j : Nat} (hS : S < 2 ^ 20) (hj : j < 2 ^ 20) (h2 : bI (kn n d g (nI j + nI S).toInt64.toInt) = 0) : rs n d g S j = rs n d g S (j + 1) := by
  rw [Int32.toInt_toInt64] at h2
  exact rs_f2 hS hj h2
theorem rT_out {n S j : Nat} (hn : n < 2 ^ 20) (hS : S ≤ n) (h : j ≤ n - S) (c : nI n ≤ nI j + nI S) : j = n - S := by
  rw [nI_add] at c
  have := (nI_leI (by omega) (by omega)).mp c
  omega
theorem rT_in {n S j : Nat} (hn : n < 2 ^ 20) (hS : S ≤ n) (h : j ≤ n - S) (c : ¬ nI n ≤ nI j + nI S) : j < n - S := by
  rcases Nat.lt_or_ge j (n - S) with q | q
  · exact q
  · exact absurd (by rw [nI_add]; exact nI_le (by omega) (by omega)) c

set_option maxHeartbeats 4000000 in
set_option maxRecDepth 100000 in
/-- isIn of longs -/
theorem c_T_isIn_ok (l : Launch) (D : va_G) (cI cZ cJ cO : ClassId) (v lo hi : Int64) : Met l y_T_isIn (wq y_T_isIn c_T_isIn 6 (some .boolean)) ({ frames := 0, cells := 0, slots := 0, locals := 0 }) (rP D (TY cI cZ cJ cO) [] [.long v, .long lo, .long hi]) (vp_Si (fun r => r = bI (lw v lo hi))) 0 0 (fun _ => False) := by
  refine Met.ofW (cc := c_T_isIn) (maxL := 6) (ret := (some .boolean)) (by decide) rfl ?_
  intro p e s m args below meth c s₁ B hml hv
  obtain ⟨rfl, hP, hK, hN⟩ := hv
  have hx := B.exec
  have hb := B.bytes
  have hr := B.returns
  have hg := gt_h (atoms_spec (ws := (wq y_T_isIn c_T_isIn 6 (some .boolean))) B.pre)
  have hown : s.vm.findClass "RubbingMirrorsModel" = some m.cls := findClass_of_methodNamed B.named
  have hlocks := B.notSynchronized
  have hl := lv_entry ([.long v, .long lo, .long hi]) (n := 6) (Nat.le_of_ble_eq_true rfl)
  rw [lg_entry_eq]
  generalize (lg_sl ([.long v, .long lo, .long hi]) ++ List.replicate (6 - (lg_sl ([.long v, .long lo, .long hi])).length) Slot.unset).toArray = ls at hl ⊢
  have hl : lv_has ls 6 [(0, .long v), (2, .long lo), (4, .long hi)] := hl
  refine lv_lload_n hx hb d_T_isIn_0 rfl (lv_at hl 0 rfl) ?_
  refine lv_lload_n hx hb d_T_isIn_1 rfl (lv_at hl 1 rfl) ?_
  refine W.lcmp hx hb d_T_isIn_2 ?_
  refine lv_if_lt (tgt := 17) hx hb d_T_isIn_3 (by decide) (fun c_3 => ?_) (fun c_3 => ?_)
  · refine lv_iconst (v := 0) hx hb d_T_isIn_17 (by decide) ?_
    exact W.zret hx hb hr (by decide) (fun t9 ht hW => ⟨_, rfl, (by first | exact lw_t c_3 c_10 | exact lw_f1 c_3 | exact lw_f2 c_10), ht⟩) t_nil2 d_T_isIn_18
  · refine lv_lload_n hx hb d_T_isIn_6 rfl (lv_at hl 0 rfl) ?_
    refine lv_lload hx hb d_T_isIn_7 (lv_at hl 2 rfl) ?_
    refine W.lcmp hx hb d_T_isIn_9 ?_
    refine lv_if_gt (tgt := 17) hx hb d_T_isIn_10 (by decide) (fun c_10 => ?_) (fun c_10 => ?_)
    · refine lv_iconst (v := 0) hx hb d_T_isIn_17 (by decide) ?_
      exact W.zret hx hb hr (by decide) (fun t9 ht hW => ⟨_, rfl, (by first | exact lw_t c_3 c_10 | exact lw_f1 c_3 | exact lw_f2 c_10), ht⟩) t_nil2 d_T_isIn_18
    · refine lv_iconst (v := 1) hx hb d_T_isIn_13 (by decide) ?_
      refine lv_goto (tgt := 18) hx hb d_T_isIn_14 (by decide) ?_
      exact W.zret hx hb hr (by decide) (fun t9 ht hW => ⟨_, rfl, (by first | exact lw_t c_3 c_10 | exact lw_f1 c_3 | exact lw_f2 c_10), ht⟩) t_nil2 d_T_isIn_18

set_option maxHeartbeats 4000000 in
set_option maxRecDepth 100000 in
theorem c_T_thrown_ok (l : Launch) (D : va_G) (cI cZ cJ cO : ClassId) (o dT gT la ca aa na ya ta : Nat) (n ns nn nr : Nat) (d g sl cr ak no ye tl : Nat → Int32) (th be bp bm : Int32) (bo : Int64) (h4 : 4 ≤ n) (h64 : n ≤ 64) (hd : dOK n d)  : Met l y_T_thrown (wq y_T_thrown c_T_thrown 1 (some .int)) ({ frames := 0, cells := 0, slots := 0, locals := 0 }) (rP D (TY cI cZ cJ cO) [(o, .inr (7, [.int th, .int (nI n), .ref dT, .ref gT, .int (nI ns), .ref la, .ref ca, .int (nI nn), .ref aa, .ref na, .ref ya, .int (nI nr), .ref ta, .int be, .int bp, .long bo, .int bm])), (dT, .inl (cI, 64, .inl d)), (gT, .inl (cZ, 64, .inl g)), (la, .inl (cI, 8, .inl sl)), (ca, .inl (cI, 128, .inl cr)), (aa, .inl (cI, 16, .inl ak)), (na, .inl (cI, 16, .inl no)), (ya, .inl (cI, 16, .inl ye)), (ta, .inl (cI, 48, .inl tl))] [.ref o]) (vp_Si (fun r => r = th)) 0 0 (fun _ => False) := by
  refine Met.ofW (cc := c_T_thrown) (maxL := 1) (ret := (some .int)) (by decide) rfl ?_
  intro p e s m args below meth c s₁ B hml hv
  obtain ⟨rfl, hP, hK, hN⟩ := hv
  have hx := B.exec
  have hb := B.bytes
  have hr := B.returns
  have hg := gt_h (atoms_spec (ws := (wq y_T_thrown c_T_thrown 1 (some .int))) B.pre)
  have hown : s.vm.findClass "RubbingMirrorsModel" = some m.cls := findClass_of_methodNamed B.named
  have hlocks := B.notSynchronized
  have hl := lv_entry ([.ref o]) (n := 1) (Nat.le_of_ble_eq_true rfl)
  rw [lg_entry_eq]
  generalize (lg_sl ([.ref o]) ++ List.replicate (1 - (lg_sl ([.ref o])).length) Slot.unset).toArray = ls at hl ⊢
  have hl : lv_has ls 1 [(0, .ref o)] := hl
  refine lv_aload_n hx hb d_T_thrown_0 rfl (lv_at hl 0 rfl) ?_
  refine va_get (D := D) (ci := 7) (v := .int th) (C := Q_T) (T := F_T) (N := 17) hx hb hg in_T hown hK hP 0 rfl rfl 0 (by decide) (hg _ g_639) (fun _ h9 => h9) rfl d_T_thrown_1 ?_
  exact W.iret hx hb hr (fun t9 ht hW => ⟨_, rfl, rfl, ht⟩) t_nil2 d_T_thrown_4

set_option maxHeartbeats 4000000 in
set_option maxRecDepth 100000 in
theorem c_T_isPlace_ok (l : Launch) (D : va_G) (cI cZ cJ cO : ClassId) (o dT gT la ca aa na ya ta : Nat) (n ns nn nr : Nat) (d g sl cr ak no ye tl : Nat → Int32) (th be bp bm : Int32) (bo : Int64) (h4 : 4 ≤ n) (h64 : n ≤ 64) (hd : dOK n d) (k : Int64) : Met l y_T_isPlace (wq y_T_isPlace c_T_isPlace 3 (some .boolean)) ({ frames := 1, cells := 0, slots := 0, locals := 25 }) (rP D (TY cI cZ cJ cO) [(o, .inr (7, [.int th, .int (nI n), .ref dT, .ref gT, .int (nI ns), .ref la, .ref ca, .int (nI nn), .ref aa, .ref na, .ref ya, .int (nI nr), .ref ta, .int be, .int bp, .long bo, .int bm])), (dT, .inl (cI, 64, .inl d)), (gT, .inl (cZ, 64, .inl g)), (la, .inl (cI, 8, .inl sl)), (ca, .inl (cI, 128, .inl cr)), (aa, .inl (cI, 16, .inl ak)), (na, .inl (cI, 16, .inl no)), (ya, .inl (cI, 16, .inl ye)), (ta, .inl (cI, 48, .inl tl))] [.ref o, .long k]) (vp_Si (fun r => r = bI (hs n k.toInt))) 0 0 (fun _ => False) := by
  refine Met.ofW (cc := c_T_isPlace) (maxL := 3) (ret := (some .boolean)) (by decide) rfl ?_
  intro p e s m args below meth c s₁ B hml hv
  obtain ⟨rfl, hP, hK, hN⟩ := hv
  have hx := B.exec
  have hb := B.bytes
  have hr := B.returns
  have hg := gt_h (atoms_spec (ws := (wq y_T_isPlace c_T_isPlace 3 (some .boolean))) B.pre)
  have hown : s.vm.findClass "RubbingMirrorsModel" = some m.cls := findClass_of_methodNamed B.named
  have hlocks := B.notSynchronized
  have hl := lv_entry ([.ref o, .long k]) (n := 3) (Nat.le_of_ble_eq_true rfl)
  rw [lg_entry_eq]
  generalize (lg_sl ([.ref o, .long k]) ++ List.replicate (3 - (lg_sl ([.ref o, .long k])).length) Slot.unset).toArray = ls at hl ⊢
  have hl : lv_has ls 3 [(0, .ref o), (1, .long k)] := hl
  refine lv_lload_n hx hb d_T_isPlace_0 rfl (lv_at hl 1 rfl) ?_
  refine lv_lconst (v := 0) hx hb d_T_isPlace_1 (by decide) ?_
  refine lv_aload_n hx hb d_T_isPlace_2 rfl (lv_at hl 0 rfl) ?_
  refine va_get (D := D) (ci := 7) (v := .int (nI n)) (C := Q_T) (T := F_T) (N := 17) hx hb hg in_T hown hK hP 0 rfl rfl 1 (by decide) (hg _ g_640) (fun _ h9 => h9) rfl d_T_isPlace_3 ?_
  refine lv_iconst (v := 1) hx hb d_T_isPlace_6 (by decide) ?_
  refine lv_isub hx hb d_T_isPlace_7 ?_
  refine lv_i2l (v := ((nI n) - 1).toInt64) hx hb d_T_isPlace_8 rfl ?_
  refine vp_callSi (va_Run.run (va_runS (As := [.long k, .long 0, .long (((nI n) - 1).toInt64)]) (rest := []) ⟨hx, hb, hml, hown, hg⟩ (c_T_isIn_ok l D cI cZ cJ cO k 0 (((nI n) - 1).toInt64)) (va_cwS 3 hg (gs2 g_703 g_704 g_26 g_705) rfl rfl rfl (by decide +kernel) ⟨Nat.le_of_ble_eq_true rfl, Nat.le_of_ble_eq_true rfl⟩) (pS ba_nil hK hN) rfl rfl hl.1 rfl (lv_room (Nat.le_of_ble_eq_true rfl)) d_T_isPlace_9 ⟨Nat.zero_le _, Nat.zero_le _⟩)) (fun r_1 hr_1 => ?_)
  subst hr_1
  exact W.zret hx hb hr (nz_bI _) (fun t9 ht hW => ⟨_, rfl, (by rw [lw_pl h4 h64]), ht⟩) t_nil2 d_T_isPlace_12

set_option maxHeartbeats 4000000 in
set_option maxRecDepth 100000 in
theorem c_T_isKnown_ok (l : Launch) (D : va_G) (cI cZ cJ cO : ClassId) (o dT gT la ca aa na ya ta : Nat) (n ns nn nr : Nat) (d g sl cr ak no ye tl : Nat → Int32) (th be bp bm : Int32) (bo : Int64) (h4 : 4 ≤ n) (h64 : n ≤ 64) (hd : dOK n d) (k : Int64) : Met l y_T_isKnown (wq y_T_isKnown c_T_isKnown 3 (some .boolean)) ({ frames := 2, cells := 0, slots := 0, locals := 47 }) (rP D (TY cI cZ cJ cO) [(o, .inr (7, [.int th, .int (nI n), .ref dT, .ref gT, .int (nI ns), .ref la, .ref ca, .int (nI nn), .ref aa, .ref na, .ref ya, .int (nI nr), .ref ta, .int be, .int bp, .long bo, .int bm])), (dT, .inl (cI, 64, .inl d)), (gT, .inl (cZ, 64, .inl g)), (la, .inl (cI, 8, .inl sl)), (ca, .inl (cI, 128, .inl cr)), (aa, .inl (cI, 16, .inl ak)), (na, .inl (cI, 16, .inl no)), (ya, .inl (cI, 16, .inl ye)), (ta, .inl (cI, 48, .inl tl))] [.ref o, .long k]) (vp_Si (fun r => r = bI (kn n d g k.toInt))) 0 0 (fun _ => False) := by
  refine Met.ofW (cc := c_T_isKnown) (maxL := 3) (ret := (some .boolean)) (by decide) rfl ?_
  intro p e s m args below meth c s₁ B hml hv
  obtain ⟨rfl, hP, hK, hN⟩ := hv
  have hx := B.exec
  have hb := B.bytes
  have hr := B.returns
  have hg := gt_h (atoms_spec (ws := (wq y_T_isKnown c_T_isKnown 3 (some .boolean))) B.pre)
  have hown : s.vm.findClass "RubbingMirrorsModel" = some m.cls := findClass_of_methodNamed B.named
  have hlocks := B.notSynchronized
  have hl := lv_entry ([.ref o, .long k]) (n := 3) (Nat.le_of_ble_eq_true rfl)
  rw [lg_entry_eq]
  generalize (lg_sl ([.ref o, .long k]) ++ List.replicate (3 - (lg_sl ([.ref o, .long k])).length) Slot.unset).toArray = ls at hl ⊢
  have hl : lv_has ls 3 [(0, .ref o), (1, .long k)] := hl
  refine lv_aload_n hx hb d_T_isKnown_0 rfl (lv_at hl 0 rfl) ?_
  refine lv_lload_n hx hb d_T_isKnown_1 rfl (lv_at hl 1 rfl) ?_
  refine vp_callSi (va_Run.run (va_runV (As := [.long k]) (rest := []) ⟨hx, hb, hml, hown, hg⟩ (c_T_isPlace_ok l D cI cZ cJ cO o dT gT la ca aa na ya ta n ns nn nr d g sl cr ak no ye tl th be bp bm bo h4 h64 hd k) (cwV 1 hg (gv g_699 g_701 g_9 g_26 g_702) rfl rfl rfl (by decide +kernel) ⟨Nat.le_of_ble_eq_true rfl, Nat.le_of_ble_eq_true rfl⟩) (pV hP hK hN (va_recv hK hP (ci := 7) (q0 := 0) rfl rfl)) rfl rfl hl.1 rfl (lv_room (Nat.le_of_ble_eq_true rfl)) d_T_isKnown_2 ⟨Nat.zero_le _, Nat.zero_le _⟩)) (fun r_1 hr_1 => ?_)
  subst hr_1
  refine lv_if_eq (tgt := 32) hx hb d_T_isKnown_5 (by decide) (fun c_5 => ?_) (fun c_5 => ?_)
  · refine lv_iconst (v := 0) hx hb d_T_isKnown_32 (by decide) ?_
    exact W.zret hx hb hr (by decide) (fun t9 ht hW => ⟨_, rfl, (by first | exact kT_t h64 c_5 c_15 c_25 | exact kT_f1 c_5 | exact kT_f2 h64 hd c_5 c_15 | exact kT_f3 h64 c_5 c_25), ht⟩) t_nil2 d_T_isKnown_33
  · refine lv_aload_n hx hb d_T_isKnown_8 rfl (lv_at hl 0 rfl) ?_
    refine va_get (D := D) (ci := 7) (v := .ref dT) (C := Q_T) (T := F_T) (N := 17) hx hb hg in_T hown hK hP 0 rfl rfl 2 (by decide) (hg _ g_641) (fun _ h9 => h9) rfl d_T_isKnown_9 ?_
    refine lv_lload_n hx hb d_T_isKnown_12 rfl (lv_at hl 1 rfl) ?_
    refine lv_l2i (v := k.toInt32) hx hb d_T_isKnown_13 rfl ?_
    refine va_iald hx hb hK hP 1 0 rfl rfl (kt_in h64 c_5) d_T_isKnown_14 ?_
    refine lv_if_lt (tgt := 32) hx hb d_T_isKnown_15 (by decide) (fun c_15 => ?_) (fun c_15 => ?_)
    · refine lv_iconst (v := 0) hx hb d_T_isKnown_32 (by decide) ?_
      exact W.zret hx hb hr (by decide) (fun t9 ht hW => ⟨_, rfl, (by first | exact kT_t h64 c_5 c_15 c_25 | exact kT_f1 c_5 | exact kT_f2 h64 hd c_5 c_15 | exact kT_f3 h64 c_5 c_25), ht⟩) t_nil2 d_T_isKnown_33
    · refine lv_aload_n hx hb d_T_isKnown_18 rfl (lv_at hl 0 rfl) ?_
      refine va_get (D := D) (ci := 7) (v := .ref gT) (C := Q_T) (T := F_T) (N := 17) hx hb hg in_T hown hK hP 0 rfl rfl 3 (by decide) (hg _ g_642) (fun _ h9 => h9) rfl d_T_isKnown_19 ?_
      refine lv_lload_n hx hb d_T_isKnown_22 rfl (lv_at hl 1 rfl) ?_
      refine lv_l2i (v := k.toInt32) hx hb d_T_isKnown_23 rfl ?_
      refine va_zald hx hb hK hP 2 1 rfl rfl (kt_in h64 c_5) d_T_isKnown_24 ?_
      refine lv_if_ne (tgt := 32) hx hb d_T_isKnown_25 (by decide) (fun c_25 => ?_) (fun c_25 => ?_)
      · refine lv_iconst (v := 0) hx hb d_T_isKnown_32 (by decide) ?_
        exact W.zret hx hb hr (by decide) (fun t9 ht hW => ⟨_, rfl, (by first | exact kT_t h64 c_5 c_15 c_25 | exact kT_f1 c_5 | exact kT_f2 h64 hd c_5 c_15 | exact kT_f3 h64 c_5 c_25), ht⟩) t_nil2 d_T_isKnown_33
      · refine lv_iconst (v := 1) hx hb d_T_isKnown_28 (by decide) ?_
        refine lv_goto (tgt := 33) hx hb d_T_isKnown_29 (by decide) ?_
        exact W.zret hx hb hr (by decide) (fun t9 ht hW => ⟨_, rfl, (by first | exact kT_t h64 c_5 c_15 c_25 | exact kT_f1 c_5 | exact kT_f2 h64 hd c_5 c_15 | exact kT_f3 h64 c_5 c_25), ht⟩) t_nil2 d_T_isKnown_33

set_option maxHeartbeats 4000000 in
set_option maxRecDepth 100000 in
theorem c_T_isBetter_ok (l : Launch) (D : va_G) (cI cZ cJ cO : ClassId) (o dT gT la ca aa na ya ta : Nat) (n ns nn nr : Nat) (d g sl cr ak no ye tl : Nat → Int32) (th be bp bm : Int32) (bo : Int64) (h4 : 4 ≤ n) (h64 : n ≤ 64) (hd : dOK n d) (off : Int64) (many : Int32) : Met l y_T_isBetter (wq y_T_isBetter c_T_isBetter 8 (some .boolean)) ({ frames := 0, cells := 0, slots := 0, locals := 0 }) (rP D (TY cI cZ cJ cO) [(o, .inr (7, [.int th, .int (nI n), .ref dT, .ref gT, .int (nI ns), .ref la, .ref ca, .int (nI nn), .ref aa, .ref na, .ref ya, .int (nI nr), .ref ta, .int be, .int bp, .long bo, .int bm])), (dT, .inl (cI, 64, .inl d)), (gT, .inl (cZ, 64, .inl g)), (la, .inl (cI, 8, .inl sl)), (ca, .inl (cI, 128, .inl cr)), (aa, .inl (cI, 16, .inl ak)), (na, .inl (cI, 16, .inl no)), (ya, .inl (cI, 16, .inl ye)), (ta, .inl (cI, 48, .inl tl))] [.ref o, .long off, .int many]) (vp_Si (fun r => r = bI (decide (be = -1) || btL bo bm off many))) 0 0 (fun _ => False) := by
  refine Met.ofW (cc := c_T_isBetter) (maxL := 8) (ret := (some .boolean)) (by decide) rfl ?_
  intro p e s m args below meth c s₁ B hml hv
  obtain ⟨rfl, hP, hK, hN⟩ := hv
  have hx := B.exec
  have hb := B.bytes
  have hr := B.returns
  have hg := gt_h (atoms_spec (ws := (wq y_T_isBetter c_T_isBetter 8 (some .boolean))) B.pre)
  have hown : s.vm.findClass "RubbingMirrorsModel" = some m.cls := findClass_of_methodNamed B.named
  have hlocks := B.notSynchronized
  have hl := lv_entry ([.ref o, .long off, .int many]) (n := 8) (Nat.le_of_ble_eq_true rfl)
  rw [lg_entry_eq]
  generalize (lg_sl ([.ref o, .long off, .int many]) ++ List.replicate (8 - (lg_sl ([.ref o, .long off, .int many])).length) Slot.unset).toArray = ls at hl ⊢
  have hl : lv_has ls 8 [(0, .ref o), (1, .long off), (3, .int many)] := hl
  refine lv_lload_n hx hb d_T_isBetter_0 rfl (lv_at hl 1 rfl) ?_
  refine lv_aload_n hx hb d_T_isBetter_1 rfl (lv_at hl 0 rfl) ?_
  refine va_get (D := D) (ci := 7) (v := .int bm) (C := Q_T) (T := F_T) (N := 17) hx hb hg in_T hown hK hP 0 rfl rfl 16 (by decide) (hg _ g_655) (fun _ h9 => h9) rfl d_T_isBetter_2 ?_
  refine lv_i2l (v := bm.toInt64) hx hb d_T_isBetter_5 rfl ?_
  refine lv_lmul hx hb d_T_isBetter_6 ?_
  refine lv_lstore (lv' := [(4, .long (off * bm.toInt64)), (0, .ref o), (1, .long off), (3, .int many)]) hx hb d_T_isBetter_7 hl (by decide) rfl (fun ls hl => ?_)
  refine lv_aload_n hx hb d_T_isBetter_9 rfl (lv_at hl 1 rfl) ?_
  refine va_get (D := D) (ci := 7) (v := .long bo) (C := Q_T) (T := F_T) (N := 17) hx hb hg in_T hown hK hP 0 rfl rfl 15 (by decide) (hg _ g_654) (fun _ h9 => h9) rfl d_T_isBetter_10 ?_
  refine lv_iload_n hx hb d_T_isBetter_13 rfl (lv_at hl 3 rfl) ?_
  refine lv_i2l (v := many.toInt64) hx hb d_T_isBetter_14 rfl ?_
  refine lv_lmul hx hb d_T_isBetter_15 ?_
  refine lv_lstore (lv' := [(6, .long (bo * many.toInt64)), (4, .long (off * bm.toInt64)), (0, .ref o), (1, .long off), (3, .int many)]) hx hb d_T_isBetter_16 hl (by decide) rfl (fun ls hl => ?_)
  refine lv_aload_n hx hb d_T_isBetter_18 rfl (lv_at hl 2 rfl) ?_
  refine va_get (D := D) (ci := 7) (v := .int be) (C := Q_T) (T := F_T) (N := 17) hx hb hg in_T hown hK hP 0 rfl rfl 13 (by decide) (hg _ g_652) (fun _ h9 => h9) rfl d_T_isBetter_19 ?_
  refine lv_iconst (v := (-1)) hx hb d_T_isBetter_22 (by decide) ?_
  refine lv_icmp_eq (tgt := 50) hx hb d_T_isBetter_23 (by decide) (fun c_23 => ?_) (fun c_23 => ?_)
  · refine lv_iconst (v := 1) hx hb d_T_isBetter_50 (by decide) ?_
    refine lv_goto (tgt := 55) hx hb d_T_isBetter_51 (by decide) ?_
    exact W.zret hx hb hr (by decide) (fun t9 ht hW => ⟨_, rfl, (by first | exact bL_0 c_23 | exact bL_1 c_31 | exact bL_2 c_23 c_31 c_39 | exact bL_3 c_23 c_31 c_47 | exact bL_4 c_39 c_47), ht⟩) t_nil2 d_T_isBetter_55
  · refine lv_lload hx hb d_T_isBetter_26 (lv_at hl 1 rfl) ?_
    refine lv_lload hx hb d_T_isBetter_28 (lv_at hl 0 rfl) ?_
    refine W.lcmp hx hb d_T_isBetter_30 ?_
    refine lv_if_lt (tgt := 50) hx hb d_T_isBetter_31 (by decide) (fun c_31 => ?_) (fun c_31 => ?_)
    · refine lv_iconst (v := 1) hx hb d_T_isBetter_50 (by decide) ?_
      refine lv_goto (tgt := 55) hx hb d_T_isBetter_51 (by decide) ?_
      exact W.zret hx hb hr (by decide) (fun t9 ht hW => ⟨_, rfl, (by first | exact bL_0 c_23 | exact bL_1 c_31 | exact bL_2 c_23 c_31 c_39 | exact bL_3 c_23 c_31 c_47 | exact bL_4 c_39 c_47), ht⟩) t_nil2 d_T_isBetter_55
    · refine lv_lload hx hb d_T_isBetter_34 (lv_at hl 1 rfl) ?_
      refine lv_lload hx hb d_T_isBetter_36 (lv_at hl 0 rfl) ?_
      refine W.lcmp hx hb d_T_isBetter_38 ?_
      refine lv_if_ne (tgt := 54) hx hb d_T_isBetter_39 (by decide) (fun c_39 => ?_) (fun c_39 => ?_)
      · refine lv_iconst (v := 0) hx hb d_T_isBetter_54 (by decide) ?_
        exact W.zret hx hb hr (by decide) (fun t9 ht hW => ⟨_, rfl, (by first | exact bL_0 c_23 | exact bL_1 c_31 | exact bL_2 c_23 c_31 c_39 | exact bL_3 c_23 c_31 c_47 | exact bL_4 c_39 c_47), ht⟩) t_nil2 d_T_isBetter_55
      · refine lv_iload_n hx hb d_T_isBetter_42 rfl (lv_at hl 4 rfl) ?_
        refine lv_aload_n hx hb d_T_isBetter_43 rfl (lv_at hl 2 rfl) ?_
        refine va_get (D := D) (ci := 7) (v := .int bm) (C := Q_T) (T := F_T) (N := 17) hx hb hg in_T hown hK hP 0 rfl rfl 16 (by decide) (hg _ g_655) (fun _ h9 => h9) rfl d_T_isBetter_44 ?_
        refine lv_icmp_le (tgt := 54) hx hb d_T_isBetter_47 (by decide) (fun c_47 => ?_) (fun c_47 => ?_)
        · refine lv_iconst (v := 0) hx hb d_T_isBetter_54 (by decide) ?_
          exact W.zret hx hb hr (by decide) (fun t9 ht hW => ⟨_, rfl, (by first | exact bL_0 c_23 | exact bL_1 c_31 | exact bL_2 c_23 c_31 c_39 | exact bL_3 c_23 c_31 c_47 | exact bL_4 c_39 c_47), ht⟩) t_nil2 d_T_isBetter_55
        · refine lv_iconst (v := 1) hx hb d_T_isBetter_50 (by decide) ?_
          refine lv_goto (tgt := 55) hx hb d_T_isBetter_51 (by decide) ?_
          exact W.zret hx hb hr (by decide) (fun t9 ht hW => ⟨_, rfl, (by first | exact bL_0 c_23 | exact bL_1 c_31 | exact bL_2 c_23 c_31 c_39 | exact bL_3 c_23 c_31 c_47 | exact bL_4 c_39 c_47), ht⟩) t_nil2 d_T_isBetter_55

set_option maxHeartbeats 4000000 in
set_option maxRecDepth 100000 in
theorem c_T_sumOf_ok (l : Launch) (D : va_G) (cI cZ cJ cO : ClassId) (o dT gT la ca aa na ya ta : Nat) (n ns nn nr : Nat) (d g sl cr ak no ye tl : Nat → Int32) (th be bp bm : Int32) (bo : Int64) (h4 : 4 ≤ n) (h64 : n ≤ 64) (hd : dOK n d) (S : Nat) (hS9 : S ≤ n) : Met l y_T_sumOf (wq y_T_sumOf c_T_sumOf 5 (some .long)) ({ frames := 3, cells := 0, slots := 0, locals := 69 }) (rP D (TY cI cZ cJ cO) [(o, .inr (7, [.int th, .int (nI n), .ref dT, .ref gT, .int (nI ns), .ref la, .ref ca, .int (nI nn), .ref aa, .ref na, .ref ya, .int (nI nr), .ref ta, .int be, .int bp, .long bo, .int bm])), (dT, .inl (cI, 64, .inl d)), (gT, .inl (cZ, 64, .inl g)), (la, .inl (cI, 8, .inl sl)), (ca, .inl (cI, 128, .inl cr)), (aa, .inl (cI, 16, .inl ak)), (na, .inl (cI, 16, .inl no)), (ya, .inl (cI, 16, .inl ye)), (ta, .inl (cI, 48, .inl tl))] [.ref o, .int (nI S)]) (vp_Sl (fun r => r = rs n d g S (n - S))) 0 0 (fun _ => False) := by
  refine Met.ofW (cc := c_T_sumOf) (maxL := 5) (ret := (some .long)) (by decide) rfl ?_
  intro p e s m args below meth c s₁ B hml hv
  obtain ⟨rfl, hP, hK, hN⟩ := hv
  have hx := B.exec
  have hb := B.bytes
  have hr := B.returns
  have hg := gt_h (atoms_spec (ws := (wq y_T_sumOf c_T_sumOf 5 (some .long))) B.pre)
  have hown : s.vm.findClass "RubbingMirrorsModel" = some m.cls := findClass_of_methodNamed B.named
  have hlocks := B.notSynchronized
  have hl := lv_entry ([.ref o, .int (nI S)]) (n := 5) (Nat.le_of_ble_eq_true rfl)
  rw [lg_entry_eq]
  generalize (lg_sl ([.ref o, .int (nI S)]) ++ List.replicate (5 - (lg_sl ([.ref o, .int (nI S)])).length) Slot.unset).toArray = ls at hl ⊢
  have hl : lv_has ls 5 [(0, .ref o), (1, .int (nI S))] := hl
  refine lv_lconst (v := 0) hx hb d_T_sumOf_0 (by decide) ?_
  refine lv_lstore_n (lv' := [(2, .long 0), (0, .ref o), (1, .int (nI S))]) hx hb d_T_sumOf_1 rfl hl (by decide) rfl (fun ls hl => ?_)
  refine lv_iconst (v := 0) hx hb d_T_sumOf_2 (by decide) ?_
  refine lv_istore (lv' := [(4, .int 0), (2, .long 0), (0, .ref o), (1, .int (nI S))]) hx hb d_T_sumOf_3 hl (by decide) rfl (fun ls hl => ?_)
  have loop_5 : ∀ (f5 : Nat) (j : Nat) (x2 : Int64) (x4 : Int32) (ls : Array Slot), (j ≤ n - S ∧ n - S < j + f5 ∧ x2 = rs n d g S j ∧ x4 = nI j) → lv_has ls 5 [(0, .ref o), (1, .int (nI S)), (2, .long x2), (4, .int x4)] → W p l e (headSpec (wq y_T_sumOf c_T_sumOf 5 (some .long)) ({ frames := 3, cells := 0, slots := 0, locals := 69 })).room s m ([.ref o, .int (nI S)] : List Value).toArray below meth c s.heap [] 0 0 (MQ below (vp_Sl (fun r => r = rs n d g S (n - S))) ([.ref o, .int (nI S)] : List Value).toArray s 0 0 (fun _ => False)) (F0 m 5 ls []) := by
    intro f5
    induction f5 with
    | zero =>
      intro j x2 x4 ls hI hl
      obtain ⟨hj1, hj2, rfl, rfl⟩ := hI
      omega
    | succ f5 ih5 =>
      intro j x2 x4 ls hI hl
      obtain ⟨hj1, hj2, rfl, rfl⟩ := hI
      refine lv_iload hx hb d_T_sumOf_5 (lv_at hl 3 rfl) ?_
      refine lv_iload_n hx hb d_T_sumOf_7 rfl (lv_at hl 1 rfl) ?_
      refine lv_iadd hx hb d_T_sumOf_8 ?_
      refine lv_aload_n hx hb d_T_sumOf_9 rfl (lv_at hl 0 rfl) ?_
      refine va_get (D := D) (ci := 7) (v := .int (nI n)) (C := Q_T) (T := F_T) (N := 17) hx hb hg in_T hown hK hP 0 rfl rfl 1 (by decide) (hg _ g_640) (fun _ h9 => h9) rfl d_T_sumOf_10 ?_
      refine lv_icmp_ge (tgt := 77) hx hb d_T_sumOf_13 (by decide) (fun c_13 => ?_) (fun c_13 => ?_)
      · refine lv_lload_n hx hb d_T_sumOf_77 rfl (lv_at hl 2 rfl) ?_
        exact W.lret hx hb hr (fun t9 ht hW => ⟨_, rfl, (by rw [← rT_out (by omega) hS9 hj1 c_13]), ht⟩) t_nil2 d_T_sumOf_78
      · refine lv_aload_n hx hb d_T_sumOf_16 rfl (lv_at hl 0 rfl) ?_
        refine lv_iload hx hb d_T_sumOf_17 (lv_at hl 3 rfl) ?_
        refine lv_i2l (v := (nI j).toInt64) hx hb d_T_sumOf_19 rfl ?_
        refine vp_callSi (va_Run.run (va_runV (As := [.long ((nI j).toInt64)]) (rest := []) ⟨hx, hb, hml, hown, hg⟩ (c_T_isKnown_ok l D cI cZ cJ cO o dT gT la ca aa na ya ta n ns nn nr d g sl cr ak no ye tl th be bp bm bo h4 h64 hd ((nI j).toInt64)) (cwV 1 hg (gv g_720 g_722 g_11 g_26 g_723) rfl rfl rfl (by decide +kernel) ⟨Nat.le_of_ble_eq_true rfl, Nat.le_of_ble_eq_true rfl⟩) (pV hP hK hN (va_recv hK hP (ci := 7) (q0 := 0) rfl rfl)) rfl rfl hl.1 rfl (lv_room (Nat.le_of_ble_eq_true rfl)) d_T_sumOf_20 ⟨Nat.zero_le _, Nat.zero_le _⟩)) (fun r_1 hr_1 => ?_)
        subst hr_1
        refine lv_if_eq (tgt := 69) hx hb d_T_sumOf_23 (by decide) (fun c_23 => ?_) (fun c_23 => ?_)
        · refine lv_lload_n hx hb d_T_sumOf_69 rfl (lv_at hl 2 rfl) ?_
          refine lv_lstore_n (lv' := [(2, .long (rs n d g S j)), (0, .ref o), (1, .int (nI S)), (4, .int (nI j))]) hx hb d_T_sumOf_70 rfl hl (by decide) rfl (fun ls hl => ?_)
          refine lv_iinc (v := (nI j) + 1) (lv' := [(4, .int ((nI j) + 1)), (2, .long (rs n d g S j)), (0, .ref o), (1, .int (nI S))]) hx hb d_T_sumOf_71 hl (k := 3) rfl rfl (by decide) rfl (fun ls hl => ?_)
          refine lv_goto (tgt := 5) hx hb d_T_sumOf_74 (by decide) ?_
          exact ih5 (j + 1) (rs n d g S j) ((nI j) + 1) ls (⟨by have := rT_in (by omega) hS9 hj1 c_13; omega, by omega, (by first | exact rsT_t (by omega) (by omega) c_23 c_35 | exact rsT_f1 (by omega) c_23 | exact rsT_f2 (by omega) (by omega) c_35), nI_1 j⟩) (lv_sub hl [2, 3, 1, 0] rfl)
        · refine lv_aload_n hx hb d_T_sumOf_26 rfl (lv_at hl 0 rfl) ?_
          refine lv_iload hx hb d_T_sumOf_27 (lv_at hl 3 rfl) ?_
          refine lv_iload_n hx hb d_T_sumOf_29 rfl (lv_at hl 1 rfl) ?_
          refine lv_iadd hx hb d_T_sumOf_30 ?_
          refine lv_i2l (v := ((nI j) + (nI S)).toInt64) hx hb d_T_sumOf_31 rfl ?_
          refine vp_callSi (va_Run.run (va_runV (As := [.long (((nI j) + (nI S)).toInt64)]) (rest := []) ⟨hx, hb, hml, hown, hg⟩ (c_T_isKnown_ok l D cI cZ cJ cO o dT gT la ca aa na ya ta n ns nn nr d g sl cr ak no ye tl th be bp bm bo h4 h64 hd (((nI j) + (nI S)).toInt64)) (cwV 1 hg (gv g_720 g_722 g_11 g_26 g_723) rfl rfl rfl (by decide +kernel) ⟨Nat.le_of_ble_eq_true rfl, Nat.le_of_ble_eq_true rfl⟩) (pV hP hK hN (va_recv hK hP (ci := 7) (q0 := 0) rfl rfl)) rfl rfl hl.1 rfl (lv_room (Nat.le_of_ble_eq_true rfl)) d_T_sumOf_32 ⟨Nat.zero_le _, Nat.zero_le _⟩)) (fun r_2 hr_2 => ?_)
          subst hr_2
          refine lv_if_eq (tgt := 69) hx hb d_T_sumOf_35 (by decide) (fun c_35 => ?_) (fun c_35 => ?_)
          · refine lv_lload_n hx hb d_T_sumOf_69 rfl (lv_at hl 2 rfl) ?_
            refine lv_lstore_n (lv' := [(2, .long (rs n d g S j)), (0, .ref o), (1, .int (nI S)), (4, .int (nI j))]) hx hb d_T_sumOf_70 rfl hl (by decide) rfl (fun ls hl => ?_)
            refine lv_iinc (v := (nI j) + 1) (lv' := [(4, .int ((nI j) + 1)), (2, .long (rs n d g S j)), (0, .ref o), (1, .int (nI S))]) hx hb d_T_sumOf_71 hl (k := 3) rfl rfl (by decide) rfl (fun ls hl => ?_)
            refine lv_goto (tgt := 5) hx hb d_T_sumOf_74 (by decide) ?_
            exact ih5 (j + 1) (rs n d g S j) ((nI j) + 1) ls (⟨by have := rT_in (by omega) hS9 hj1 c_13; omega, by omega, (by first | exact rsT_t (by omega) (by omega) c_23 c_35 | exact rsT_f1 (by omega) c_23 | exact rsT_f2 (by omega) (by omega) c_35), nI_1 j⟩) (lv_sub hl [2, 3, 1, 0] rfl)
          · refine lv_lload_n hx hb d_T_sumOf_38 rfl (lv_at hl 2 rfl) ?_
            refine lv_aload_n hx hb d_T_sumOf_39 rfl (lv_at hl 0 rfl) ?_
            refine va_get (D := D) (ci := 7) (v := .ref dT) (C := Q_T) (T := F_T) (N := 17) hx hb hg in_T hown hK hP 0 rfl rfl 2 (by decide) (hg _ g_641) (fun _ h9 => h9) rfl d_T_sumOf_40 ?_
            refine lv_iload hx hb d_T_sumOf_43 (lv_at hl 3 rfl) ?_
            refine va_iald hx hb hK hP 1 0 rfl rfl (v64k h64 c_23) d_T_sumOf_45 ?_
            refine lv_sipush (v := 128) hx hb d_T_sumOf_46 (by decide) ?_
            refine lv_isub hx hb d_T_sumOf_49 ?_
            refine lv_aload_n hx hb d_T_sumOf_50 rfl (lv_at hl 0 rfl) ?_
            refine va_get (D := D) (ci := 7) (v := .ref dT) (C := Q_T) (T := F_T) (N := 17) hx hb hg in_T hown hK hP 0 rfl rfl 2 (by decide) (hg _ g_641) (fun _ h9 => h9) rfl d_T_sumOf_51 ?_
            refine lv_iload hx hb d_T_sumOf_54 (lv_at hl 3 rfl) ?_
            refine lv_iload_n hx hb d_T_sumOf_56 rfl (lv_at hl 1 rfl) ?_
            refine lv_iadd hx hb d_T_sumOf_57 ?_
            refine va_iald hx hb hK hP 1 0 rfl rfl (v64k h64 c_35) d_T_sumOf_58 ?_
            refine lv_sipush (v := 128) hx hb d_T_sumOf_59 (by decide) ?_
            refine lv_isub hx hb d_T_sumOf_62 ?_
            refine lv_imul hx hb d_T_sumOf_63 ?_
            refine lv_i2l (v := (((d (nI j).toNatClampNeg) - 128) * ((d ((nI j) + (nI S)).toNatClampNeg) - 128)).toInt64) hx hb d_T_sumOf_64 rfl ?_
            refine lv_ladd hx hb d_T_sumOf_65 ?_
            refine lv_goto (tgt := 70) hx hb d_T_sumOf_66 (by decide) ?_
            refine lv_lstore_n (lv' := [(2, .long ((rs n d g S j) + ((((d (nI j).toNatClampNeg) - 128) * ((d ((nI j) + (nI S)).toNatClampNeg) - 128)).toInt64))), (0, .ref o), (1, .int (nI S)), (4, .int (nI j))]) hx hb d_T_sumOf_70 rfl hl (by decide) rfl (fun ls hl => ?_)
            refine lv_iinc (v := (nI j) + 1) (lv' := [(4, .int ((nI j) + 1)), (2, .long ((rs n d g S j) + ((((d (nI j).toNatClampNeg) - 128) * ((d ((nI j) + (nI S)).toNatClampNeg) - 128)).toInt64))), (0, .ref o), (1, .int (nI S))]) hx hb d_T_sumOf_71 hl (k := 3) rfl rfl (by decide) rfl (fun ls hl => ?_)
            refine lv_goto (tgt := 5) hx hb d_T_sumOf_74 (by decide) ?_
            exact ih5 (j + 1) ((rs n d g S j) + ((((d (nI j).toNatClampNeg) - 128) * ((d ((nI j) + (nI S)).toNatClampNeg) - 128)).toInt64)) ((nI j) + 1) ls (⟨by have := rT_in (by omega) hS9 hj1 c_13; omega, by omega, (by first | exact rsT_t (by omega) (by omega) c_23 c_35 | exact rsT_f1 (by omega) c_23 | exact rsT_f2 (by omega) (by omega) c_35), nI_1 j⟩) (lv_sub hl [2, 3, 1, 0] rfl)
  exact loop_5 (n + 1) 0 0 0 ls (⟨by omega, by omega, rfl, rfl⟩) (lv_sub hl [2, 3, 1, 0] rfl)
