
/-- a number within bounds -/
def iw (x lo hi : Int32) : Bool := decide (lo.toInt ≤ x.toInt) && decide (x.toInt ≤ hi.toInt)
/-- the depth at x, -1 off the row -/
def dpt (n : Nat) (d : Nat → Int32) (x : Int) : Int32 := if hs n x then d x.toNat else -1
theorem hs_t {n : Nat} {k : Int32} (hn : n < 2 ^ 31) (h1 : ¬ k < 0) (h2 : ¬ nI n ≤ k) : (1 : Int32) = bI (hs n k.toInt) := by
  rw [ilt, i0] at h1; rw [ile, nI_toInt hn] at h2
  rw [hs_iff.mpr ⟨by omega, by omega⟩]; rfl
theorem hs_f1 {n : Nat} {k : Int32} (h1 : k < 0) : (0 : Int32) = bI (hs n k.toInt) := by
  rw [ilt, i0] at h1
  rw [show hs n k.toInt = false by simp [hs]; omega]; rfl
theorem hs_f2 {n : Nat} {k : Int32} (hn : n < 2 ^ 31) (h2 : nI n ≤ k) : (0 : Int32) = bI (hs n k.toInt) := by
  rw [ile, nI_toInt hn] at h2
  rw [show hs n k.toInt = false by simp [hs]; omega]; rfl
theorem iw_t {x lo hi : Int32} (h1 : ¬ x < lo) (h2 : ¬ hi < x) : (1 : Int32) = bI (iw x lo hi) := by
  rw [ilt] at h1 h2
  rw [show iw x lo hi = true by simp [iw]; omega]; rfl
theorem iw_f1 {x lo hi : Int32} (h1 : x < lo) : (0 : Int32) = bI (iw x lo hi) := by
  rw [ilt] at h1
  rw [show iw x lo hi = false by simp [iw]; omega]; rfl
theorem iw_f2 {x lo hi : Int32} (h2 : hi < x) : (0 : Int32) = bI (iw x lo hi) := by
  rw [ilt] at h2
  rw [show iw x lo hi = false by simp [iw]; omega]; rfl
theorem dpt_t {n : Nat} {d : Nat → Int32} {k : Int32} (h : ¬ bI (hs n k.toInt) = 0) : d k.toNatClampNeg = dpt n d k.toInt := by
  rw [dpt, if_pos (bI_ne0 h)]; rfl
theorem dpt_f {n : Nat} {d : Nat → Int32} {k : Int32} (h : bI (hs n k.toInt) = 0) : (-1) = dpt n d k.toInt := by
  rw [dpt, if_neg (by rw [bI_eq0 h]; decide)]
theorem kn_t {n : Nat} {d g : Nat → Int32} {k : Int32} (h : ¬ bI (hs n k.toInt) = 0) (h1 : ¬ d k.toNatClampNeg = -1) (h2 : g k.toNatClampNeg = 0) : (1 : Int32) = bI (kn n d g k.toInt) := by
  have a1 : ¬ d k.toInt.toNat = -1 := h1
  have a2 : g k.toInt.toNat = 0 := h2
  rw [show kn n d g k.toInt = true by simp [kn, bI_ne0 h, h1, h2]]; rfl
theorem kn_f1 {n : Nat} {d g : Nat → Int32} {k : Int32} (h : bI (hs n k.toInt) = 0) : (0 : Int32) = bI (kn n d g k.toInt) := by
  rw [show kn n d g k.toInt = false by simp [kn, bI_eq0 h]]; rfl
theorem kn_f2 {n : Nat} {d g : Nat → Int32} {k : Int32} (h1 : d k.toNatClampNeg = -1) : (0 : Int32) = bI (kn n d g k.toInt) := by
  have a1 : d k.toInt.toNat = -1 := h1
  rw [show kn n d g k.toInt = false by simp [kn, h1]]; rfl
theorem kn_f3 {n : Nat} {d g : Nat → Int32} {k : Int32} (h1 : ¬ g k.toNatClampNeg = 0) : (0 : Int32) = bI (kn n d g k.toInt) := by
  have a1 : ¬ g k.toInt.toNat = 0 := h1
  rw [show kn n d g k.toInt = false by simp [kn, h1]]; rfl
/-- x is a place whose guess mark is set -/
def gs1 (n : Nat) (g : Nat → Int32) (x : Int) : Bool := hs n x && decide (g x.toNat ≠ 0)
theorem gs_t {n : Nat} {g : Nat → Int32} {k : Int32} (h : ¬ bI (hs n k.toInt) = 0) (h1 : ¬ g k.toNatClampNeg = 0) : (1 : Int32) = bI (gs1 n g k.toInt) := by
  have a1 : ¬ g k.toInt.toNat = 0 := h1
  rw [show gs1 n g k.toInt = true by simp [gs1, bI_ne0 h, h1]]; rfl
theorem gs_f1 {n : Nat} {g : Nat → Int32} {k : Int32} (h : bI (hs n k.toInt) = 0) : (0 : Int32) = bI (gs1 n g k.toInt) := by
  rw [show gs1 n g k.toInt = false by simp [gs1, bI_eq0 h]]; rfl
theorem gs_f2 {n : Nat} {g : Nat → Int32} {k : Int32} (h1 : g k.toNatClampNeg = 0) : (0 : Int32) = bI (gs1 n g k.toInt) := by
  have a1 : g k.toInt.toNat = 0 := h1
  rw [show gs1 n g k.toInt = false by simp [gs1, h1]]; rfl
theorem kn_hs {n : Nat} {d g : Nat → Int32} {x : Int} (h : kn n d g x = true) : hs n x = true := by
  simp only [kn, Bool.and_eq_true] at h; exact h.1.1

set_option maxHeartbeats 4000000 in
set_option maxRecDepth 100000 in
/-- Row.has(k) -/
theorem c_R_has_ok (l : Launch) (D : va_G) (cI cZ cJ cO : ClassId) (h0 da ga : Nat) (n : Nat) (d g : Nat → Int32) (hn : n < 2 ^ 31) (k : Int32) : Met l y_R_has (wq y_R_has c_R_has 2 (some .boolean)) ({ frames := 0, cells := 0, slots := 0, locals := 0 }) (rP D (TY cI cZ cJ cO) [(h0, .inr (2, [.ref da, .ref ga])), (da, .inl (cI, n, .inl d)), (ga, .inl (cZ, n, .inl g))] [.ref h0, .int k]) (vp_Si (fun r => r = bI (hs n k.toInt))) 0 0 (fun _ => False) := by
  refine Met.ofW (cc := c_R_has) (maxL := 2) (ret := (some .boolean)) (by decide) rfl ?_
  intro p e s m args below meth c s₁ B hml hv
  obtain ⟨rfl, hP, hK, hN⟩ := hv
  have hx := B.exec
  have hb := B.bytes
  have hr := B.returns
  have hg := gt_h (atoms_spec (ws := (wq y_R_has c_R_has 2 (some .boolean))) B.pre)
  have hown : s.vm.findClass "RubbingMirrors$Row" = some m.cls := findClass_of_methodNamed B.named
  have hlocks := B.notSynchronized
  have hl := lv_entry ([.ref h0, .int k]) (n := 2) (Nat.le_of_ble_eq_true rfl)
  rw [lg_entry_eq]
  generalize (lg_sl ([.ref h0, .int k]) ++ List.replicate (2 - (lg_sl ([.ref h0, .int k])).length) Slot.unset).toArray = ls at hl ⊢
  have hl : lv_has ls 2 [(0, .ref h0), (1, .int k)] := hl
  refine lv_iload_n hx hb d_R_has_0 rfl (lv_at hl 1 rfl) ?_
  refine lv_if_lt (tgt := 17) hx hb d_R_has_1 (by decide) (fun c_1 => ?_) (fun c_1 => ?_)
  · refine lv_iconst (v := 0) hx hb d_R_has_17 (by decide) ?_
    exact W.zret hx hb hr (by decide) (fun t9 ht hW => ⟨_, rfl, (by first | exact hs_t hn c_1 c_10 | exact hs_f1 c_1 | exact hs_f2 hn c_10), ht⟩) t_nil2 d_R_has_18
  · refine lv_iload_n hx hb d_R_has_4 rfl (lv_at hl 1 rfl) ?_
    refine lv_aload_n hx hb d_R_has_5 rfl (lv_at hl 0 rfl) ?_
    refine va_get (D := D) (ci := 2) (v := .ref da) (C := Q_R) (T := F_R) (N := 2) hx hb hg in_R hown hK hP 0 rfl rfl 0 (by decide) (hg _ g_116) (fun _ h9 => h9) rfl d_R_has_6 ?_
    refine va_alen (v := nI n) hx hb hK hP 1 0 rfl rfl rfl d_R_has_9 ?_
    refine lv_icmp_ge (tgt := 17) hx hb d_R_has_10 (by decide) (fun c_10 => ?_) (fun c_10 => ?_)
    · refine lv_iconst (v := 0) hx hb d_R_has_17 (by decide) ?_
      exact W.zret hx hb hr (by decide) (fun t9 ht hW => ⟨_, rfl, (by first | exact hs_t hn c_1 c_10 | exact hs_f1 c_1 | exact hs_f2 hn c_10), ht⟩) t_nil2 d_R_has_18
    · refine lv_iconst (v := 1) hx hb d_R_has_13 (by decide) ?_
      refine lv_goto (tgt := 18) hx hb d_R_has_14 (by decide) ?_
      exact W.zret hx hb hr (by decide) (fun t9 ht hW => ⟨_, rfl, (by first | exact hs_t hn c_1 c_10 | exact hs_f1 c_1 | exact hs_f2 hn c_10), ht⟩) t_nil2 d_R_has_18

set_option maxHeartbeats 4000000 in
set_option maxRecDepth 100000 in
/-- Row.size() -/
theorem c_R_size_ok (l : Launch) (D : va_G) (cI cZ cJ cO : ClassId) (h0 da ga : Nat) (n : Nat) (d g : Nat → Int32) (hn : n < 2 ^ 31) : Met l y_R_size (wq y_R_size c_R_size 1 (some .int)) ({ frames := 0, cells := 0, slots := 0, locals := 0 }) (rP D (TY cI cZ cJ cO) [(h0, .inr (2, [.ref da, .ref ga])), (da, .inl (cI, n, .inl d)), (ga, .inl (cZ, n, .inl g))] [.ref h0]) (vp_Si (fun r => r = nI n)) 0 0 (fun _ => False) := by
  refine Met.ofW (cc := c_R_size) (maxL := 1) (ret := (some .int)) (by decide) rfl ?_
  intro p e s m args below meth c s₁ B hml hv
  obtain ⟨rfl, hP, hK, hN⟩ := hv
  have hx := B.exec
  have hb := B.bytes
  have hr := B.returns
  have hg := gt_h (atoms_spec (ws := (wq y_R_size c_R_size 1 (some .int))) B.pre)
  have hown : s.vm.findClass "RubbingMirrors$Row" = some m.cls := findClass_of_methodNamed B.named
  have hlocks := B.notSynchronized
  have hl := lv_entry ([.ref h0]) (n := 1) (Nat.le_of_ble_eq_true rfl)
  rw [lg_entry_eq]
  generalize (lg_sl ([.ref h0]) ++ List.replicate (1 - (lg_sl ([.ref h0])).length) Slot.unset).toArray = ls at hl ⊢
  have hl : lv_has ls 1 [(0, .ref h0)] := hl
  refine lv_aload_n hx hb d_R_size_0 rfl (lv_at hl 0 rfl) ?_
  refine va_get (D := D) (ci := 2) (v := .ref da) (C := Q_R) (T := F_R) (N := 2) hx hb hg in_R hown hK hP 0 rfl rfl 0 (by decide) (hg _ g_116) (fun _ h9 => h9) rfl d_R_size_1 ?_
  refine va_alen (v := nI n) hx hb hK hP 1 0 rfl rfl rfl d_R_size_4 ?_
  exact W.iret hx hb hr (fun t9 ht hW => ⟨_, rfl, rfl, ht⟩) t_nil2 d_R_size_5

set_option maxHeartbeats 4000000 in
set_option maxRecDepth 100000 in
/-- Row.lastMirror() -/
theorem c_R_lastMirror_ok (l : Launch) (D : va_G) (cI cZ cJ cO : ClassId) (h0 da ga : Nat) (n : Nat) (d g : Nat → Int32) (hn : n < 2 ^ 31) : Met l y_R_lastMirror (wq y_R_lastMirror c_R_lastMirror 1 (some .int)) ({ frames := 0, cells := 0, slots := 0, locals := 0 }) (rP D (TY cI cZ cJ cO) [(h0, .inr (2, [.ref da, .ref ga])), (da, .inl (cI, n, .inl d)), (ga, .inl (cZ, n, .inl g))] [.ref h0]) (vp_Si (fun r => r = 2 * nI n - 2)) 0 0 (fun _ => False) := by
  refine Met.ofW (cc := c_R_lastMirror) (maxL := 1) (ret := (some .int)) (by decide) rfl ?_
  intro p e s m args below meth c s₁ B hml hv
  obtain ⟨rfl, hP, hK, hN⟩ := hv
  have hx := B.exec
  have hb := B.bytes
  have hr := B.returns
  have hg := gt_h (atoms_spec (ws := (wq y_R_lastMirror c_R_lastMirror 1 (some .int))) B.pre)
  have hown : s.vm.findClass "RubbingMirrors$Row" = some m.cls := findClass_of_methodNamed B.named
  have hlocks := B.notSynchronized
  have hl := lv_entry ([.ref h0]) (n := 1) (Nat.le_of_ble_eq_true rfl)
  rw [lg_entry_eq]
  generalize (lg_sl ([.ref h0]) ++ List.replicate (1 - (lg_sl ([.ref h0])).length) Slot.unset).toArray = ls at hl ⊢
  have hl : lv_has ls 1 [(0, .ref h0)] := hl
  refine lv_iconst (v := 2) hx hb d_R_lastMirror_0 (by decide) ?_
  refine lv_aload_n hx hb d_R_lastMirror_1 rfl (lv_at hl 0 rfl) ?_
  refine va_get (D := D) (ci := 2) (v := .ref da) (C := Q_R) (T := F_R) (N := 2) hx hb hg in_R hown hK hP 0 rfl rfl 0 (by decide) (hg _ g_116) (fun _ h9 => h9) rfl d_R_lastMirror_2 ?_
  refine va_alen (v := nI n) hx hb hK hP 1 0 rfl rfl rfl d_R_lastMirror_5 ?_
  refine lv_imul hx hb d_R_lastMirror_6 ?_
  refine lv_iconst (v := 2) hx hb d_R_lastMirror_7 (by decide) ?_
  refine lv_isub hx hb d_R_lastMirror_8 ?_
  exact W.iret hx hb hr (fun t9 ht hW => ⟨_, rfl, rfl, ht⟩) t_nil2 d_R_lastMirror_9

set_option maxHeartbeats 4000000 in
set_option maxRecDepth 100000 in
/-- Row.depthAt(k) -/
theorem c_R_depthAt_ok (l : Launch) (D : va_G) (cI cZ cJ cO : ClassId) (h0 da ga : Nat) (n : Nat) (d g : Nat → Int32) (hn : n < 2 ^ 31) (k : Int32) : Met l y_R_depthAt (wq y_R_depthAt c_R_depthAt 2 (some .int)) ({ frames := 1, cells := 0, slots := 0, locals := 21 }) (rP D (TY cI cZ cJ cO) [(h0, .inr (2, [.ref da, .ref ga])), (da, .inl (cI, n, .inl d)), (ga, .inl (cZ, n, .inl g))] [.ref h0, .int k]) (vp_Si (fun r => r = dpt n d k.toInt)) 0 0 (fun _ => False) := by
  refine Met.ofW (cc := c_R_depthAt) (maxL := 2) (ret := (some .int)) (by decide) rfl ?_
  intro p e s m args below meth c s₁ B hml hv
  obtain ⟨rfl, hP, hK, hN⟩ := hv
  have hx := B.exec
  have hb := B.bytes
  have hr := B.returns
  have hg := gt_h (atoms_spec (ws := (wq y_R_depthAt c_R_depthAt 2 (some .int))) B.pre)
  have hown : s.vm.findClass "RubbingMirrors$Row" = some m.cls := findClass_of_methodNamed B.named
  have hlocks := B.notSynchronized
  have hl := lv_entry ([.ref h0, .int k]) (n := 2) (Nat.le_of_ble_eq_true rfl)
  rw [lg_entry_eq]
  generalize (lg_sl ([.ref h0, .int k]) ++ List.replicate (2 - (lg_sl ([.ref h0, .int k])).length) Slot.unset).toArray = ls at hl ⊢
  have hl : lv_has ls 2 [(0, .ref h0), (1, .int k)] := hl
  refine lv_aload_n hx hb d_R_depthAt_0 rfl (lv_at hl 0 rfl) ?_
  refine lv_iload_n hx hb d_R_depthAt_1 rfl (lv_at hl 1 rfl) ?_
  refine vp_callSi (va_Run.run (va_runV (As := [.int k]) (rest := []) ⟨hx, hb, hml, hown, hg⟩ (c_R_has_ok l D cI cZ cJ cO h0 da ga n d g hn k) (cwV 1 hg (gv g_256 g_162 g_163 g_23 g_164) rfl rfl rfl (by decide +kernel) ⟨Nat.le_of_ble_eq_true rfl, Nat.le_of_ble_eq_true rfl⟩) (pV hP hK hN (va_recv hK hP (ci := 2) (q0 := 0) rfl rfl)) rfl rfl hl.1 rfl (lv_room (Nat.le_of_ble_eq_true rfl)) d_R_depthAt_2 ⟨Nat.zero_le _, Nat.zero_le _⟩)) (fun r_1 hr_1 => ?_)
  subst hr_1
  refine lv_if_eq (tgt := 17) hx hb d_R_depthAt_5 (by decide) (fun c_5 => ?_) (fun c_5 => ?_)
  · refine lv_iconst (v := (-1)) hx hb d_R_depthAt_17 (by decide) ?_
    exact W.iret hx hb hr (fun t9 ht hW => ⟨_, rfl, (by first | exact dpt_t c_5 | exact dpt_f c_5), ht⟩) t_nil2 d_R_depthAt_18
  · refine lv_aload_n hx hb d_R_depthAt_8 rfl (lv_at hl 0 rfl) ?_
    refine va_get (D := D) (ci := 2) (v := .ref da) (C := Q_R) (T := F_R) (N := 2) hx hb hg in_R hown hK hP 0 rfl rfl 0 (by decide) (hg _ g_116) (fun _ h9 => h9) rfl d_R_depthAt_9 ?_
    refine lv_iload_n hx hb d_R_depthAt_12 rfl (lv_at hl 1 rfl) ?_
    refine va_iald hx hb hK hP 1 0 rfl rfl (hs_in (bI_ne0 c_5)) d_R_depthAt_13 ?_
    refine lv_goto (tgt := 18) hx hb d_R_depthAt_14 (by decide) ?_
    exact W.iret hx hb hr (fun t9 ht hW => ⟨_, rfl, (by first | exact dpt_t c_5 | exact dpt_f c_5), ht⟩) t_nil2 d_R_depthAt_18

set_option maxHeartbeats 4000000 in
set_option maxRecDepth 100000 in
/-- Row.isGuess(k) -/
theorem c_R_isGuess_ok (l : Launch) (D : va_G) (cI cZ cJ cO : ClassId) (h0 da ga : Nat) (n : Nat) (d g : Nat → Int32) (hn : n < 2 ^ 31) (k : Int32) : Met l y_R_isGuess (wq y_R_isGuess c_R_isGuess 2 (some .boolean)) ({ frames := 1, cells := 0, slots := 0, locals := 21 }) (rP D (TY cI cZ cJ cO) [(h0, .inr (2, [.ref da, .ref ga])), (da, .inl (cI, n, .inl d)), (ga, .inl (cZ, n, .inl g))] [.ref h0, .int k]) (vp_Si (fun r => r = bI (gs1 n g k.toInt))) 0 0 (fun _ => False) := by
  refine Met.ofW (cc := c_R_isGuess) (maxL := 2) (ret := (some .boolean)) (by decide) rfl ?_
  intro p e s m args below meth c s₁ B hml hv
  obtain ⟨rfl, hP, hK, hN⟩ := hv
  have hx := B.exec
  have hb := B.bytes
  have hr := B.returns
  have hg := gt_h (atoms_spec (ws := (wq y_R_isGuess c_R_isGuess 2 (some .boolean))) B.pre)
  have hown : s.vm.findClass "RubbingMirrors$Row" = some m.cls := findClass_of_methodNamed B.named
  have hlocks := B.notSynchronized
  have hl := lv_entry ([.ref h0, .int k]) (n := 2) (Nat.le_of_ble_eq_true rfl)
  rw [lg_entry_eq]
  generalize (lg_sl ([.ref h0, .int k]) ++ List.replicate (2 - (lg_sl ([.ref h0, .int k])).length) Slot.unset).toArray = ls at hl ⊢
  have hl : lv_has ls 2 [(0, .ref h0), (1, .int k)] := hl
  refine lv_aload_n hx hb d_R_isGuess_0 rfl (lv_at hl 0 rfl) ?_
  refine lv_iload_n hx hb d_R_isGuess_1 rfl (lv_at hl 1 rfl) ?_
  refine vp_callSi (va_Run.run (va_runV (As := [.int k]) (rest := []) ⟨hx, hb, hml, hown, hg⟩ (c_R_has_ok l D cI cZ cJ cO h0 da ga n d g hn k) (cwV 1 hg (gv g_256 g_162 g_163 g_23 g_164) rfl rfl rfl (by decide +kernel) ⟨Nat.le_of_ble_eq_true rfl, Nat.le_of_ble_eq_true rfl⟩) (pV hP hK hN (va_recv hK hP (ci := 2) (q0 := 0) rfl rfl)) rfl rfl hl.1 rfl (lv_room (Nat.le_of_ble_eq_true rfl)) d_R_isGuess_2 ⟨Nat.zero_le _, Nat.zero_le _⟩)) (fun r_1 hr_1 => ?_)
  subst hr_1
  refine lv_if_eq (tgt := 21) hx hb d_R_isGuess_5 (by decide) (fun c_5 => ?_) (fun c_5 => ?_)
  · refine lv_iconst (v := 0) hx hb d_R_isGuess_21 (by decide) ?_
    exact W.zret hx hb hr (by decide) (fun t9 ht hW => ⟨_, rfl, (by first | exact gs_t c_5 c_14 | exact gs_f1 c_5 | exact gs_f2 c_14), ht⟩) t_nil2 d_R_isGuess_22
  · refine lv_aload_n hx hb d_R_isGuess_8 rfl (lv_at hl 0 rfl) ?_
    refine va_get (D := D) (ci := 2) (v := .ref ga) (C := Q_R) (T := F_R) (N := 2) hx hb hg in_R hown hK hP 0 rfl rfl 1 (by decide) (hg _ g_117) (fun _ h9 => h9) rfl d_R_isGuess_9 ?_
    refine lv_iload_n hx hb d_R_isGuess_12 rfl (lv_at hl 1 rfl) ?_
    refine va_zald hx hb hK hP 2 1 rfl rfl (hs_in (bI_ne0 c_5)) d_R_isGuess_13 ?_
    refine lv_if_eq (tgt := 21) hx hb d_R_isGuess_14 (by decide) (fun c_14 => ?_) (fun c_14 => ?_)
    · refine lv_iconst (v := 0) hx hb d_R_isGuess_21 (by decide) ?_
      exact W.zret hx hb hr (by decide) (fun t9 ht hW => ⟨_, rfl, (by first | exact gs_t c_5 c_14 | exact gs_f1 c_5 | exact gs_f2 c_14), ht⟩) t_nil2 d_R_isGuess_22
    · refine lv_iconst (v := 1) hx hb d_R_isGuess_17 (by decide) ?_
      refine lv_goto (tgt := 22) hx hb d_R_isGuess_18 (by decide) ?_
      exact W.zret hx hb hr (by decide) (fun t9 ht hW => ⟨_, rfl, (by first | exact gs_t c_5 c_14 | exact gs_f1 c_5 | exact gs_f2 c_14), ht⟩) t_nil2 d_R_isGuess_22

set_option maxHeartbeats 4000000 in
set_option maxRecDepth 100000 in
/-- Row.isKnown(k) -/
theorem c_R_isKnown_ok (l : Launch) (D : va_G) (cI cZ cJ cO : ClassId) (h0 da ga : Nat) (n : Nat) (d g : Nat → Int32) (hn : n < 2 ^ 31) (k : Int32) : Met l y_R_isKnown (wq y_R_isKnown c_R_isKnown 2 (some .boolean)) ({ frames := 1, cells := 0, slots := 0, locals := 21 }) (rP D (TY cI cZ cJ cO) [(h0, .inr (2, [.ref da, .ref ga])), (da, .inl (cI, n, .inl d)), (ga, .inl (cZ, n, .inl g))] [.ref h0, .int k]) (vp_Si (fun r => r = bI (kn n d g k.toInt))) 0 0 (fun _ => False) := by
  refine Met.ofW (cc := c_R_isKnown) (maxL := 2) (ret := (some .boolean)) (by decide) rfl ?_
  intro p e s m args below meth c s₁ B hml hv
  obtain ⟨rfl, hP, hK, hN⟩ := hv
  have hx := B.exec
  have hb := B.bytes
  have hr := B.returns
  have hg := gt_h (atoms_spec (ws := (wq y_R_isKnown c_R_isKnown 2 (some .boolean))) B.pre)
  have hown : s.vm.findClass "RubbingMirrors$Row" = some m.cls := findClass_of_methodNamed B.named
  have hlocks := B.notSynchronized
  have hl := lv_entry ([.ref h0, .int k]) (n := 2) (Nat.le_of_ble_eq_true rfl)
  rw [lg_entry_eq]
  generalize (lg_sl ([.ref h0, .int k]) ++ List.replicate (2 - (lg_sl ([.ref h0, .int k])).length) Slot.unset).toArray = ls at hl ⊢
  have hl : lv_has ls 2 [(0, .ref h0), (1, .int k)] := hl
  refine lv_aload_n hx hb d_R_isKnown_0 rfl (lv_at hl 0 rfl) ?_
  refine lv_iload_n hx hb d_R_isKnown_1 rfl (lv_at hl 1 rfl) ?_
  refine vp_callSi (va_Run.run (va_runV (As := [.int k]) (rest := []) ⟨hx, hb, hml, hown, hg⟩ (c_R_has_ok l D cI cZ cJ cO h0 da ga n d g hn k) (cwV 1 hg (gv g_256 g_162 g_163 g_23 g_164) rfl rfl rfl (by decide +kernel) ⟨Nat.le_of_ble_eq_true rfl, Nat.le_of_ble_eq_true rfl⟩) (pV hP hK hN (va_recv hK hP (ci := 2) (q0 := 0) rfl rfl)) rfl rfl hl.1 rfl (lv_room (Nat.le_of_ble_eq_true rfl)) d_R_isKnown_2 ⟨Nat.zero_le _, Nat.zero_le _⟩)) (fun r_1 hr_1 => ?_)
  subst hr_1
  refine lv_if_eq (tgt := 31) hx hb d_R_isKnown_5 (by decide) (fun c_5 => ?_) (fun c_5 => ?_)
  · refine lv_iconst (v := 0) hx hb d_R_isKnown_31 (by decide) ?_
    exact W.zret hx hb hr (by decide) (fun t9 ht hW => ⟨_, rfl, (by first | exact kn_t c_5 c_15 c_24 | exact kn_f1 c_5 | exact kn_f2 c_15 | exact kn_f3 c_24), ht⟩) t_nil2 d_R_isKnown_32
  · refine lv_aload_n hx hb d_R_isKnown_8 rfl (lv_at hl 0 rfl) ?_
    refine va_get (D := D) (ci := 2) (v := .ref da) (C := Q_R) (T := F_R) (N := 2) hx hb hg in_R hown hK hP 0 rfl rfl 0 (by decide) (hg _ g_116) (fun _ h9 => h9) rfl d_R_isKnown_9 ?_
    refine lv_iload_n hx hb d_R_isKnown_12 rfl (lv_at hl 1 rfl) ?_
    refine va_iald hx hb hK hP 1 0 rfl rfl (hs_in (bI_ne0 c_5)) d_R_isKnown_13 ?_
    refine lv_iconst (v := (-1)) hx hb d_R_isKnown_14 (by decide) ?_
    refine lv_icmp_eq (tgt := 31) hx hb d_R_isKnown_15 (by decide) (fun c_15 => ?_) (fun c_15 => ?_)
    · refine lv_iconst (v := 0) hx hb d_R_isKnown_31 (by decide) ?_
      exact W.zret hx hb hr (by decide) (fun t9 ht hW => ⟨_, rfl, (by first | exact kn_t c_5 c_15 c_24 | exact kn_f1 c_5 | exact kn_f2 c_15 | exact kn_f3 c_24), ht⟩) t_nil2 d_R_isKnown_32
    · refine lv_aload_n hx hb d_R_isKnown_18 rfl (lv_at hl 0 rfl) ?_
      refine va_get (D := D) (ci := 2) (v := .ref ga) (C := Q_R) (T := F_R) (N := 2) hx hb hg in_R hown hK hP 0 rfl rfl 1 (by decide) (hg _ g_117) (fun _ h9 => h9) rfl d_R_isKnown_19 ?_
      refine lv_iload_n hx hb d_R_isKnown_22 rfl (lv_at hl 1 rfl) ?_
      refine va_zald hx hb hK hP 2 1 rfl rfl (hs_in (bI_ne0 c_5)) d_R_isKnown_23 ?_
      refine lv_if_ne (tgt := 31) hx hb d_R_isKnown_24 (by decide) (fun c_24 => ?_) (fun c_24 => ?_)
      · refine lv_iconst (v := 0) hx hb d_R_isKnown_31 (by decide) ?_
        exact W.zret hx hb hr (by decide) (fun t9 ht hW => ⟨_, rfl, (by first | exact kn_t c_5 c_15 c_24 | exact kn_f1 c_5 | exact kn_f2 c_15 | exact kn_f3 c_24), ht⟩) t_nil2 d_R_isKnown_32
      · refine lv_iconst (v := 1) hx hb d_R_isKnown_27 (by decide) ?_
        refine lv_goto (tgt := 32) hx hb d_R_isKnown_28 (by decide) ?_
        exact W.zret hx hb hr (by decide) (fun t9 ht hW => ⟨_, rfl, (by first | exact kn_t c_5 c_15 c_24 | exact kn_f1 c_5 | exact kn_f2 c_15 | exact kn_f3 c_24), ht⟩) t_nil2 d_R_isKnown_32

set_option maxHeartbeats 4000000 in
set_option maxRecDepth 100000 in
/-- isWithin(x, lo, hi) -/
theorem c_M_isWithin_ok (l : Launch) (D : va_G) (cI cZ cJ cO : ClassId) (x lo hi : Int32) : Met l y_M_isWithin (wq y_M_isWithin c_M_isWithin 3 (some .boolean)) ({ frames := 0, cells := 0, slots := 0, locals := 0 }) (rP D (TY cI cZ cJ cO) [] [.int x, .int lo, .int hi]) (vp_Si (fun r => r = bI (iw x lo hi))) 0 0 (fun _ => False) := by
  refine Met.ofW (cc := c_M_isWithin) (maxL := 3) (ret := (some .boolean)) (by decide) rfl ?_
  intro p e s m args below meth c s₁ B hml hv
  obtain ⟨rfl, hP, hK, hN⟩ := hv
  have hx := B.exec
  have hb := B.bytes
  have hr := B.returns
  have hg := gt_h (atoms_spec (ws := (wq y_M_isWithin c_M_isWithin 3 (some .boolean))) B.pre)
  have hown : s.vm.findClass "RubbingMirrors" = some m.cls := findClass_of_methodNamed B.named
  have hlocks := B.notSynchronized
  have hl := lv_entry ([.int x, .int lo, .int hi]) (n := 3) (Nat.le_of_ble_eq_true rfl)
  rw [lg_entry_eq]
  generalize (lg_sl ([.int x, .int lo, .int hi]) ++ List.replicate (3 - (lg_sl ([.int x, .int lo, .int hi])).length) Slot.unset).toArray = ls at hl ⊢
  have hl : lv_has ls 3 [(0, .int x), (1, .int lo), (2, .int hi)] := hl
  refine lv_iload_n hx hb d_M_isWithin_0 rfl (lv_at hl 0 rfl) ?_
  refine lv_iload_n hx hb d_M_isWithin_1 rfl (lv_at hl 1 rfl) ?_
  refine lv_icmp_lt (tgt := 14) hx hb d_M_isWithin_2 (by decide) (fun c_2 => ?_) (fun c_2 => ?_)
  · refine lv_iconst (v := 0) hx hb d_M_isWithin_14 (by decide) ?_
    exact W.zret hx hb hr (by decide) (fun t9 ht hW => ⟨_, rfl, (by first | exact iw_t c_2 c_7 | exact iw_f1 c_2 | exact iw_f2 c_7), ht⟩) t_nil2 d_M_isWithin_15
  · refine lv_iload_n hx hb d_M_isWithin_5 rfl (lv_at hl 0 rfl) ?_
    refine lv_iload_n hx hb d_M_isWithin_6 rfl (lv_at hl 2 rfl) ?_
    refine lv_icmp_gt (tgt := 14) hx hb d_M_isWithin_7 (by decide) (fun c_7 => ?_) (fun c_7 => ?_)
    · refine lv_iconst (v := 0) hx hb d_M_isWithin_14 (by decide) ?_
      exact W.zret hx hb hr (by decide) (fun t9 ht hW => ⟨_, rfl, (by first | exact iw_t c_2 c_7 | exact iw_f1 c_2 | exact iw_f2 c_7), ht⟩) t_nil2 d_M_isWithin_15
    · refine lv_iconst (v := 1) hx hb d_M_isWithin_10 (by decide) ?_
      refine lv_goto (tgt := 15) hx hb d_M_isWithin_11 (by decide) ?_
      exact W.zret hx hb hr (by decide) (fun t9 ht hW => ⟨_, rfl, (by first | exact iw_t c_2 c_7 | exact iw_f1 c_2 | exact iw_f2 c_7), ht⟩) t_nil2 d_M_isWithin_15
