
theorem cmp_lt {x y : Int64} : lg_cmp x y < 0 ↔ x < y := by
  unfold lg_cmp
  rcases Int.lt_trichotomy x.toInt y.toInt with h | h | h
  · rw [if_neg (by rw [gt_iff_lt, llt]; omega), if_neg (by intro e; rw [e] at h; omega)]; exact ⟨fun _ => llt.mpr h, fun _ => by decide⟩
  · rw [if_neg (by rw [gt_iff_lt, llt]; omega), if_pos (Int64.toInt_inj.mp h)]; exact ⟨fun q => absurd q (by decide), fun q => absurd (llt.mp q) (by omega)⟩
  · rw [if_pos (llt.mpr h)]; exact ⟨fun q => absurd q (by decide), fun q => absurd (llt.mp q) (by omega)⟩
theorem cmp_gt {x y : Int64} : 0 < lg_cmp x y ↔ y < x := by
  unfold lg_cmp
  rcases Int.lt_trichotomy x.toInt y.toInt with h | h | h
  · rw [if_neg (by rw [gt_iff_lt, llt]; omega), if_neg (by intro e; rw [e] at h; omega)]; exact ⟨fun q => absurd q (by decide), fun q => absurd (llt.mp q) (by omega)⟩
  · rw [if_neg (by rw [gt_iff_lt, llt]; omega), if_pos (Int64.toInt_inj.mp h)]; exact ⟨fun q => absurd q (by decide), fun q => absurd (llt.mp q) (by omega)⟩
  · rw [if_pos (llt.mpr h)]; exact ⟨fun _ => llt.mpr h, fun _ => by decide⟩
theorem cmp_eq {x y : Int64} : lg_cmp x y = 0 ↔ x = y := by
  unfold lg_cmp
  rcases Int.lt_trichotomy x.toInt y.toInt with h | h | h
  · rw [if_neg (by rw [gt_iff_lt, llt]; omega), if_neg (by intro e; rw [e] at h; omega)]; exact ⟨fun q => absurd q (by decide), fun q => absurd h (by rw [q]; omega)⟩
  · rw [if_neg (by rw [gt_iff_lt, llt]; omega), if_pos (Int64.toInt_inj.mp h)]; exact ⟨fun _ => Int64.toInt_inj.mp h, fun _ => rfl⟩
  · rw [if_pos (llt.mpr h)]; exact ⟨fun q => absurd q (by decide), fun q => absurd h (by rw [q]; omega)⟩
/-- t by c is better than to by co -/
def btr (to co t c : Int32) : Bool := decide (t.toInt64 * co.toInt64 < to.toInt64 * c.toInt64) || (decide (t.toInt64 * co.toInt64 = to.toInt64 * c.toInt64) && decide (co < c))
theorem bt_1 {to co t c : Int32} (h : lg_cmp (t.toInt64 * co.toInt64) (to.toInt64 * c.toInt64) < 0) : (1 : Int32) = bI (btr to co t c) := by
  rw [show btr to co t c = true by simp [btr, cmp_lt.mp h]]; rfl
theorem bt_2 {to co t c : Int32} (h : ¬ lg_cmp (t.toInt64 * co.toInt64) (to.toInt64 * c.toInt64) < 0) (h1 : ¬ lg_cmp (t.toInt64 * co.toInt64) (to.toInt64 * c.toInt64) = 0) : (0 : Int32) = bI (btr to co t c) := by
  rw [cmp_lt] at h; rw [cmp_eq] at h1
  rw [show btr to co t c = false by simp [btr, h, h1]]; rfl
theorem bt_3 {to co t c : Int32} (h : ¬ lg_cmp (t.toInt64 * co.toInt64) (to.toInt64 * c.toInt64) < 0) (h2 : c ≤ co) : (0 : Int32) = bI (btr to co t c) := by
  rw [cmp_lt] at h; rw [ile] at h2
  rw [show btr to co t c = false by
    simp only [btr, h, decide_false, Bool.false_or, Bool.and_eq_false_iff, decide_eq_false_iff_not]
    right; rw [ilt]; omega]; rfl
theorem bt_4 {to co t c : Int32} (h1 : lg_cmp (t.toInt64 * co.toInt64) (to.toInt64 * c.toInt64) = 0) (h2 : ¬ c ≤ co) : (1 : Int32) = bI (btr to co t c) := by
  rw [cmp_eq] at h1; rw [ile] at h2
  rw [show btr to co t c = true by
    simp only [btr, h1, Bool.or_eq_true, Bool.and_eq_true, decide_eq_true_eq, true_and]
    right; rw [ilt]; omega]; rfl
/-- Best: found, which, at, total, count -/
abbrev B5 : Type := Int32 × Int32 × Int32 × Int32 × Int32
abbrev b5 (t : B5) : List Value := [.int t.1, .int t.2.1, .int t.2.2.1, .int t.2.2.2.1, .int t.2.2.2.2]
def offer (t : B5) (w a to c : Int32) : B5 := if t.1 = 0 ∨ btr t.2.2.2.1 t.2.2.2.2 to c = true then (1, w, a, to, c) else t
theorem of_1 {fo wh t2 to co w a t c : Int32} (h : fo = 0) : offer (fo, wh, t2, to, co) w a t c = (1, w, a, t, c) := if_pos (Or.inl h)
theorem of_2 {fo wh t2 to co w a t c : Int32} (h : ¬ bI (btr to co t c) = 0) : offer (fo, wh, t2, to, co) w a t c = (1, w, a, t, c) := if_pos (Or.inr (bI_ne0 h))
theorem of_3 {fo wh t2 to co w a t c : Int32} (h0 : ¬ fo = 0) (h : bI (btr to co t c) = 0) : offer (fo, wh, t2, to, co) w a t c = (fo, wh, t2, to, co) := if_neg (by rw [bI_eq0 h]; exact fun q => q.elim h0 (fun z => nomatch z))

set_option maxHeartbeats 4000000 in
set_option maxRecDepth 100000 in
/-- Best() -/
theorem c_B_init_ok (l : Launch) (D : va_G) (cI cZ cJ cO : ClassId) (sz : Nat) (h0 : Nat) (fo wh t2 to co : Int32) : Met l y_B_init (wq y_B_init c_B_init 1 none) ({ frames := 1, cells := 0, slots := 0, locals := 24 }) (mP D (TY cI cZ cJ cO) [(h0, .inr (1, [.int fo, .int wh, .int t2, .int to, .int co]))] [.ref h0] sz) (va_Qv (fun (u : va_W) => u = [(h0, .inr (1, [.int fo, .int wh, .int t2, .int to, .int co]))]) (mB D (TY cI cZ cJ cO) (va_A [(h0, .inr (1, [.int fo, .int wh, .int t2, .int to, .int co]))] sz)) (va_A [(h0, .inr (1, [.int fo, .int wh, .int t2, .int to, .int co]))] sz)) 0 0 (va_A [(h0, .inr (1, [.int fo, .int wh, .int t2, .int to, .int co]))] sz) := by
  refine Met.ofW (cc := c_B_init) (maxL := 1) (ret := none) (by decide) rfl ?_
  intro p e s m args below meth c s₁ B hml hv
  obtain ⟨rfl, hsz, hP, hK, hD0, hN⟩ := hv
  have hx := B.exec
  have hb := B.bytes
  have hr := B.returns
  have hg := gt_h (atoms_spec (ws := (wq y_B_init c_B_init 1 none)) B.pre)
  have hown : s.vm.findClass "RubbingMirrors$Best" = some m.cls := findClass_of_methodNamed B.named
  have hlocks := B.notSynchronized
  have hin : meth.name = "<init>" := (name_of_methodNamed B.named B.method).1
  subst hsz
  have hD := hD0.self (sz := s.heap.size)
  generalize hAe : va_A [(h0, .inr (1, [.int fo, .int wh, .int t2, .int to, .int co]))] s.heap.size = A at hD ⊢
  have hA : ∀ q : Nat, s.heap.size ≤ q → A q := fun q h => by rw [← hAe]; exact Or.inr h
  have hS : va_S A s.heap s.heap [] := va_S.rf
  have hl := lv_entry ([.ref h0]) (n := 1) (Nat.le_of_ble_eq_true rfl)
  rw [lg_entry_eq]
  generalize (lg_sl ([.ref h0]) ++ List.replicate (1 - (lg_sl ([.ref h0])).length) Slot.unset).toArray = ls at hl ⊢
  have hl : lv_has ls 1 [(0, .ref h0)] := hl
  refine lv_aload_n hx hb d_B_init_0 rfl (lv_at hl 0 rfl) ?_
  refine W.objInit hx hb hown (hg _ g_79) (hg _ g_46) (hg _ g_47) rfl (by rw [hml]; exact hl.1) rfl d_B_init_1 (Nat.le_of_ble_eq_true rfl) (Nat.le_of_ble_eq_true rfl) ?_
  refine W.eq (g2 := F0 m 4 ls []) rfl ?_
  exact W.vret hx hb hr (fun t9 ht hW => ⟨⟨[(h0, .inr (1, [.int fo, .int wh, .int t2, .int to, .int co]))], rfl, rfl, by rw [ht]; exact hP, va_K.moved hW.alike hK, hD⟩, hS.F ht⟩) hS.2.2 d_B_init_4

set_option maxHeartbeats 4000000 in
set_option maxRecDepth 100000 in
/-- Best.clear() -/
theorem c_B_clear_ok (l : Launch) (D : va_G) (cI cZ cJ cO : ClassId) (sz : Nat) (h0 : Nat) (fo wh t2 to co : Int32) : Met l y_B_clear (wq y_B_clear c_B_clear 1 none) ({ frames := 0, cells := 0, slots := 0, locals := 0 }) (mP D (TY cI cZ cJ cO) [(h0, .inr (1, [.int fo, .int wh, .int t2, .int to, .int co]))] [.ref h0] sz) (va_Qv (fun (u : va_W) => u = [(h0, .inr (1, [.int 0, .int wh, .int t2, .int to, .int co]))]) (mB D (TY cI cZ cJ cO) (va_A [(h0, .inr (1, [.int fo, .int wh, .int t2, .int to, .int co]))] sz)) (va_A [(h0, .inr (1, [.int fo, .int wh, .int t2, .int to, .int co]))] sz)) 0 0 (va_A [(h0, .inr (1, [.int fo, .int wh, .int t2, .int to, .int co]))] sz) := by
  refine Met.ofW (cc := c_B_clear) (maxL := 1) (ret := none) (by decide) rfl ?_
  intro p e s m args below meth c s₁ B hml hv
  obtain ⟨rfl, hsz, hP, hK, hD0, hN⟩ := hv
  have hx := B.exec
  have hb := B.bytes
  have hr := B.returns
  have hg := gt_h (atoms_spec (ws := (wq y_B_clear c_B_clear 1 none)) B.pre)
  have hown : s.vm.findClass "RubbingMirrors$Best" = some m.cls := findClass_of_methodNamed B.named
  have hlocks := B.notSynchronized
  subst hsz
  have hD := hD0.self (sz := s.heap.size)
  generalize hAe : va_A [(h0, .inr (1, [.int fo, .int wh, .int t2, .int to, .int co]))] s.heap.size = A at hD ⊢
  have hA : ∀ q : Nat, s.heap.size ≤ q → A q := fun q h => by rw [← hAe]; exact Or.inr h
  have hS : va_S A s.heap s.heap [] := va_S.rf
  have hl := lv_entry ([.ref h0]) (n := 1) (Nat.le_of_ble_eq_true rfl)
  rw [lg_entry_eq]
  generalize (lg_sl ([.ref h0]) ++ List.replicate (1 - (lg_sl ([.ref h0])).length) Slot.unset).toArray = ls at hl ⊢
  have hl : lv_has ls 1 [(0, .ref h0)] := hl
  refine lv_aload_n hx hb d_B_clear_0 rfl (lv_at hl 0 rfl) ?_
  refine lv_iconst (v := 0) hx hb d_B_clear_1 (by decide) ?_
  refine va_put (D := D) (ci := 1) (v := .int 0) (ty := .boolean) (C := Q_B) (T := F_B) (N := 5) hx hb hg in_B tq_B tq_B_ok n_B hown hK hP hD hS 0 rfl rfl 0 (by decide) (hg _ g_80) (fun _ h9 => h9) rfl (by decide +kernel) rfl rfl (Nat.le_of_ble_eq_true rfl) d_B_clear_2 (fun H locs hP hD hS => ?_)
  have hP : va_P D cls [(h0, .inr (1, [.int 0, .int wh, .int t2, .int to, .int co]))] H := hP
  have hD : va_D A [(h0, .inr (1, [.int 0, .int wh, .int t2, .int to, .int co]))] := hD
  exact W.vret hx hb hr (fun t9 ht hW => ⟨⟨[(h0, .inr (1, [.int 0, .int wh, .int t2, .int to, .int co]))], rfl, rfl, by rw [ht]; exact hP, va_K.moved hW.alike hK, hD⟩, hS.F ht⟩) hS.2.2 d_B_clear_5

set_option maxHeartbeats 4000000 in
set_option maxRecDepth 100000 in
/-- Best.isBetter(t, c) -/
theorem c_B_isBetter_ok (l : Launch) (D : va_G) (cI cZ cJ cO : ClassId) (h0 : Nat) (fo wh t2 to co : Int32) (t c9 : Int32) : Met l y_B_isBetter (wq y_B_isBetter c_B_isBetter 7 (some .boolean)) ({ frames := 0, cells := 0, slots := 0, locals := 0 }) (rP D (TY cI cZ cJ cO) [(h0, .inr (1, [.int fo, .int wh, .int t2, .int to, .int co]))] [.ref h0, .int t, .int c9]) (vp_Si (fun r => r = bI (btr to co t c9))) 0 0 (fun _ => False) := by
  refine Met.ofW (cc := c_B_isBetter) (maxL := 7) (ret := (some .boolean)) (by decide) rfl ?_
  intro p e s m args below meth c s₁ B hml hv
  obtain ⟨rfl, hP, hK, hN⟩ := hv
  have hx := B.exec
  have hb := B.bytes
  have hr := B.returns
  have hg := gt_h (atoms_spec (ws := (wq y_B_isBetter c_B_isBetter 7 (some .boolean))) B.pre)
  have hown : s.vm.findClass "RubbingMirrors$Best" = some m.cls := findClass_of_methodNamed B.named
  have hlocks := B.notSynchronized
  have hl := lv_entry ([.ref h0, .int t, .int c9]) (n := 7) (Nat.le_of_ble_eq_true rfl)
  rw [lg_entry_eq]
  generalize (lg_sl ([.ref h0, .int t, .int c9]) ++ List.replicate (7 - (lg_sl ([.ref h0, .int t, .int c9])).length) Slot.unset).toArray = ls at hl ⊢
  have hl : lv_has ls 7 [(0, .ref h0), (1, .int t), (2, .int c9)] := hl
  refine lv_iload_n hx hb d_B_isBetter_0 rfl (lv_at hl 1 rfl) ?_
  refine lv_i2l (v := t.toInt64) hx hb d_B_isBetter_1 rfl ?_
  refine lv_aload_n hx hb d_B_isBetter_2 rfl (lv_at hl 0 rfl) ?_
  refine va_get (D := D) (ci := 1) (v := .int co) (C := Q_B) (T := F_B) (N := 5) hx hb hg in_B hown hK hP 0 rfl rfl 4 (by decide) (hg _ g_88) (fun _ h9 => h9) rfl d_B_isBetter_3 ?_
  refine lv_i2l (v := co.toInt64) hx hb d_B_isBetter_6 rfl ?_
  refine lv_lmul hx hb d_B_isBetter_7 ?_
  refine lv_lstore_n (lv' := [(3, .long (t.toInt64 * co.toInt64)), (0, .ref h0), (1, .int t), (2, .int c9)]) hx hb d_B_isBetter_8 rfl hl (by decide) rfl (fun ls hl => ?_)
  refine lv_aload_n hx hb d_B_isBetter_9 rfl (lv_at hl 1 rfl) ?_
  refine va_get (D := D) (ci := 1) (v := .int to) (C := Q_B) (T := F_B) (N := 5) hx hb hg in_B hown hK hP 0 rfl rfl 3 (by decide) (hg _ g_86) (fun _ h9 => h9) rfl d_B_isBetter_10 ?_
  refine lv_i2l (v := to.toInt64) hx hb d_B_isBetter_13 rfl ?_
  refine lv_iload_n hx hb d_B_isBetter_14 rfl (lv_at hl 3 rfl) ?_
  refine lv_i2l (v := c9.toInt64) hx hb d_B_isBetter_15 rfl ?_
  refine lv_lmul hx hb d_B_isBetter_16 ?_
  refine lv_lstore (lv' := [(5, .long (to.toInt64 * c9.toInt64)), (3, .long (t.toInt64 * co.toInt64)), (0, .ref h0), (1, .int t), (2, .int c9)]) hx hb d_B_isBetter_17 hl (by decide) rfl (fun ls hl => ?_)
  refine lv_lload_n hx hb d_B_isBetter_19 rfl (lv_at hl 1 rfl) ?_
  refine lv_lload hx hb d_B_isBetter_20 (lv_at hl 0 rfl) ?_
  refine W.lcmp hx hb d_B_isBetter_22 ?_
  refine lv_if_lt (tgt := 41) hx hb d_B_isBetter_23 (by decide) (fun c_23 => ?_) (fun c_23 => ?_)
  · refine lv_iconst (v := 1) hx hb d_B_isBetter_41 (by decide) ?_
    refine lv_goto (tgt := 46) hx hb d_B_isBetter_42 (by decide) ?_
    exact W.zret hx hb hr (by decide) (fun t9 ht hW => ⟨_, rfl, (by first | exact bt_1 c_23 | exact bt_2 c_23 c_30 | exact bt_3 c_23 c_38 | exact bt_4 c_30 c_38), ht⟩) t_nil2 d_B_isBetter_46
  · refine lv_lload_n hx hb d_B_isBetter_26 rfl (lv_at hl 1 rfl) ?_
    refine lv_lload hx hb d_B_isBetter_27 (lv_at hl 0 rfl) ?_
    refine W.lcmp hx hb d_B_isBetter_29 ?_
    refine lv_if_ne (tgt := 45) hx hb d_B_isBetter_30 (by decide) (fun c_30 => ?_) (fun c_30 => ?_)
    · refine lv_iconst (v := 0) hx hb d_B_isBetter_45 (by decide) ?_
      exact W.zret hx hb hr (by decide) (fun t9 ht hW => ⟨_, rfl, (by first | exact bt_1 c_23 | exact bt_2 c_23 c_30 | exact bt_3 c_23 c_38 | exact bt_4 c_30 c_38), ht⟩) t_nil2 d_B_isBetter_46
    · refine lv_iload_n hx hb d_B_isBetter_33 rfl (lv_at hl 4 rfl) ?_
      refine lv_aload_n hx hb d_B_isBetter_34 rfl (lv_at hl 2 rfl) ?_
      refine va_get (D := D) (ci := 1) (v := .int co) (C := Q_B) (T := F_B) (N := 5) hx hb hg in_B hown hK hP 0 rfl rfl 4 (by decide) (hg _ g_88) (fun _ h9 => h9) rfl d_B_isBetter_35 ?_
      refine lv_icmp_le (tgt := 45) hx hb d_B_isBetter_38 (by decide) (fun c_38 => ?_) (fun c_38 => ?_)
      · refine lv_iconst (v := 0) hx hb d_B_isBetter_45 (by decide) ?_
        exact W.zret hx hb hr (by decide) (fun t9 ht hW => ⟨_, rfl, (by first | exact bt_1 c_23 | exact bt_2 c_23 c_30 | exact bt_3 c_23 c_38 | exact bt_4 c_30 c_38), ht⟩) t_nil2 d_B_isBetter_46
      · refine lv_iconst (v := 1) hx hb d_B_isBetter_41 (by decide) ?_
        refine lv_goto (tgt := 46) hx hb d_B_isBetter_42 (by decide) ?_
        exact W.zret hx hb hr (by decide) (fun t9 ht hW => ⟨_, rfl, (by first | exact bt_1 c_23 | exact bt_2 c_23 c_30 | exact bt_3 c_23 c_38 | exact bt_4 c_30 c_38), ht⟩) t_nil2 d_B_isBetter_46

set_option maxHeartbeats 4000000 in
set_option maxRecDepth 100000 in
/-- Best.offer(w, a, t, c) -/
theorem c_B_offer_ok (l : Launch) (D : va_G) (cI cZ cJ cO : ClassId) (sz : Nat) (h0 : Nat) (fo wh t2 to co : Int32) (w a t c9 : Int32) : Met l y_B_offer (wq y_B_offer c_B_offer 5 none) ({ frames := 1, cells := 0, slots := 0, locals := 26 }) (mP D (TY cI cZ cJ cO) [(h0, .inr (1, [.int fo, .int wh, .int t2, .int to, .int co]))] [.ref h0, .int w, .int a, .int t, .int c9] sz) (va_Qv (fun (u : va_W) => u = [(h0, .inr (1, b5 (offer (fo, wh, t2, to, co) w a t c9)))]) (mB D (TY cI cZ cJ cO) (va_A [(h0, .inr (1, [.int fo, .int wh, .int t2, .int to, .int co]))] sz)) (va_A [(h0, .inr (1, [.int fo, .int wh, .int t2, .int to, .int co]))] sz)) 0 0 (va_A [(h0, .inr (1, [.int fo, .int wh, .int t2, .int to, .int co]))] sz) := by
  refine Met.ofW (cc := c_B_offer) (maxL := 5) (ret := none) (by decide) rfl ?_
  intro p e s m args below meth c s₁ B hml hv
  obtain ⟨rfl, hsz, hP, hK, hD0, hN⟩ := hv
  have hx := B.exec
  have hb := B.bytes
  have hr := B.returns
  have hg := gt_h (atoms_spec (ws := (wq y_B_offer c_B_offer 5 none)) B.pre)
  have hown : s.vm.findClass "RubbingMirrors$Best" = some m.cls := findClass_of_methodNamed B.named
  have hlocks := B.notSynchronized
  subst hsz
  have hD := hD0.self (sz := s.heap.size)
  generalize hAe : va_A [(h0, .inr (1, [.int fo, .int wh, .int t2, .int to, .int co]))] s.heap.size = A at hD ⊢
  have hA : ∀ q : Nat, s.heap.size ≤ q → A q := fun q h => by rw [← hAe]; exact Or.inr h
  have hS : va_S A s.heap s.heap [] := va_S.rf
  have hl := lv_entry ([.ref h0, .int w, .int a, .int t, .int c9]) (n := 5) (Nat.le_of_ble_eq_true rfl)
  rw [lg_entry_eq]
  generalize (lg_sl ([.ref h0, .int w, .int a, .int t, .int c9]) ++ List.replicate (5 - (lg_sl ([.ref h0, .int w, .int a, .int t, .int c9])).length) Slot.unset).toArray = ls at hl ⊢
  have hl : lv_has ls 5 [(0, .ref h0), (1, .int w), (2, .int a), (3, .int t), (4, .int c9)] := hl
  refine lv_aload_n hx hb d_B_offer_0 rfl (lv_at hl 0 rfl) ?_
  refine va_get (D := D) (ci := 1) (v := .int fo) (C := Q_B) (T := F_B) (N := 5) hx hb hg in_B hown hK hP 0 rfl rfl 0 (by decide) (hg _ g_80) (fun _ h9 => h9) rfl d_B_offer_1 ?_
  refine lv_if_eq (tgt := 17) hx hb d_B_offer_4 (by decide) (fun c_4 => ?_) (fun c_4 => ?_)
  · refine lv_aload_n hx hb d_B_offer_17 rfl (lv_at hl 0 rfl) ?_
    refine lv_iconst (v := 1) hx hb d_B_offer_18 (by decide) ?_
    refine va_put (D := D) (ci := 1) (v := .int 1) (ty := .boolean) (C := Q_B) (T := F_B) (N := 5) hx hb hg in_B tq_B tq_B_ok n_B hown hK hP hD hS 0 rfl rfl 0 (by decide) (hg _ g_80) (fun _ h9 => h9) rfl (by decide +kernel) rfl rfl (Nat.le_of_ble_eq_true rfl) d_B_offer_19 (fun H locs hP hD hS => ?_)
    have hP : va_P D cls [(h0, .inr (1, [.int 1, .int wh, .int t2, .int to, .int co]))] H := hP
    have hD : va_D A [(h0, .inr (1, [.int 1, .int wh, .int t2, .int to, .int co]))] := hD
    refine lv_aload_n hx hb d_B_offer_22 rfl (lv_at hl 0 rfl) ?_
    refine lv_iload_n hx hb d_B_offer_23 rfl (lv_at hl 1 rfl) ?_
    refine va_put (D := D) (ci := 1) (v := .int w) (ty := .int) (C := Q_B) (T := F_B) (N := 5) hx hb hg in_B tq_B tq_B_ok n_B hown hK hP hD hS 0 rfl rfl 1 (by decide) (hg _ g_82) (fun _ h9 => h9) rfl (by decide +kernel) rfl rfl (Nat.le_of_ble_eq_true rfl) d_B_offer_24 (fun H locs hP hD hS => ?_)
    have hP : va_P D cls [(h0, .inr (1, [.int 1, .int w, .int t2, .int to, .int co]))] H := hP
    have hD : va_D A [(h0, .inr (1, [.int 1, .int w, .int t2, .int to, .int co]))] := hD
    refine lv_aload_n hx hb d_B_offer_27 rfl (lv_at hl 0 rfl) ?_
    refine lv_iload_n hx hb d_B_offer_28 rfl (lv_at hl 2 rfl) ?_
    refine va_put (D := D) (ci := 1) (v := .int a) (ty := .int) (C := Q_B) (T := F_B) (N := 5) hx hb hg in_B tq_B tq_B_ok n_B hown hK hP hD hS 0 rfl rfl 2 (by decide) (hg _ g_84) (fun _ h9 => h9) rfl (by decide +kernel) rfl rfl (Nat.le_of_ble_eq_true rfl) d_B_offer_29 (fun H locs hP hD hS => ?_)
    have hP : va_P D cls [(h0, .inr (1, [.int 1, .int w, .int a, .int to, .int co]))] H := hP
    have hD : va_D A [(h0, .inr (1, [.int 1, .int w, .int a, .int to, .int co]))] := hD
    refine lv_aload_n hx hb d_B_offer_32 rfl (lv_at hl 0 rfl) ?_
    refine lv_iload_n hx hb d_B_offer_33 rfl (lv_at hl 3 rfl) ?_
    refine va_put (D := D) (ci := 1) (v := .int t) (ty := .int) (C := Q_B) (T := F_B) (N := 5) hx hb hg in_B tq_B tq_B_ok n_B hown hK hP hD hS 0 rfl rfl 3 (by decide) (hg _ g_86) (fun _ h9 => h9) rfl (by decide +kernel) rfl rfl (Nat.le_of_ble_eq_true rfl) d_B_offer_34 (fun H locs hP hD hS => ?_)
    have hP : va_P D cls [(h0, .inr (1, [.int 1, .int w, .int a, .int t, .int co]))] H := hP
    have hD : va_D A [(h0, .inr (1, [.int 1, .int w, .int a, .int t, .int co]))] := hD
    refine lv_aload_n hx hb d_B_offer_37 rfl (lv_at hl 0 rfl) ?_
    refine lv_iload hx hb d_B_offer_38 (lv_at hl 4 rfl) ?_
    refine va_put (D := D) (ci := 1) (v := .int c9) (ty := .int) (C := Q_B) (T := F_B) (N := 5) hx hb hg in_B tq_B tq_B_ok n_B hown hK hP hD hS 0 rfl rfl 4 (by decide) (hg _ g_88) (fun _ h9 => h9) rfl (by decide +kernel) rfl rfl (Nat.le_of_ble_eq_true rfl) d_B_offer_40 (fun H locs hP hD hS => ?_)
    have hP : va_P D cls [(h0, .inr (1, [.int 1, .int w, .int a, .int t, .int c9]))] H := hP
    have hD : va_D A [(h0, .inr (1, [.int 1, .int w, .int a, .int t, .int c9]))] := hD
    exact W.vret hx hb hr (fun t9 ht hW => ⟨⟨[(h0, .inr (1, [.int 1, .int w, .int a, .int t, .int c9]))], rfl, (by first | rw [of_1 c_4] | rw [of_2 c_14] | rw [of_3 c_4 c_14]), by rw [ht]; exact hP, va_K.moved hW.alike hK, hD⟩, hS.F ht⟩) hS.2.2 d_B_offer_43
  · refine lv_aload_n hx hb d_B_offer_7 rfl (lv_at hl 0 rfl) ?_
    refine lv_iload_n hx hb d_B_offer_8 rfl (lv_at hl 3 rfl) ?_
    refine lv_iload hx hb d_B_offer_9 (lv_at hl 4 rfl) ?_
    refine vp_callSi (va_Run.run (va_runV (As := [.int t, .int c9]) (rest := []) ⟨hx, hb, hml, hown, hg⟩ (c_B_isBetter_ok l D cI cZ cJ cO h0 fo wh t2 to co t c9) (cwV 2 hg (gv g_313 g_315 g_2 g_22 g_316) rfl rfl rfl (by decide +kernel) ⟨Nat.le_of_ble_eq_true rfl, Nat.le_of_ble_eq_true rfl⟩) (pV hP hK hN (va_recv hK hP (ci := 1) (q0 := 0) rfl rfl)) rfl rfl hl.1 rfl (lv_room (Nat.le_of_ble_eq_true rfl)) d_B_offer_11 ⟨Nat.zero_le _, Nat.zero_le _⟩)) (fun r_1 hr_1 => ?_)
    subst hr_1
    refine lv_if_eq (tgt := 43) hx hb d_B_offer_14 (by decide) (fun c_14 => ?_) (fun c_14 => ?_)
    · exact W.vret hx hb hr (fun t9 ht hW => ⟨⟨[(h0, .inr (1, [.int fo, .int wh, .int t2, .int to, .int co]))], rfl, (by first | rw [of_1 c_4] | rw [of_2 c_14] | rw [of_3 c_4 c_14]), by rw [ht]; exact hP, va_K.moved hW.alike hK, hD⟩, hS.F ht⟩) hS.2.2 d_B_offer_43
    · refine lv_aload_n hx hb d_B_offer_17 rfl (lv_at hl 0 rfl) ?_
      refine lv_iconst (v := 1) hx hb d_B_offer_18 (by decide) ?_
      refine va_put (D := D) (ci := 1) (v := .int 1) (ty := .boolean) (C := Q_B) (T := F_B) (N := 5) hx hb hg in_B tq_B tq_B_ok n_B hown hK hP hD hS 0 rfl rfl 0 (by decide) (hg _ g_80) (fun _ h9 => h9) rfl (by decide +kernel) rfl rfl (Nat.le_of_ble_eq_true rfl) d_B_offer_19 (fun H locs hP hD hS => ?_)
      have hP : va_P D cls [(h0, .inr (1, [.int 1, .int wh, .int t2, .int to, .int co]))] H := hP
      have hD : va_D A [(h0, .inr (1, [.int 1, .int wh, .int t2, .int to, .int co]))] := hD
      refine lv_aload_n hx hb d_B_offer_22 rfl (lv_at hl 0 rfl) ?_
      refine lv_iload_n hx hb d_B_offer_23 rfl (lv_at hl 1 rfl) ?_
      refine va_put (D := D) (ci := 1) (v := .int w) (ty := .int) (C := Q_B) (T := F_B) (N := 5) hx hb hg in_B tq_B tq_B_ok n_B hown hK hP hD hS 0 rfl rfl 1 (by decide) (hg _ g_82) (fun _ h9 => h9) rfl (by decide +kernel) rfl rfl (Nat.le_of_ble_eq_true rfl) d_B_offer_24 (fun H locs hP hD hS => ?_)
      have hP : va_P D cls [(h0, .inr (1, [.int 1, .int w, .int t2, .int to, .int co]))] H := hP
      have hD : va_D A [(h0, .inr (1, [.int 1, .int w, .int t2, .int to, .int co]))] := hD
      refine lv_aload_n hx hb d_B_offer_27 rfl (lv_at hl 0 rfl) ?_
      refine lv_iload_n hx hb d_B_offer_28 rfl (lv_at hl 2 rfl) ?_
      refine va_put (D := D) (ci := 1) (v := .int a) (ty := .int) (C := Q_B) (T := F_B) (N := 5) hx hb hg in_B tq_B tq_B_ok n_B hown hK hP hD hS 0 rfl rfl 2 (by decide) (hg _ g_84) (fun _ h9 => h9) rfl (by decide +kernel) rfl rfl (Nat.le_of_ble_eq_true rfl) d_B_offer_29 (fun H locs hP hD hS => ?_)
      have hP : va_P D cls [(h0, .inr (1, [.int 1, .int w, .int a, .int to, .int co]))] H := hP
      have hD : va_D A [(h0, .inr (1, [.int 1, .int w, .int a, .int to, .int co]))] := hD
      refine lv_aload_n hx hb d_B_offer_32 rfl (lv_at hl 0 rfl) ?_
      refine lv_iload_n hx hb d_B_offer_33 rfl (lv_at hl 3 rfl) ?_
      refine va_put (D := D) (ci := 1) (v := .int t) (ty := .int) (C := Q_B) (T := F_B) (N := 5) hx hb hg in_B tq_B tq_B_ok n_B hown hK hP hD hS 0 rfl rfl 3 (by decide) (hg _ g_86) (fun _ h9 => h9) rfl (by decide +kernel) rfl rfl (Nat.le_of_ble_eq_true rfl) d_B_offer_34 (fun H locs hP hD hS => ?_)
      have hP : va_P D cls [(h0, .inr (1, [.int 1, .int w, .int a, .int t, .int co]))] H := hP
      have hD : va_D A [(h0, .inr (1, [.int 1, .int w, .int a, .int t, .int co]))] := hD
      refine lv_aload_n hx hb d_B_offer_37 rfl (lv_at hl 0 rfl) ?_
      refine lv_iload hx hb d_B_offer_38 (lv_at hl 4 rfl) ?_
      refine va_put (D := D) (ci := 1) (v := .int c9) (ty := .int) (C := Q_B) (T := F_B) (N := 5) hx hb hg in_B tq_B tq_B_ok n_B hown hK hP hD hS 0 rfl rfl 4 (by decide) (hg _ g_88) (fun _ h9 => h9) rfl (by decide +kernel) rfl rfl (Nat.le_of_ble_eq_true rfl) d_B_offer_40 (fun H locs hP hD hS => ?_)
      have hP : va_P D cls [(h0, .inr (1, [.int 1, .int w, .int a, .int t, .int c9]))] H := hP
      have hD : va_D A [(h0, .inr (1, [.int 1, .int w, .int a, .int t, .int c9]))] := hD
      exact W.vret hx hb hr (fun t9 ht hW => ⟨⟨[(h0, .inr (1, [.int 1, .int w, .int a, .int t, .int c9]))], rfl, (by first | rw [of_1 c_4] | rw [of_2 c_14] | rw [of_3 c_4 c_14]), by rw [ht]; exact hP, va_K.moved hW.alike hK, hD⟩, hS.F ht⟩) hS.2.2 d_B_offer_43

set_option maxHeartbeats 4000000 in
set_option maxRecDepth 100000 in
/-- Row(n) -/
theorem c_R_init_ok (l : Launch) (D : va_G) (cI cZ cJ cO : ClassId) (sz : Nat) (h0 : Nat) (n : Nat) (hn : n ≤ 64) : Met l y_R_init (wq y_R_init c_R_init 2 none) ({ frames := 1, cells := 2, slots := 128, locals := 24 }) (mP D (TY cI cZ cJ cO) [(h0, .inr (2, [.null, .null]))] [.ref h0, .int (nI n)] sz) (va_Qv (fun (u : va_W) => ∃ da ga : Nat, u = [(h0, .inr (2, [.ref da, .ref ga])), (da, .inl (cI, n, .inl (fun _ => -1))), (ga, .inl (cZ, n, .inl (fun _ => 0)))]) (mB D (TY cI cZ cJ cO) (va_A [(h0, .inr (2, [.null, .null]))] sz)) (va_A [(h0, .inr (2, [.null, .null]))] sz)) 2 128 (va_A [(h0, .inr (2, [.null, .null]))] sz) := by
  refine Met.ofW (cc := c_R_init) (maxL := 2) (ret := none) (by decide) rfl ?_
  intro p e s m args below meth c s₁ B hml hv
  obtain ⟨rfl, hsz, hP, hK, hD0, hN⟩ := hv
  have hx := B.exec
  have hb := B.bytes
  have hr := B.returns
  have hg := gt_h (atoms_spec (ws := (wq y_R_init c_R_init 2 none)) B.pre)
  have hown : s.vm.findClass "RubbingMirrors$Row" = some m.cls := findClass_of_methodNamed B.named
  have hlocks := B.notSynchronized
  have hin : meth.name = "<init>" := (name_of_methodNamed B.named B.method).1
  subst hsz
  have hD := hD0.self (sz := s.heap.size)
  generalize hAe : va_A [(h0, .inr (2, [.null, .null]))] s.heap.size = A at hD ⊢
  have hA : ∀ q : Nat, s.heap.size ≤ q → A q := fun q h => by rw [← hAe]; exact Or.inr h
  have hS : va_S A s.heap s.heap [] := va_S.rf
  have hl := lv_entry ([.ref h0, .int (nI n)]) (n := 2) (Nat.le_of_ble_eq_true rfl)
  rw [lg_entry_eq]
  generalize (lg_sl ([.ref h0, .int (nI n)]) ++ List.replicate (2 - (lg_sl ([.ref h0, .int (nI n)])).length) Slot.unset).toArray = ls at hl ⊢
  have hl : lv_has ls 2 [(0, .ref h0), (1, .int (nI n))] := hl
  refine lv_aload_n hx hb d_R_init_0 rfl (lv_at hl 0 rfl) ?_
  refine W.objInit hx hb hown (hg _ g_112) (hg _ g_46) (hg _ g_47) rfl (by rw [hml]; exact hl.1) rfl d_R_init_1 (Nat.le_of_ble_eq_true rfl) (Nat.le_of_ble_eq_true rfl) ?_
  refine W.eq (g2 := F0 m 4 ls []) rfl ?_
  refine lv_aload_n hx hb d_R_init_4 rfl (lv_at hl 0 rfl) ?_
  refine lv_iload_n hx hb d_R_init_5 rfl (lv_at hl 1 rfl) ?_
  refine va_newa (atype := .int) (N' := n) (a0 := (n, .inl (fun _ => 0))) hx hb (hg _ g_123) rfl hK hP hD hS hA (fun _ => rfl) (nI_pos (by omega)) (nI_clamp (by omega)) (show n * 4 ≤ 536870912 by omega) (show 0 + 1 ≤ 2 by omega) (show 0 + n ≤ 128 by omega) d_R_init_6 (fun q_6 cA9 H hK hP hD hS => ?_)
  rw [ba_uniq hK (i := 4) (j := 0) rfl rfl] at hP hD
  have hK := hK.sub (tys' := TY cI cZ cJ cO) [0, 1, 2, 3] rfl
  refine W.widen (k := 1) (n := 64) (by omega) (by omega) ?_
  have hP : va_P D cls [(h0, .inr (2, [.null, .null])), (q_6, .inl (cI, n, .inl (fun _ => 0)))] H := hP
  have hD : va_D A [(h0, .inr (2, [.null, .null])), (q_6, .inl (cI, n, .inl (fun _ => 0)))] := hD
  refine va_putF (D := D) (ci := 2) (v := .ref q_6) (ty := .array .int) (C := Q_R) (T := F_R) (N := 2) hx hb hg in_R tq_R tq_R_ok n_R hown hK hP hD hS 0 rfl rfl 0 (by decide) (hg _ g_116) (fun _ h9 => h9) rfl hin rfl (by decide +kernel) rfl rfl (Nat.le_of_ble_eq_true rfl) d_R_init_8 (fun H locs hP hD hS => ?_)
  have hP : va_P D cls [(h0, .inr (2, [.ref q_6, .null])), (q_6, .inl (cI, n, .inl (fun _ => 0)))] H := hP
  have hD : va_D A [(h0, .inr (2, [.ref q_6, .null])), (q_6, .inl (cI, n, .inl (fun _ => 0)))] := hD
  refine lv_aload_n hx hb d_R_init_11 rfl (lv_at hl 0 rfl) ?_
  refine lv_iload_n hx hb d_R_init_12 rfl (lv_at hl 1 rfl) ?_
  refine va_newa (atype := .boolean) (N' := n) (a0 := (n, .inl (fun _ => 0))) hx hb (hg _ g_124) rfl hK hP hD hS hA (fun _ => rfl) (nI_pos (by omega)) (nI_clamp (by omega)) (show n * 1 ≤ 536870912 by omega) (show 1 + 1 ≤ 2 by omega) (show 64 + n ≤ 128 by omega) d_R_init_13 (fun q_13 cA9 H hK hP hD hS => ?_)
  rw [ba_uniq hK (i := 4) (j := 1) rfl rfl] at hP hD
  have hK := hK.sub (tys' := TY cI cZ cJ cO) [0, 1, 2, 3] rfl
  refine W.widen (k := 2) (n := 128) (by omega) (by omega) ?_
  have hP : va_P D cls [(h0, .inr (2, [.ref q_6, .null])), (q_6, .inl (cI, n, .inl (fun _ => 0))), (q_13, .inl (cZ, n, .inl (fun _ => 0)))] H := hP
  have hD : va_D A [(h0, .inr (2, [.ref q_6, .null])), (q_6, .inl (cI, n, .inl (fun _ => 0))), (q_13, .inl (cZ, n, .inl (fun _ => 0)))] := hD
  refine va_putF (D := D) (ci := 2) (v := .ref q_13) (ty := .array .boolean) (C := Q_R) (T := F_R) (N := 2) hx hb hg in_R tq_R tq_R_ok n_R hown hK hP hD hS 0 rfl rfl 1 (by decide) (hg _ g_117) (fun _ h9 => h9) rfl hin rfl (by decide +kernel) rfl rfl (Nat.le_of_ble_eq_true rfl) d_R_init_15 (fun H locs hP hD hS => ?_)
  have hP : va_P D cls [(h0, .inr (2, [.ref q_6, .ref q_13])), (q_6, .inl (cI, n, .inl (fun _ => 0))), (q_13, .inl (cZ, n, .inl (fun _ => 0)))] H := hP
  have hD : va_D A [(h0, .inr (2, [.ref q_6, .ref q_13])), (q_6, .inl (cI, n, .inl (fun _ => 0))), (q_13, .inl (cZ, n, .inl (fun _ => 0)))] := hD
  refine lv_aload_n hx hb d_R_init_18 rfl (lv_at hl 0 rfl) ?_
  refine va_get (D := D) (ci := 2) (v := .ref q_6) (C := Q_R) (T := F_R) (N := 2) hx hb hg in_R hown hK hP 0 rfl rfl 0 (by decide) (hg _ g_116) (fun _ h9 => h9) rfl d_R_init_19 ?_
  refine lv_iconst (v := (-1)) hx hb d_R_init_22 (by decide) ?_
  have hP := hP.sub (ws' := [(q_6, .inl (cI, n, .inl (fun _ => 0)))] ++ [(h0, .inr (2, [.ref q_6, .ref q_13])), (q_13, .inl (cZ, n, .inl (fun _ => 0)))]) [1, 0, 2] rfl
  have hD := hD.sub (ws' := [(q_6, .inl (cI, n, .inl (fun _ => 0)))] ++ [(h0, .inr (2, [.ref q_6, .ref q_13])), (q_13, .inl (cZ, n, .inl (fun _ => 0)))]) [1, 0, 2] (by decide) rfl
  refine mcallv (wc := [(q_6, .inl (cI, n, .inl (fun _ => 0)))]) (wr := [(h0, .inr (2, [.ref q_6, .ref q_13])), (q_13, .inl (cZ, n, .inl (fun _ => 0)))]) (va_runS (As := [.ref q_6, .int (-1)]) (rest := []) ⟨hx, hb, hml, hown, hg⟩ (c_AR_fill_ok l D cI cZ cJ cO H.size q_6 n (fun _ => 0) (by omega) (-1)) (va_cwS 2 hg (gs2 g_113 g_114 g_25 g_115) rfl rfl rfl (by decide +kernel) ⟨Nat.le_of_ble_eq_true rfl, Nat.le_of_ble_eq_true rfl⟩) (mS (ba_Pl hP) hK hN (ba_Dl hD)) rfl rfl hl.1 rfl (lv_room (Nat.le_of_ble_eq_true rfl)) d_R_init_23 ⟨Nat.le_of_ble_eq_true rfl, Nat.le_of_ble_eq_true rfl⟩) hP hD hS hA (fun u_1 H locs hu_1 hP hD hS => ?_)
  subst hu_1
  have hP : va_P D cls [(q_6, .inl (cI, n, .inl (fun _ => (-1)))), (h0, .inr (2, [.ref q_6, .ref q_13])), (q_13, .inl (cZ, n, .inl (fun _ => 0)))] H := hP
  have hD : va_D A [(q_6, .inl (cI, n, .inl (fun _ => (-1)))), (h0, .inr (2, [.ref q_6, .ref q_13])), (q_13, .inl (cZ, n, .inl (fun _ => 0)))] := hD
  have hP := hP.sub (ws' := [(h0, .inr (2, [.ref q_6, .ref q_13])), (q_6, .inl (cI, n, .inl (fun _ => (-1)))), (q_13, .inl (cZ, n, .inl (fun _ => 0)))]) [1, 0, 2] rfl
  have hD := hD.sub (ws' := [(h0, .inr (2, [.ref q_6, .ref q_13])), (q_6, .inl (cI, n, .inl (fun _ => (-1)))), (q_13, .inl (cZ, n, .inl (fun _ => 0)))]) [1, 0, 2] (by decide) rfl
  exact W.vret hx hb hr (fun t9 ht hW => ⟨⟨[(h0, .inr (2, [.ref q_6, .ref q_13])), (q_6, .inl (cI, n, .inl (fun _ => (-1)))), (q_13, .inl (cZ, n, .inl (fun _ => 0)))], rfl, ⟨q_6, q_13, rfl⟩, by rw [ht]; exact hP, va_K.moved hW.alike hK, hD⟩, hS.F ht⟩) hS.2.2 d_R_init_26

set_option maxHeartbeats 4000000 in
set_option maxRecDepth 100000 in
/-- Shape(n) -/
theorem c_S_init_ok (l : Launch) (D : va_G) (cI cZ cJ cO : ClassId) (sz : Nat) (h0 : Nat) (n : Nat) (hn : n ≤ 16) : Met l y_S_init (wq y_S_init c_S_init 2 none) ({ frames := 1, cells := 1, slots := 16, locals := 24 }) (mP D (TY cI cZ cJ cO) [(h0, .inr (4, [.null]))] [.ref h0, .int (nI n)] sz) (va_Qv (fun (u : va_W) => ∃ sa : Nat, u = [(h0, .inr (4, [.ref sa])), (sa, .inl (cI, n, .inl (fun _ => 128)))]) (mB D (TY cI cZ cJ cO) (va_A [(h0, .inr (4, [.null]))] sz)) (va_A [(h0, .inr (4, [.null]))] sz)) 1 16 (va_A [(h0, .inr (4, [.null]))] sz) := by
  refine Met.ofW (cc := c_S_init) (maxL := 2) (ret := none) (by decide) rfl ?_
  intro p e s m args below meth c s₁ B hml hv
  obtain ⟨rfl, hsz, hP, hK, hD0, hN⟩ := hv
  have hx := B.exec
  have hb := B.bytes
  have hr := B.returns
  have hg := gt_h (atoms_spec (ws := (wq y_S_init c_S_init 2 none)) B.pre)
  have hown : s.vm.findClass "RubbingMirrors$Shape" = some m.cls := findClass_of_methodNamed B.named
  have hlocks := B.notSynchronized
  have hin : meth.name = "<init>" := (name_of_methodNamed B.named B.method).1
  subst hsz
  have hD := hD0.self (sz := s.heap.size)
  generalize hAe : va_A [(h0, .inr (4, [.null]))] s.heap.size = A at hD ⊢
  have hA : ∀ q : Nat, s.heap.size ≤ q → A q := fun q h => by rw [← hAe]; exact Or.inr h
  have hS : va_S A s.heap s.heap [] := va_S.rf
  have hl := lv_entry ([.ref h0, .int (nI n)]) (n := 2) (Nat.le_of_ble_eq_true rfl)
  rw [lg_entry_eq]
  generalize (lg_sl ([.ref h0, .int (nI n)]) ++ List.replicate (2 - (lg_sl ([.ref h0, .int (nI n)])).length) Slot.unset).toArray = ls at hl ⊢
  have hl : lv_has ls 2 [(0, .ref h0), (1, .int (nI n))] := hl
  refine lv_aload_n hx hb d_S_init_0 rfl (lv_at hl 0 rfl) ?_
  refine W.objInit hx hb hown (hg _ g_388) (hg _ g_46) (hg _ g_47) rfl (by rw [hml]; exact hl.1) rfl d_S_init_1 (Nat.le_of_ble_eq_true rfl) (Nat.le_of_ble_eq_true rfl) ?_
  refine W.eq (g2 := F0 m 4 ls []) rfl ?_
  refine lv_aload_n hx hb d_S_init_4 rfl (lv_at hl 0 rfl) ?_
  refine lv_iload_n hx hb d_S_init_5 rfl (lv_at hl 1 rfl) ?_
  refine va_newa (atype := .int) (N' := n) (a0 := (n, .inl (fun _ => 0))) hx hb (hg _ g_123) rfl hK hP hD hS hA (fun _ => rfl) (nI_pos (by omega)) (nI_clamp (by omega)) (show n * 4 ≤ 536870912 by omega) (show 0 + 1 ≤ 1 by omega) (show 0 + n ≤ 16 by omega) d_S_init_6 (fun q_6 cA9 H hK hP hD hS => ?_)
  rw [ba_uniq hK (i := 4) (j := 0) rfl rfl] at hP hD
  have hK := hK.sub (tys' := TY cI cZ cJ cO) [0, 1, 2, 3] rfl
  refine W.widen (k := 1) (n := 16) (by omega) (by omega) ?_
  have hP : va_P D cls [(h0, .inr (4, [.null])), (q_6, .inl (cI, n, .inl (fun _ => 0)))] H := hP
  have hD : va_D A [(h0, .inr (4, [.null])), (q_6, .inl (cI, n, .inl (fun _ => 0)))] := hD
  refine va_putF (D := D) (ci := 4) (v := .ref q_6) (ty := .array .int) (C := Q_S) (T := F_S) (N := 1) hx hb hg in_S tq_S tq_S_ok n_S hown hK hP hD hS 0 rfl rfl 0 (by decide) (hg _ g_390) (fun _ h9 => h9) rfl hin rfl (by decide +kernel) rfl rfl (Nat.le_of_ble_eq_true rfl) d_S_init_8 (fun H locs hP hD hS => ?_)
  have hP : va_P D cls [(h0, .inr (4, [.ref q_6])), (q_6, .inl (cI, n, .inl (fun _ => 0)))] H := hP
  have hD : va_D A [(h0, .inr (4, [.ref q_6])), (q_6, .inl (cI, n, .inl (fun _ => 0)))] := hD
  refine lv_aload_n hx hb d_S_init_11 rfl (lv_at hl 0 rfl) ?_
  refine va_get (D := D) (ci := 4) (v := .ref q_6) (C := Q_S) (T := F_S) (N := 1) hx hb hg in_S hown hK hP 0 rfl rfl 0 (by decide) (hg _ g_390) (fun _ h9 => h9) rfl d_S_init_12 ?_
  refine lv_sipush (v := 128) hx hb d_S_init_15 (by decide) ?_
  have hP := hP.sub (ws' := [(q_6, .inl (cI, n, .inl (fun _ => 0)))] ++ [(h0, .inr (4, [.ref q_6]))]) [1, 0] rfl
  have hD := hD.sub (ws' := [(q_6, .inl (cI, n, .inl (fun _ => 0)))] ++ [(h0, .inr (4, [.ref q_6]))]) [1, 0] (by decide) rfl
  refine mcallv (wc := [(q_6, .inl (cI, n, .inl (fun _ => 0)))]) (wr := [(h0, .inr (4, [.ref q_6]))]) (va_runS (As := [.ref q_6, .int 128]) (rest := []) ⟨hx, hb, hml, hown, hg⟩ (c_AR_fill_ok l D cI cZ cJ cO H.size q_6 n (fun _ => 0) (by omega) 128) (va_cwS 2 hg (gs2 g_389 g_114 g_25 g_115) rfl rfl rfl (by decide +kernel) ⟨Nat.le_of_ble_eq_true rfl, Nat.le_of_ble_eq_true rfl⟩) (mS (ba_Pl hP) hK hN (ba_Dl hD)) rfl rfl hl.1 rfl (lv_room (Nat.le_of_ble_eq_true rfl)) d_S_init_18 ⟨Nat.le_of_ble_eq_true rfl, Nat.le_of_ble_eq_true rfl⟩) hP hD hS hA (fun u_1 H locs hu_1 hP hD hS => ?_)
  subst hu_1
  have hP : va_P D cls [(q_6, .inl (cI, n, .inl (fun _ => 128))), (h0, .inr (4, [.ref q_6]))] H := hP
  have hD : va_D A [(q_6, .inl (cI, n, .inl (fun _ => 128))), (h0, .inr (4, [.ref q_6]))] := hD
  have hP := hP.sub (ws' := [(h0, .inr (4, [.ref q_6])), (q_6, .inl (cI, n, .inl (fun _ => 128)))]) [1, 0] rfl
  have hD := hD.sub (ws' := [(h0, .inr (4, [.ref q_6])), (q_6, .inl (cI, n, .inl (fun _ => 128)))]) [1, 0] (by decide) rfl
  exact W.vret hx hb hr (fun t9 ht hW => ⟨⟨[(h0, .inr (4, [.ref q_6])), (q_6, .inl (cI, n, .inl (fun _ => 128)))], rfl, ⟨q_6, rfl⟩, by rw [ht]; exact hP, va_K.moved hW.alike hK, hD⟩, hS.F ht⟩) hS.2.2 d_S_init_21

set_option maxHeartbeats 4000000 in
set_option maxRecDepth 100000 in
/-- Shape.has(k) -/
theorem c_S_has_ok (l : Launch) (D : va_G) (cI cZ cJ cO : ClassId) (h0 sa n : Nat) (f : Nat → Int32) (hn : n < 2 ^ 31) (k : Int32) : Met l y_S_has (wq y_S_has c_S_has 2 (some .boolean)) ({ frames := 0, cells := 0, slots := 0, locals := 0 }) (rP D (TY cI cZ cJ cO) [(h0, .inr (4, [.ref sa])), (sa, .inl (cI, n, .inl f))] [.ref h0, .int k]) (vp_Si (fun r => r = bI (hs n k.toInt))) 0 0 (fun _ => False) := by
  refine Met.ofW (cc := c_S_has) (maxL := 2) (ret := (some .boolean)) (by decide) rfl ?_
  intro p e s m args below meth c s₁ B hml hv
  obtain ⟨rfl, hP, hK, hN⟩ := hv
  have hx := B.exec
  have hb := B.bytes
  have hr := B.returns
  have hg := gt_h (atoms_spec (ws := (wq y_S_has c_S_has 2 (some .boolean))) B.pre)
  have hown : s.vm.findClass "RubbingMirrors$Shape" = some m.cls := findClass_of_methodNamed B.named
  have hlocks := B.notSynchronized
  have hl := lv_entry ([.ref h0, .int k]) (n := 2) (Nat.le_of_ble_eq_true rfl)
  rw [lg_entry_eq]
  generalize (lg_sl ([.ref h0, .int k]) ++ List.replicate (2 - (lg_sl ([.ref h0, .int k])).length) Slot.unset).toArray = ls at hl ⊢
  have hl : lv_has ls 2 [(0, .ref h0), (1, .int k)] := hl
  refine lv_iload_n hx hb d_S_has_0 rfl (lv_at hl 1 rfl) ?_
  refine lv_if_lt (tgt := 17) hx hb d_S_has_1 (by decide) (fun c_1 => ?_) (fun c_1 => ?_)
  · refine lv_iconst (v := 0) hx hb d_S_has_17 (by decide) ?_
    exact W.zret hx hb hr (by decide) (fun t9 ht hW => ⟨_, rfl, (by first | exact hs_t hn c_1 c_10 | exact hs_f1 c_1 | exact hs_f2 hn c_10), ht⟩) t_nil2 d_S_has_18
  · refine lv_iload_n hx hb d_S_has_4 rfl (lv_at hl 1 rfl) ?_
    refine lv_aload_n hx hb d_S_has_5 rfl (lv_at hl 0 rfl) ?_
    refine va_get (D := D) (ci := 4) (v := .ref sa) (C := Q_S) (T := F_S) (N := 1) hx hb hg in_S hown hK hP 0 rfl rfl 0 (by decide) (hg _ g_390) (fun _ h9 => h9) rfl d_S_has_6 ?_
    refine va_alen (v := nI n) hx hb hK hP 1 0 rfl rfl rfl d_S_has_9 ?_
    refine lv_icmp_ge (tgt := 17) hx hb d_S_has_10 (by decide) (fun c_10 => ?_) (fun c_10 => ?_)
    · refine lv_iconst (v := 0) hx hb d_S_has_17 (by decide) ?_
      exact W.zret hx hb hr (by decide) (fun t9 ht hW => ⟨_, rfl, (by first | exact hs_t hn c_1 c_10 | exact hs_f1 c_1 | exact hs_f2 hn c_10), ht⟩) t_nil2 d_S_has_18
    · refine lv_iconst (v := 1) hx hb d_S_has_13 (by decide) ?_
      refine lv_goto (tgt := 18) hx hb d_S_has_14 (by decide) ?_
      exact W.zret hx hb hr (by decide) (fun t9 ht hW => ⟨_, rfl, (by first | exact hs_t hn c_1 c_10 | exact hs_f1 c_1 | exact hs_f2 hn c_10), ht⟩) t_nil2 d_S_has_18

set_option maxHeartbeats 4000000 in
set_option maxRecDepth 100000 in
/-- Shape.leastCover() -/
theorem c_S_leastCover_ok (l : Launch) (D : va_G) (cI cZ cJ cO : ClassId) (h0 sa n : Nat) (f : Nat → Int32) (hn : n < 2 ^ 31) : Met l y_S_leastCover (wq y_S_leastCover c_S_leastCover 1 (some .int)) ({ frames := 0, cells := 0, slots := 0, locals := 0 }) (rP D (TY cI cZ cJ cO) [(h0, .inr (4, [.ref sa])), (sa, .inl (cI, n, .inl f))] [.ref h0]) (vp_Si (fun r => r = (nI n + 1) / 2)) 0 0 (fun _ => False) := by
  refine Met.ofW (cc := c_S_leastCover) (maxL := 1) (ret := (some .int)) (by decide) rfl ?_
  intro p e s m args below meth c s₁ B hml hv
  obtain ⟨rfl, hP, hK, hN⟩ := hv
  have hx := B.exec
  have hb := B.bytes
  have hr := B.returns
  have hg := gt_h (atoms_spec (ws := (wq y_S_leastCover c_S_leastCover 1 (some .int))) B.pre)
  have hown : s.vm.findClass "RubbingMirrors$Shape" = some m.cls := findClass_of_methodNamed B.named
  have hlocks := B.notSynchronized
  have hl := lv_entry ([.ref h0]) (n := 1) (Nat.le_of_ble_eq_true rfl)
  rw [lg_entry_eq]
  generalize (lg_sl ([.ref h0]) ++ List.replicate (1 - (lg_sl ([.ref h0])).length) Slot.unset).toArray = ls at hl ⊢
  have hl : lv_has ls 1 [(0, .ref h0)] := hl
  refine lv_aload_n hx hb d_S_leastCover_0 rfl (lv_at hl 0 rfl) ?_
  refine va_get (D := D) (ci := 4) (v := .ref sa) (C := Q_S) (T := F_S) (N := 1) hx hb hg in_S hown hK hP 0 rfl rfl 0 (by decide) (hg _ g_390) (fun _ h9 => h9) rfl d_S_leastCover_1 ?_
  refine va_alen (v := nI n) hx hb hK hP 1 0 rfl rfl rfl d_S_leastCover_4 ?_
  refine lv_iconst (v := 1) hx hb d_S_leastCover_5 (by decide) ?_
  refine lv_iadd hx hb d_S_leastCover_6 ?_
  refine lv_iconst (v := 2) hx hb d_S_leastCover_7 (by decide) ?_
  refine lv_idiv hx hb d_S_leastCover_8 (by decide) ?_
  exact W.iret hx hb hr (fun t9 ht hW => ⟨_, rfl, rfl, ht⟩) t_nil2 d_S_leastCover_9

set_option maxHeartbeats 4000000 in
set_option maxRecDepth 100000 in
/-- Shape.put(k, v) -/
theorem c_S_put_ok (l : Launch) (D : va_G) (cI cZ cJ cO : ClassId) (sz : Nat) (h0 sa n : Nat) (f : Nat → Int32) (hn : n < 2 ^ 31) (k v : Int32) (hk : hs n k.toInt = true) : Met l y_S_put (wq y_S_put c_S_put 3 none) ({ frames := 1, cells := 0, slots := 0, locals := 21 }) (mP D (TY cI cZ cJ cO) [(h0, .inr (4, [.ref sa])), (sa, .inl (cI, n, .inl f))] [.ref h0, .int k, .int v] sz) (va_Qv (fun (u : va_W) => u = [(h0, .inr (4, [.ref sa])), (sa, .inl (cI, n, .inl (upd f k.toNatClampNeg v)))]) (mB D (TY cI cZ cJ cO) (va_A [(h0, .inr (4, [.ref sa])), (sa, .inl (cI, n, .inl f))] sz)) (va_A [(h0, .inr (4, [.ref sa])), (sa, .inl (cI, n, .inl f))] sz)) 0 0 (va_A [(h0, .inr (4, [.ref sa])), (sa, .inl (cI, n, .inl f))] sz) := by
  refine Met.ofW (cc := c_S_put) (maxL := 3) (ret := none) (by decide) rfl ?_
  intro p e s m args below meth c s₁ B hml hv
  obtain ⟨rfl, hsz, hP, hK, hD0, hN⟩ := hv
  have hx := B.exec
  have hb := B.bytes
  have hr := B.returns
  have hg := gt_h (atoms_spec (ws := (wq y_S_put c_S_put 3 none)) B.pre)
  have hown : s.vm.findClass "RubbingMirrors$Shape" = some m.cls := findClass_of_methodNamed B.named
  have hlocks := B.notSynchronized
  subst hsz
  have hD := hD0.self (sz := s.heap.size)
  generalize hAe : va_A [(h0, .inr (4, [.ref sa])), (sa, .inl (cI, n, .inl f))] s.heap.size = A at hD ⊢
  have hA : ∀ q : Nat, s.heap.size ≤ q → A q := fun q h => by rw [← hAe]; exact Or.inr h
  have hS : va_S A s.heap s.heap [] := va_S.rf
  have hl := lv_entry ([.ref h0, .int k, .int v]) (n := 3) (Nat.le_of_ble_eq_true rfl)
  rw [lg_entry_eq]
  generalize (lg_sl ([.ref h0, .int k, .int v]) ++ List.replicate (3 - (lg_sl ([.ref h0, .int k, .int v])).length) Slot.unset).toArray = ls at hl ⊢
  have hl : lv_has ls 3 [(0, .ref h0), (1, .int k), (2, .int v)] := hl
  refine lv_aload_n hx hb d_S_put_0 rfl (lv_at hl 0 rfl) ?_
  refine lv_iload_n hx hb d_S_put_1 rfl (lv_at hl 1 rfl) ?_
  refine vp_callSi (va_Run.run (va_runV (As := [.int k]) (rest := []) ⟨hx, hb, hml, hown, hg⟩ (c_S_has_ok l D cI cZ cJ cO h0 sa n f hn k) (cwV 1 hg (gv g_480 g_471 g_472 g_33 g_473) rfl rfl rfl (by decide +kernel) ⟨Nat.le_of_ble_eq_true rfl, Nat.le_of_ble_eq_true rfl⟩) (pV hP hK hN (va_recv hK hP (ci := 4) (q0 := 0) rfl rfl)) rfl rfl hl.1 rfl (lv_room (Nat.le_of_ble_eq_true rfl)) d_S_put_2 ⟨Nat.zero_le _, Nat.zero_le _⟩)) (fun r_1 hr_1 => ?_)
  subst hr_1
  refine lv_if_eq (tgt := 15) hx hb d_S_put_5 (by decide) (fun c_5 => ?_) (fun c_5 => ?_)
  · exact absurd (bI_eq0 c_5) (by rw [hk]; decide)
  · refine lv_aload_n hx hb d_S_put_8 rfl (lv_at hl 0 rfl) ?_
    refine va_get (D := D) (ci := 4) (v := .ref sa) (C := Q_S) (T := F_S) (N := 1) hx hb hg in_S hown hK hP 0 rfl rfl 0 (by decide) (hg _ g_390) (fun _ h9 => h9) rfl d_S_put_9 ?_
    refine lv_iload_n hx hb d_S_put_12 rfl (lv_at hl 1 rfl) ?_
    refine lv_iload_n hx hb d_S_put_13 rfl (lv_at hl 2 rfl) ?_
    refine va_iast hx hb hK hP hD hS 1 0 rfl rfl (hs_in hk) d_S_put_14 (fun H locs hP hD hS => ?_)
    have hP : va_P D cls [(h0, .inr (4, [.ref sa])), (sa, .inl (cI, n, .inl (upd f k.toNatClampNeg v)))] H := hP
    have hD : va_D A [(h0, .inr (4, [.ref sa])), (sa, .inl (cI, n, .inl (upd f k.toNatClampNeg v)))] := hD
    exact W.vret hx hb hr (fun t9 ht hW => ⟨⟨[(h0, .inr (4, [.ref sa])), (sa, .inl (cI, n, .inl (upd f k.toNatClampNeg v)))], rfl, rfl, by rw [ht]; exact hP, va_K.moved hW.alike hK, hD⟩, hS.F ht⟩) hS.2.2 d_S_put_15


/-- the COVER of a shape at p, its first j places -/
def cv (n : Nat) (d : Nat → Int32) (p : Nat) : Nat → Nat
  | 0 => 0
  | j + 1 => cv n d p j + (if dpt n d ((p : Int) + j) = -1 then 0 else 1)
def absI (x : Int32) : Int32 := if 0 ≤ x then x else 0 - x
/-- the MISS of a shape f at p, its first j places -/
def mss (n : Nat) (d : Nat → Int32) (f : Nat → Int32) (p : Nat) : Nat → Int32
  | 0 => 0
  | j + 1 => mss n d f p j + (if dpt n d ((p : Int) + j) = -1 then 0 else absI (f j - dpt n d ((p : Int) + j)))
theorem cv_1 {n : Nat} {d : Nat → Int32} {p j : Nat} (hp : p < 2 ^ 20) (hj : j < 2 ^ 20) (h : dpt n d (nI p + nI j).toInt = -1) : nI (cv n d p j) = nI (cv n d p (j + 1)) := by
  rw [add_ti hp hj] at h
  rw [cv, if_pos h, Nat.add_zero]
theorem cv_2 {n : Nat} {d : Nat → Int32} {p j : Nat} (hp : p < 2 ^ 20) (hj : j < 2 ^ 20) (h : ¬ dpt n d (nI p + nI j).toInt = -1) : nI (cv n d p j) + 1 = nI (cv n d p (j + 1)) := by
  rw [add_ti hp hj] at h
  rw [cv, if_neg h, nI_1]
theorem ms_1 {n : Nat} {d f : Nat → Int32} {p j : Nat} (hp : p < 2 ^ 20) (hj : j < 2 ^ 20) (h : dpt n d (nI p + nI j).toInt = -1) : mss n d f p j = mss n d f p (j + 1) := by
  rw [add_ti hp hj] at h
  rw [mss, if_pos h, Int32.add_zero]
theorem ms_2 {n : Nat} {d f : Nat → Int32} {p j : Nat} (hp : p < 2 ^ 20) (hj : j < 2 ^ 20) (h : ¬ dpt n d (nI p + nI j).toInt = -1) : mss n d f p j + (if 0 ≤ (f (nI j).toNatClampNeg - dpt n d (nI p + nI j).toInt) then (f (nI j).toNatClampNeg - dpt n d (nI p + nI j).toInt) else 0 - (f (nI j).toNatClampNeg - dpt n d (nI p + nI j).toInt)) = mss n d f p (j + 1) := by
  rw [add_ti hp hj] at h ⊢
  rw [mss, if_neg h, nI_clamp (by omega)]; rfl

set_option maxHeartbeats 4000000 in
set_option maxRecDepth 100000 in
/-- Shape.coverAt(row, p) -/
theorem c_S_coverAt_ok (l : Launch) (D : va_G) (cI cZ cJ cO : ClassId) (h0 sa m9 : Nat) (f : Nat → Int32) (hm9 : m9 < 2 ^ 20) (r0 da ga : Nat) (n : Nat) (d g : Nat → Int32) (hn : n < 2 ^ 20) (pp : Nat) (hpp : pp < 2 ^ 20) : Met l y_S_coverAt (wq y_S_coverAt c_S_coverAt 5 (some .int)) ({ frames := 2, cells := 0, slots := 0, locals := 42 }) (rP D (TY cI cZ cJ cO) [(h0, .inr (4, [.ref sa])), (sa, .inl (cI, m9, .inl f)), (r0, .inr (2, [.ref da, .ref ga])), (da, .inl (cI, n, .inl d)), (ga, .inl (cZ, n, .inl g))] [.ref h0, .ref r0, .int (nI pp)]) (vp_Si (fun r => r = nI (cv n d pp m9))) 0 0 (fun _ => False) := by
  refine Met.ofW (cc := c_S_coverAt) (maxL := 5) (ret := (some .int)) (by decide) rfl ?_
  intro p e s m args below meth c s₁ B hml hv
  obtain ⟨rfl, hP, hK, hN⟩ := hv
  have hx := B.exec
  have hb := B.bytes
  have hr := B.returns
  have hg := gt_h (atoms_spec (ws := (wq y_S_coverAt c_S_coverAt 5 (some .int))) B.pre)
  have hown : s.vm.findClass "RubbingMirrors$Shape" = some m.cls := findClass_of_methodNamed B.named
  have hlocks := B.notSynchronized
  have hl := lv_entry ([.ref h0, .ref r0, .int (nI pp)]) (n := 5) (Nat.le_of_ble_eq_true rfl)
  rw [lg_entry_eq]
  generalize (lg_sl ([.ref h0, .ref r0, .int (nI pp)]) ++ List.replicate (5 - (lg_sl ([.ref h0, .ref r0, .int (nI pp)])).length) Slot.unset).toArray = ls at hl ⊢
  have hl : lv_has ls 5 [(0, .ref h0), (1, .ref r0), (2, .int (nI pp))] := hl
  refine lv_iconst (v := 0) hx hb d_S_coverAt_0 (by decide) ?_
  refine lv_istore_n (lv' := [(3, .int 0), (0, .ref h0), (1, .ref r0), (2, .int (nI pp))]) hx hb d_S_coverAt_1 rfl hl (by decide) rfl (fun ls hl => ?_)
  refine lv_iconst (v := 0) hx hb d_S_coverAt_2 (by decide) ?_
  refine lv_istore (lv' := [(4, .int 0), (3, .int 0), (0, .ref h0), (1, .ref r0), (2, .int (nI pp))]) hx hb d_S_coverAt_3 hl (by decide) rfl (fun ls hl => ?_)
  have loop_5 : ∀ (f5 : Nat) (j : Nat) (x3 : Int32) (x4 : Int32) (ls : Array Slot), (j ≤ m9 ∧ m9 < j + f5 ∧ x3 = nI (cv n d pp j) ∧ x4 = nI j) → lv_has ls 5 [(0, .ref h0), (1, .ref r0), (2, .int (nI pp)), (3, .int x3), (4, .int x4)] → W p l e (headSpec (wq y_S_coverAt c_S_coverAt 5 (some .int)) ({ frames := 2, cells := 0, slots := 0, locals := 42 })).room s m ([.ref h0, .ref r0, .int (nI pp)] : List Value).toArray below meth c s.heap [] 0 0 (MQ below (vp_Si (fun r => r = nI (cv n d pp m9))) ([.ref h0, .ref r0, .int (nI pp)] : List Value).toArray s 0 0 (fun _ => False)) (F0 m 5 ls []) := by
    intro f5
    induction f5 with
    | zero =>
      intro j x3 x4 ls hI hl
      obtain ⟨hj1, hj2, rfl, rfl⟩ := hI
      omega
    | succ f5 ih5 =>
      intro j x3 x4 ls hI hl
      obtain ⟨hj1, hj2, rfl, rfl⟩ := hI
      refine lv_iload hx hb d_S_coverAt_5 (lv_at hl 4 rfl) ?_
      refine lv_aload_n hx hb d_S_coverAt_7 rfl (lv_at hl 0 rfl) ?_
      refine va_get (D := D) (ci := 4) (v := .ref sa) (C := Q_S) (T := F_S) (N := 1) hx hb hg in_S hown hK hP 0 rfl rfl 0 (by decide) (hg _ g_390) (fun _ h9 => h9) rfl d_S_coverAt_8 ?_
      refine va_alen (v := nI m9) hx hb hK hP 1 0 rfl rfl rfl d_S_coverAt_11 ?_
      refine lv_icmp_ge (tgt := 36) hx hb d_S_coverAt_12 (by decide) (fun c_12 => ?_) (fun c_12 => ?_)
      · refine lv_iload_n hx hb d_S_coverAt_36 rfl (lv_at hl 3 rfl) ?_
        exact W.iret hx hb hr (fun t9 ht hW => ⟨_, rfl, (by rw [← gj_out hm9 hj1 c_12]), ht⟩) t_nil2 d_S_coverAt_37
      · refine lv_aload_n hx hb d_S_coverAt_15 rfl (lv_at hl 1 rfl) ?_
        refine lv_iload_n hx hb d_S_coverAt_16 rfl (lv_at hl 2 rfl) ?_
        refine lv_iload hx hb d_S_coverAt_17 (lv_at hl 4 rfl) ?_
        refine lv_iadd hx hb d_S_coverAt_19 ?_
        refine vp_callSi (va_Run.run (va_runV (As := [.int ((nI pp) + (nI j))]) (rest := []) ⟨hx, hb, hml, hown, hg⟩ (c_R_depthAt_ok l D cI cZ cJ cO r0 da ga n d g (by omega) ((nI pp) + (nI j))) (cwV 1 hg (gv g_496 g_266 g_267 g_23 g_268) rfl rfl rfl (by decide +kernel) ⟨Nat.le_of_ble_eq_true rfl, Nat.le_of_ble_eq_true rfl⟩) (pV (hP.sub [2, 3, 4] rfl) hK hN (va_recv hK (hP.sub [2, 3, 4] rfl) (ci := 2) (q0 := 0) rfl rfl)) rfl rfl hl.1 rfl (lv_room (Nat.le_of_ble_eq_true rfl)) d_S_coverAt_20 ⟨Nat.zero_le _, Nat.zero_le _⟩)) (fun r_1 hr_1 => ?_)
        subst hr_1
        refine lv_iconst (v := (-1)) hx hb d_S_coverAt_23 (by decide) ?_
        refine lv_icmp_eq (tgt := 30) hx hb d_S_coverAt_24 (by decide) (fun c_24 => ?_) (fun c_24 => ?_)
        · refine lv_iinc (v := (nI j) + 1) (lv' := [(4, .int ((nI j) + 1)), (0, .ref h0), (1, .ref r0), (2, .int (nI pp)), (3, .int (nI (cv n d pp j)))]) hx hb d_S_coverAt_30 hl (k := 4) rfl rfl (by decide) rfl (fun ls hl => ?_)
          refine lv_goto (tgt := 5) hx hb d_S_coverAt_33 (by decide) ?_
          exact ih5 (j + 1) (nI (cv n d pp j)) ((nI j) + 1) ls (⟨by have := gj_in hm9 hj1 c_12; omega, by omega, (by first | exact cv_1 hpp (by omega) c_24 | exact cv_2 hpp (by omega) c_24), nI_1 j⟩) (lv_sub hl [1, 2, 3, 4, 0] rfl)
        · refine lv_iinc (v := (nI (cv n d pp j)) + 1) (lv' := [(3, .int ((nI (cv n d pp j)) + 1)), (0, .ref h0), (1, .ref r0), (2, .int (nI pp)), (4, .int (nI j))]) hx hb d_S_coverAt_27 hl (k := 3) rfl rfl (by decide) rfl (fun ls hl => ?_)
          refine lv_iinc (v := (nI j) + 1) (lv' := [(4, .int ((nI j) + 1)), (3, .int ((nI (cv n d pp j)) + 1)), (0, .ref h0), (1, .ref r0), (2, .int (nI pp))]) hx hb d_S_coverAt_30 hl (k := 4) rfl rfl (by decide) rfl (fun ls hl => ?_)
          refine lv_goto (tgt := 5) hx hb d_S_coverAt_33 (by decide) ?_
          exact ih5 (j + 1) ((nI (cv n d pp j)) + 1) ((nI j) + 1) ls (⟨by have := gj_in hm9 hj1 c_12; omega, by omega, (by first | exact cv_1 hpp (by omega) c_24 | exact cv_2 hpp (by omega) c_24), nI_1 j⟩) (lv_sub hl [2, 3, 4, 1, 0] rfl)
  exact loop_5 (m9 + 1) 0 0 0 ls (⟨by omega, by omega, rfl, rfl⟩) (lv_sub hl [2, 3, 4, 1, 0] rfl)

set_option maxHeartbeats 4000000 in
set_option maxRecDepth 100000 in
/-- Shape.missAt(row, p) -/
theorem c_S_missAt_ok (l : Launch) (D : va_G) (cI cZ cJ cO : ClassId) (h0 sa m9 : Nat) (f : Nat → Int32) (hm9 : m9 < 2 ^ 20) (r0 da ga : Nat) (n : Nat) (d g : Nat → Int32) (hn : n < 2 ^ 20) (pp : Nat) (hpp : pp < 2 ^ 20) : Met l y_S_missAt (wq y_S_missAt c_S_missAt 6 (some .int)) ({ frames := 2, cells := 0, slots := 0, locals := 42 }) (rP D (TY cI cZ cJ cO) [(h0, .inr (4, [.ref sa])), (sa, .inl (cI, m9, .inl f)), (r0, .inr (2, [.ref da, .ref ga])), (da, .inl (cI, n, .inl d)), (ga, .inl (cZ, n, .inl g))] [.ref h0, .ref r0, .int (nI pp)]) (vp_Si (fun r => r = mss n d f pp m9)) 0 0 (fun _ => False) := by
  refine Met.ofW (cc := c_S_missAt) (maxL := 6) (ret := (some .int)) (by decide) rfl ?_
  intro p e s m args below meth c s₁ B hml hv
  obtain ⟨rfl, hP, hK, hN⟩ := hv
  have hx := B.exec
  have hb := B.bytes
  have hr := B.returns
  have hg := gt_h (atoms_spec (ws := (wq y_S_missAt c_S_missAt 6 (some .int))) B.pre)
  have hown : s.vm.findClass "RubbingMirrors$Shape" = some m.cls := findClass_of_methodNamed B.named
  have hlocks := B.notSynchronized
  have hl := lv_entry ([.ref h0, .ref r0, .int (nI pp)]) (n := 6) (Nat.le_of_ble_eq_true rfl)
  rw [lg_entry_eq]
  generalize (lg_sl ([.ref h0, .ref r0, .int (nI pp)]) ++ List.replicate (6 - (lg_sl ([.ref h0, .ref r0, .int (nI pp)])).length) Slot.unset).toArray = ls at hl ⊢
  have hl : lv_has ls 6 [(0, .ref h0), (1, .ref r0), (2, .int (nI pp))] := hl
  refine lv_iconst (v := 0) hx hb d_S_missAt_0 (by decide) ?_
  refine lv_istore_n (lv' := [(3, .int 0), (0, .ref h0), (1, .ref r0), (2, .int (nI pp))]) hx hb d_S_missAt_1 rfl hl (by decide) rfl (fun ls hl => ?_)
  refine lv_iconst (v := 0) hx hb d_S_missAt_2 (by decide) ?_
  refine lv_istore (lv' := [(4, .int 0), (3, .int 0), (0, .ref h0), (1, .ref r0), (2, .int (nI pp))]) hx hb d_S_missAt_3 hl (by decide) rfl (fun ls hl => ?_)
  have loop_5 : ∀ (f5 : Nat) (j : Nat) (x3 : Int32) (x4 : Int32) (ls : Array Slot), (j ≤ m9 ∧ m9 < j + f5 ∧ x3 = mss n d f pp j ∧ x4 = nI j) → lv_has ls 6 [(0, .ref h0), (1, .ref r0), (2, .int (nI pp)), (3, .int x3), (4, .int x4)] → W p l e (headSpec (wq y_S_missAt c_S_missAt 6 (some .int)) ({ frames := 2, cells := 0, slots := 0, locals := 42 })).room s m ([.ref h0, .ref r0, .int (nI pp)] : List Value).toArray below meth c s.heap [] 0 0 (MQ below (vp_Si (fun r => r = mss n d f pp m9)) ([.ref h0, .ref r0, .int (nI pp)] : List Value).toArray s 0 0 (fun _ => False)) (F0 m 5 ls []) := by
    intro f5
    induction f5 with
    | zero =>
      intro j x3 x4 ls hI hl
      obtain ⟨hj1, hj2, rfl, rfl⟩ := hI
      omega
    | succ f5 ih5 =>
      intro j x3 x4 ls hI hl
      obtain ⟨hj1, hj2, rfl, rfl⟩ := hI
      refine lv_iload hx hb d_S_missAt_5 (lv_at hl 4 rfl) ?_
      refine lv_aload_n hx hb d_S_missAt_7 rfl (lv_at hl 0 rfl) ?_
      refine va_get (D := D) (ci := 4) (v := .ref sa) (C := Q_S) (T := F_S) (N := 1) hx hb hg in_S hown hK hP 0 rfl rfl 0 (by decide) (hg _ g_390) (fun _ h9 => h9) rfl d_S_missAt_8 ?_
      refine va_alen (v := nI m9) hx hb hK hP 1 0 rfl rfl rfl d_S_missAt_11 ?_
      refine lv_icmp_ge (tgt := 53) hx hb d_S_missAt_12 (by decide) (fun c_12 => ?_) (fun c_12 => ?_)
      · refine lv_iload_n hx hb d_S_missAt_53 rfl (lv_at hl 3 rfl) ?_
        exact W.iret hx hb hr (fun t9 ht hW => ⟨_, rfl, (by rw [← gj_out hm9 hj1 c_12]), ht⟩) t_nil2 d_S_missAt_54
      · refine lv_aload_n hx hb d_S_missAt_15 rfl (lv_at hl 1 rfl) ?_
        refine lv_iload_n hx hb d_S_missAt_16 rfl (lv_at hl 2 rfl) ?_
        refine lv_iload hx hb d_S_missAt_17 (lv_at hl 4 rfl) ?_
        refine lv_iadd hx hb d_S_missAt_19 ?_
        refine vp_callSi (va_Run.run (va_runV (As := [.int ((nI pp) + (nI j))]) (rest := []) ⟨hx, hb, hml, hown, hg⟩ (c_R_depthAt_ok l D cI cZ cJ cO r0 da ga n d g (by omega) ((nI pp) + (nI j))) (cwV 1 hg (gv g_496 g_266 g_267 g_23 g_268) rfl rfl rfl (by decide +kernel) ⟨Nat.le_of_ble_eq_true rfl, Nat.le_of_ble_eq_true rfl⟩) (pV (hP.sub [2, 3, 4] rfl) hK hN (va_recv hK (hP.sub [2, 3, 4] rfl) (ci := 2) (q0 := 0) rfl rfl)) rfl rfl hl.1 rfl (lv_room (Nat.le_of_ble_eq_true rfl)) d_S_missAt_20 ⟨Nat.zero_le _, Nat.zero_le _⟩)) (fun r_1 hr_1 => ?_)
        subst hr_1
        refine lv_istore (lv' := [(5, .int (dpt n d ((nI pp) + (nI j)).toInt)), (0, .ref h0), (1, .ref r0), (2, .int (nI pp)), (3, .int (mss n d f pp j)), (4, .int (nI j))]) hx hb d_S_missAt_23 hl (by decide) rfl (fun ls hl => ?_)
        refine lv_iload hx hb d_S_missAt_25 (lv_at hl 0 rfl) ?_
        refine lv_iconst (v := (-1)) hx hb d_S_missAt_27 (by decide) ?_
        refine lv_icmp_eq (tgt := 47) hx hb d_S_missAt_28 (by decide) (fun c_28 => ?_) (fun c_28 => ?_)
        · refine lv_iinc (v := (nI j) + 1) (lv' := [(4, .int ((nI j) + 1)), (5, .int (dpt n d ((nI pp) + (nI j)).toInt)), (0, .ref h0), (1, .ref r0), (2, .int (nI pp)), (3, .int (mss n d f pp j))]) hx hb d_S_missAt_47 hl (k := 5) rfl rfl (by decide) rfl (fun ls hl => ?_)
          refine lv_goto (tgt := 5) hx hb d_S_missAt_50 (by decide) ?_
          exact ih5 (j + 1) (mss n d f pp j) ((nI j) + 1) ls (⟨by have := gj_in hm9 hj1 c_12; omega, by omega, (by first | exact ms_1 hpp (by omega) c_28 | exact ms_2 hpp (by omega) c_28), nI_1 j⟩) (lv_sub hl [2, 3, 4, 5, 0] rfl)
        · refine lv_iload_n hx hb d_S_missAt_31 rfl (lv_at hl 4 rfl) ?_
          refine lv_aload_n hx hb d_S_missAt_32 rfl (lv_at hl 1 rfl) ?_
          refine va_get (D := D) (ci := 4) (v := .ref sa) (C := Q_S) (T := F_S) (N := 1) hx hb hg in_S hown hK hP 0 rfl rfl 0 (by decide) (hg _ g_390) (fun _ h9 => h9) rfl d_S_missAt_33 ?_
          refine lv_iload hx hb d_S_missAt_36 (lv_at hl 5 rfl) ?_
          refine va_iald hx hb hK hP 1 0 rfl rfl (gj_v hm9 hj1 c_12) d_S_missAt_38 ?_
          refine lv_iload hx hb d_S_missAt_39 (lv_at hl 0 rfl) ?_
          refine lv_isub hx hb d_S_missAt_41 ?_
          refine va_mabs hx hb (by rw [hml]; exact hl.1.symm) hown (hg _ g_505) (hg _ g_506) (hg _ g_24) (hg _ g_507) (Nat.le_of_ble_eq_true rfl) (Nat.le_of_ble_eq_true rfl) (Nat.le_of_ble_eq_true rfl) (Nat.le_of_ble_eq_true rfl) d_S_missAt_42 ?_
          refine lv_iadd hx hb d_S_missAt_45 ?_
          refine lv_istore_n (lv' := [(3, .int ((mss n d f pp j) + (if 0 ≤ ((f (nI j).toNatClampNeg) - (dpt n d ((nI pp) + (nI j)).toInt)) then ((f (nI j).toNatClampNeg) - (dpt n d ((nI pp) + (nI j)).toInt)) else 0 - ((f (nI j).toNatClampNeg) - (dpt n d ((nI pp) + (nI j)).toInt))))), (5, .int (dpt n d ((nI pp) + (nI j)).toInt)), (0, .ref h0), (1, .ref r0), (2, .int (nI pp)), (4, .int (nI j))]) hx hb d_S_missAt_46 rfl hl (by decide) rfl (fun ls hl => ?_)
          refine lv_iinc (v := (nI j) + 1) (lv' := [(4, .int ((nI j) + 1)), (3, .int ((mss n d f pp j) + (if 0 ≤ ((f (nI j).toNatClampNeg) - (dpt n d ((nI pp) + (nI j)).toInt)) then ((f (nI j).toNatClampNeg) - (dpt n d ((nI pp) + (nI j)).toInt)) else 0 - ((f (nI j).toNatClampNeg) - (dpt n d ((nI pp) + (nI j)).toInt))))), (5, .int (dpt n d ((nI pp) + (nI j)).toInt)), (0, .ref h0), (1, .ref r0), (2, .int (nI pp))]) hx hb d_S_missAt_47 hl (k := 5) rfl rfl (by decide) rfl (fun ls hl => ?_)
          refine lv_goto (tgt := 5) hx hb d_S_missAt_50 (by decide) ?_
          exact ih5 (j + 1) ((mss n d f pp j) + (if 0 ≤ ((f (nI j).toNatClampNeg) - (dpt n d ((nI pp) + (nI j)).toInt)) then ((f (nI j).toNatClampNeg) - (dpt n d ((nI pp) + (nI j)).toInt)) else 0 - ((f (nI j).toNatClampNeg) - (dpt n d ((nI pp) + (nI j)).toInt)))) ((nI j) + 1) ls (⟨by have := gj_in hm9 hj1 c_12; omega, by omega, (by first | exact ms_1 hpp (by omega) c_28 | exact ms_2 hpp (by omega) c_28), nI_1 j⟩) (lv_sub hl [3, 4, 5, 1, 0] rfl)
  exact loop_5 (m9 + 1) 0 0 0 ls (⟨by omega, by omega, rfl, rfl⟩) (lv_sub hl [2, 3, 4, 1, 0] rfl)


/-- a question's bit is set -/
def bit (x q : Int32) : Bool := decide ((x >>> (q &&& 31)) &&& 1 = 1)
theorem nq_1 {a : Int32} (h : ¬ a = -1) : (1 : Int32) = bI (decide (a ≠ -1)) := by simp [bI, h]
theorem nq_2 {a : Int32} (h : a = -1) : (0 : Int32) = bI (decide (a ≠ -1)) := by simp [bI, h]
theorem na_1 {a x : Int32} (h : ¬ bI (decide (a ≠ -1)) = 0) (h1 : (x >>> (a &&& 31)) &&& 1 = 1) : (1 : Int32) = bI (decide (a ≠ -1) && bit x a) := by
  have := of_decide_eq_true (bI_ne0 h)
  simp [bI, bit, this, h1]
theorem na_2 {a x : Int32} (h : bI (decide (a ≠ -1)) = 0) : (0 : Int32) = bI (decide (a ≠ -1) && bit x a) := by rw [bI_eq0 h]; rfl
theorem na_3 {a x : Int32} (h1 : ¬ (x >>> (a &&& 31)) &&& 1 = 1) : (0 : Int32) = bI (decide (a ≠ -1) && bit x a) := by
  rw [show bit x a = false by simp [bit, h1], Bool.and_false]; rfl
theorem nn_1 {a x u v : Int32} (h1 : (x >>> (a &&& 31)) &&& 1 = 1) : u = if bit x a then u else v := by rw [if_pos (by simp [bit, h1])]
theorem nn_2 {a x u v : Int32} (h1 : ¬ (x >>> (a &&& 31)) &&& 1 = 1) : v = if bit x a then u else v := by rw [if_neg (by simp [bit, h1])]

set_option maxHeartbeats 4000000 in
set_option maxRecDepth 100000 in
/-- Node(..) -/
theorem c_N_init_ok (l : Launch) (D : va_G) (cI cZ cJ cO : ClassId) (sz : Nat) (h0 : Nat) (na nb nc ne : Int32) : Met l y_N_init (wq y_N_init c_N_init 5 none) ({ frames := 1, cells := 0, slots := 0, locals := 24 }) (mP D (TY cI cZ cJ cO) [(h0, .inr (5, [.int 0, .int 0, .int 0, .int 0]))] [.ref h0, .int na, .int nb, .int nc, .int ne] sz) (va_Qv (fun (u : va_W) => u = [(h0, .inr (5, [.int na, .int nb, .int nc, .int ne]))]) (mB D (TY cI cZ cJ cO) (va_A [(h0, .inr (5, [.int 0, .int 0, .int 0, .int 0]))] sz)) (va_A [(h0, .inr (5, [.int 0, .int 0, .int 0, .int 0]))] sz)) 0 0 (va_A [(h0, .inr (5, [.int 0, .int 0, .int 0, .int 0]))] sz) := by
  refine Met.ofW (cc := c_N_init) (maxL := 5) (ret := none) (by decide) rfl ?_
  intro p e s m args below meth c s₁ B hml hv
  obtain ⟨rfl, hsz, hP, hK, hD0, hN⟩ := hv
  have hx := B.exec
  have hb := B.bytes
  have hr := B.returns
  have hg := gt_h (atoms_spec (ws := (wq y_N_init c_N_init 5 none)) B.pre)
  have hown : s.vm.findClass "RubbingMirrors$Node" = some m.cls := findClass_of_methodNamed B.named
  have hlocks := B.notSynchronized
  have hin : meth.name = "<init>" := (name_of_methodNamed B.named B.method).1
  subst hsz
  have hD := hD0.self (sz := s.heap.size)
  generalize hAe : va_A [(h0, .inr (5, [.int 0, .int 0, .int 0, .int 0]))] s.heap.size = A at hD ⊢
  have hA : ∀ q : Nat, s.heap.size ≤ q → A q := fun q h => by rw [← hAe]; exact Or.inr h
  have hS : va_S A s.heap s.heap [] := va_S.rf
  have hl := lv_entry ([.ref h0, .int na, .int nb, .int nc, .int ne]) (n := 5) (Nat.le_of_ble_eq_true rfl)
  rw [lg_entry_eq]
  generalize (lg_sl ([.ref h0, .int na, .int nb, .int nc, .int ne]) ++ List.replicate (5 - (lg_sl ([.ref h0, .int na, .int nb, .int nc, .int ne])).length) Slot.unset).toArray = ls at hl ⊢
  have hl : lv_has ls 5 [(0, .ref h0), (1, .int na), (2, .int nb), (3, .int nc), (4, .int ne)] := hl
  refine lv_aload_n hx hb d_N_init_0 rfl (lv_at hl 0 rfl) ?_
  refine W.objInit hx hb hown (hg _ g_523) (hg _ g_46) (hg _ g_47) rfl (by rw [hml]; exact hl.1) rfl d_N_init_1 (Nat.le_of_ble_eq_true rfl) (Nat.le_of_ble_eq_true rfl) ?_
  refine W.eq (g2 := F0 m 4 ls []) rfl ?_
  refine lv_aload_n hx hb d_N_init_4 rfl (lv_at hl 0 rfl) ?_
  refine lv_iload_n hx hb d_N_init_5 rfl (lv_at hl 1 rfl) ?_
  refine va_putF (D := D) (ci := 5) (v := .int na) (ty := .int) (C := Q_N) (T := F_N) (N := 4) hx hb hg in_N tq_N tq_N_ok n_N hown hK hP hD hS 0 rfl rfl 0 (by decide) (hg _ g_524) (fun _ h9 => h9) rfl hin rfl (by decide +kernel) rfl rfl (Nat.le_of_ble_eq_true rfl) d_N_init_6 (fun H locs hP hD hS => ?_)
  have hP : va_P D cls [(h0, .inr (5, [.int na, .int 0, .int 0, .int 0]))] H := hP
  have hD : va_D A [(h0, .inr (5, [.int na, .int 0, .int 0, .int 0]))] := hD
  refine lv_aload_n hx hb d_N_init_9 rfl (lv_at hl 0 rfl) ?_
  refine lv_iload_n hx hb d_N_init_10 rfl (lv_at hl 2 rfl) ?_
  refine va_putF (D := D) (ci := 5) (v := .int nb) (ty := .int) (C := Q_N) (T := F_N) (N := 4) hx hb hg in_N tq_N tq_N_ok n_N hown hK hP hD hS 0 rfl rfl 1 (by decide) (hg _ g_526) (fun _ h9 => h9) rfl hin rfl (by decide +kernel) rfl rfl (Nat.le_of_ble_eq_true rfl) d_N_init_11 (fun H locs hP hD hS => ?_)
  have hP : va_P D cls [(h0, .inr (5, [.int na, .int nb, .int 0, .int 0]))] H := hP
  have hD : va_D A [(h0, .inr (5, [.int na, .int nb, .int 0, .int 0]))] := hD
  refine lv_aload_n hx hb d_N_init_14 rfl (lv_at hl 0 rfl) ?_
  refine lv_iload_n hx hb d_N_init_15 rfl (lv_at hl 3 rfl) ?_
  refine va_putF (D := D) (ci := 5) (v := .int nc) (ty := .int) (C := Q_N) (T := F_N) (N := 4) hx hb hg in_N tq_N tq_N_ok n_N hown hK hP hD hS 0 rfl rfl 2 (by decide) (hg _ g_528) (fun _ h9 => h9) rfl hin rfl (by decide +kernel) rfl rfl (Nat.le_of_ble_eq_true rfl) d_N_init_16 (fun H locs hP hD hS => ?_)
  have hP : va_P D cls [(h0, .inr (5, [.int na, .int nb, .int nc, .int 0]))] H := hP
  have hD : va_D A [(h0, .inr (5, [.int na, .int nb, .int nc, .int 0]))] := hD
  refine lv_aload_n hx hb d_N_init_19 rfl (lv_at hl 0 rfl) ?_
  refine lv_iload hx hb d_N_init_20 (lv_at hl 4 rfl) ?_
  refine va_putF (D := D) (ci := 5) (v := .int ne) (ty := .int) (C := Q_N) (T := F_N) (N := 4) hx hb hg in_N tq_N tq_N_ok n_N hown hK hP hD hS 0 rfl rfl 3 (by decide) (hg _ g_529) (fun _ h9 => h9) rfl hin rfl (by decide +kernel) rfl rfl (Nat.le_of_ble_eq_true rfl) d_N_init_22 (fun H locs hP hD hS => ?_)
  have hP : va_P D cls [(h0, .inr (5, [.int na, .int nb, .int nc, .int ne]))] H := hP
  have hD : va_D A [(h0, .inr (5, [.int na, .int nb, .int nc, .int ne]))] := hD
  exact W.vret hx hb hr (fun t9 ht hW => ⟨⟨[(h0, .inr (5, [.int na, .int nb, .int nc, .int ne]))], rfl, rfl, by rw [ht]; exact hP, va_K.moved hW.alike hK, hD⟩, hS.F ht⟩) hS.2.2 d_N_init_25

set_option maxHeartbeats 4000000 in
set_option maxRecDepth 100000 in
/-- Node.isQuestion() -/
theorem c_N_isQuestion_ok (l : Launch) (D : va_G) (cI cZ cJ cO : ClassId) (h0 : Nat) (na nb nc ne : Int32) : Met l y_N_isQuestion (wq y_N_isQuestion c_N_isQuestion 1 (some .boolean)) ({ frames := 0, cells := 0, slots := 0, locals := 0 }) (rP D (TY cI cZ cJ cO) [(h0, .inr (5, [.int na, .int nb, .int nc, .int ne]))] [.ref h0]) (vp_Si (fun r => r = bI (decide (na ≠ -1)))) 0 0 (fun _ => False) := by
  refine Met.ofW (cc := c_N_isQuestion) (maxL := 1) (ret := (some .boolean)) (by decide) rfl ?_
  intro p e s m args below meth c s₁ B hml hv
  obtain ⟨rfl, hP, hK, hN⟩ := hv
  have hx := B.exec
  have hb := B.bytes
  have hr := B.returns
  have hg := gt_h (atoms_spec (ws := (wq y_N_isQuestion c_N_isQuestion 1 (some .boolean))) B.pre)
  have hown : s.vm.findClass "RubbingMirrors$Node" = some m.cls := findClass_of_methodNamed B.named
  have hlocks := B.notSynchronized
  have hl := lv_entry ([.ref h0]) (n := 1) (Nat.le_of_ble_eq_true rfl)
  rw [lg_entry_eq]
  generalize (lg_sl ([.ref h0]) ++ List.replicate (1 - (lg_sl ([.ref h0])).length) Slot.unset).toArray = ls at hl ⊢
  have hl : lv_has ls 1 [(0, .ref h0)] := hl
  refine lv_aload_n hx hb d_N_isQuestion_0 rfl (lv_at hl 0 rfl) ?_
  refine va_get (D := D) (ci := 5) (v := .int na) (C := Q_N) (T := F_N) (N := 4) hx hb hg in_N hown hK hP 0 rfl rfl 0 (by decide) (hg _ g_524) (fun _ h9 => h9) rfl d_N_isQuestion_1 ?_
  refine lv_iconst (v := (-1)) hx hb d_N_isQuestion_4 (by decide) ?_
  refine lv_icmp_eq (tgt := 12) hx hb d_N_isQuestion_5 (by decide) (fun c_5 => ?_) (fun c_5 => ?_)
  · refine lv_iconst (v := 0) hx hb d_N_isQuestion_12 (by decide) ?_
    exact W.zret hx hb hr (by decide) (fun t9 ht hW => ⟨_, rfl, (by first | exact nq_1 c_5 | exact nq_2 c_5), ht⟩) t_nil2 d_N_isQuestion_13
  · refine lv_iconst (v := 1) hx hb d_N_isQuestion_8 (by decide) ?_
    refine lv_goto (tgt := 13) hx hb d_N_isQuestion_9 (by decide) ?_
    exact W.zret hx hb hr (by decide) (fun t9 ht hW => ⟨_, rfl, (by first | exact nq_1 c_5 | exact nq_2 c_5), ht⟩) t_nil2 d_N_isQuestion_13

set_option maxHeartbeats 4000000 in
set_option maxRecDepth 100000 in
/-- Node.isAnsweredBy(k) -/
theorem c_N_isAnsweredBy_ok (l : Launch) (D : va_G) (cI cZ cJ cO : ClassId) (h0 : Nat) (na nb nc ne : Int32) (k : Int32) : Met l y_N_isAnsweredBy (wq y_N_isAnsweredBy c_N_isAnsweredBy 2 (some .boolean)) ({ frames := 1, cells := 0, slots := 0, locals := 20 }) (rP D (TY cI cZ cJ cO) [(h0, .inr (5, [.int na, .int nb, .int nc, .int ne]))] [.ref h0, .int k]) (vp_Si (fun r => r = bI (decide (na ≠ -1) && bit k na))) 0 0 (fun _ => False) := by
  refine Met.ofW (cc := c_N_isAnsweredBy) (maxL := 2) (ret := (some .boolean)) (by decide) rfl ?_
  intro p e s m args below meth c s₁ B hml hv
  obtain ⟨rfl, hP, hK, hN⟩ := hv
  have hx := B.exec
  have hb := B.bytes
  have hr := B.returns
  have hg := gt_h (atoms_spec (ws := (wq y_N_isAnsweredBy c_N_isAnsweredBy 2 (some .boolean))) B.pre)
  have hown : s.vm.findClass "RubbingMirrors$Node" = some m.cls := findClass_of_methodNamed B.named
  have hlocks := B.notSynchronized
  have hl := lv_entry ([.ref h0, .int k]) (n := 2) (Nat.le_of_ble_eq_true rfl)
  rw [lg_entry_eq]
  generalize (lg_sl ([.ref h0, .int k]) ++ List.replicate (2 - (lg_sl ([.ref h0, .int k])).length) Slot.unset).toArray = ls at hl ⊢
  have hl : lv_has ls 2 [(0, .ref h0), (1, .int k)] := hl
  refine lv_aload_n hx hb d_N_isAnsweredBy_0 rfl (lv_at hl 0 rfl) ?_
  refine vp_callSi (va_Run.run (va_runV (As := []) (rest := []) ⟨hx, hb, hml, hown, hg⟩ (c_N_isQuestion_ok l D cI cZ cJ cO h0 na nb nc ne) (cwV 0 hg (gv g_570 g_571 g_572 g_38 g_573) rfl rfl rfl (by decide +kernel) ⟨Nat.le_of_ble_eq_true rfl, Nat.le_of_ble_eq_true rfl⟩) (pV hP hK hN (va_recv hK hP (ci := 5) (q0 := 0) rfl rfl)) rfl rfl hl.1 rfl (lv_room (Nat.le_of_ble_eq_true rfl)) d_N_isAnsweredBy_1 ⟨Nat.zero_le _, Nat.zero_le _⟩)) (fun r_1 hr_1 => ?_)
  subst hr_1
  refine lv_if_eq (tgt := 23) hx hb d_N_isAnsweredBy_4 (by decide) (fun c_4 => ?_) (fun c_4 => ?_)
  · refine lv_iconst (v := 0) hx hb d_N_isAnsweredBy_23 (by decide) ?_
    exact W.zret hx hb hr (by decide) (fun t9 ht hW => ⟨_, rfl, (by first | exact na_1 c_4 c_16 | exact na_2 c_4 | exact na_3 c_16), ht⟩) t_nil2 d_N_isAnsweredBy_24
  · refine lv_iload_n hx hb d_N_isAnsweredBy_7 rfl (lv_at hl 1 rfl) ?_
    refine lv_aload_n hx hb d_N_isAnsweredBy_8 rfl (lv_at hl 0 rfl) ?_
    refine va_get (D := D) (ci := 5) (v := .int na) (C := Q_N) (T := F_N) (N := 4) hx hb hg in_N hown hK hP 0 rfl rfl 0 (by decide) (hg _ g_524) (fun _ h9 => h9) rfl d_N_isAnsweredBy_9 ?_
    refine lv_ishr hx hb d_N_isAnsweredBy_12 ?_
    refine lv_iconst (v := 1) hx hb d_N_isAnsweredBy_13 (by decide) ?_
    refine lv_iand hx hb d_N_isAnsweredBy_14 ?_
    refine lv_iconst (v := 1) hx hb d_N_isAnsweredBy_15 (by decide) ?_
    refine lv_icmp_ne (tgt := 23) hx hb d_N_isAnsweredBy_16 (by decide) (fun c_16 => ?_) (fun c_16 => ?_)
    · refine lv_iconst (v := 0) hx hb d_N_isAnsweredBy_23 (by decide) ?_
      exact W.zret hx hb hr (by decide) (fun t9 ht hW => ⟨_, rfl, (by first | exact na_1 c_4 c_16 | exact na_2 c_4 | exact na_3 c_16), ht⟩) t_nil2 d_N_isAnsweredBy_24
    · refine lv_iconst (v := 1) hx hb d_N_isAnsweredBy_19 (by decide) ?_
      refine lv_goto (tgt := 24) hx hb d_N_isAnsweredBy_20 (by decide) ?_
      exact W.zret hx hb hr (by decide) (fun t9 ht hW => ⟨_, rfl, (by first | exact na_1 c_4 c_16 | exact na_2 c_4 | exact na_3 c_16), ht⟩) t_nil2 d_N_isAnsweredBy_24

set_option maxHeartbeats 4000000 in
set_option maxRecDepth 100000 in
/-- Node.nextBy(k) -/
theorem c_N_nextBy_ok (l : Launch) (D : va_G) (cI cZ cJ cO : ClassId) (h0 : Nat) (na nb nc ne : Int32) (k : Int32) : Met l y_N_nextBy (wq y_N_nextBy c_N_nextBy 2 (some .int)) ({ frames := 0, cells := 0, slots := 0, locals := 0 }) (rP D (TY cI cZ cJ cO) [(h0, .inr (5, [.int na, .int nb, .int nc, .int ne]))] [.ref h0, .int k]) (vp_Si (fun r => r = if bit k na then ne else nc)) 0 0 (fun _ => False) := by
  refine Met.ofW (cc := c_N_nextBy) (maxL := 2) (ret := (some .int)) (by decide) rfl ?_
  intro p e s m args below meth c s₁ B hml hv
  obtain ⟨rfl, hP, hK, hN⟩ := hv
  have hx := B.exec
  have hb := B.bytes
  have hr := B.returns
  have hg := gt_h (atoms_spec (ws := (wq y_N_nextBy c_N_nextBy 2 (some .int))) B.pre)
  have hown : s.vm.findClass "RubbingMirrors$Node" = some m.cls := findClass_of_methodNamed B.named
  have hlocks := B.notSynchronized
  have hl := lv_entry ([.ref h0, .int k]) (n := 2) (Nat.le_of_ble_eq_true rfl)
  rw [lg_entry_eq]
  generalize (lg_sl ([.ref h0, .int k]) ++ List.replicate (2 - (lg_sl ([.ref h0, .int k])).length) Slot.unset).toArray = ls at hl ⊢
  have hl : lv_has ls 2 [(0, .ref h0), (1, .int k)] := hl
  refine lv_iload_n hx hb d_N_nextBy_0 rfl (lv_at hl 1 rfl) ?_
  refine lv_aload_n hx hb d_N_nextBy_1 rfl (lv_at hl 0 rfl) ?_
  refine va_get (D := D) (ci := 5) (v := .int na) (C := Q_N) (T := F_N) (N := 4) hx hb hg in_N hown hK hP 0 rfl rfl 0 (by decide) (hg _ g_524) (fun _ h9 => h9) rfl d_N_nextBy_2 ?_
  refine lv_ishr hx hb d_N_nextBy_5 ?_
  refine lv_iconst (v := 1) hx hb d_N_nextBy_6 (by decide) ?_
  refine lv_iand hx hb d_N_nextBy_7 ?_
  refine lv_iconst (v := 1) hx hb d_N_nextBy_8 (by decide) ?_
  refine lv_icmp_ne (tgt := 19) hx hb d_N_nextBy_9 (by decide) (fun c_9 => ?_) (fun c_9 => ?_)
  · refine lv_aload_n hx hb d_N_nextBy_19 rfl (lv_at hl 0 rfl) ?_
    refine va_get (D := D) (ci := 5) (v := .int nc) (C := Q_N) (T := F_N) (N := 4) hx hb hg in_N hown hK hP 0 rfl rfl 2 (by decide) (hg _ g_528) (fun _ h9 => h9) rfl d_N_nextBy_20 ?_
    exact W.iret hx hb hr (fun t9 ht hW => ⟨_, rfl, (by first | exact nn_1 c_9 | exact nn_2 c_9), ht⟩) t_nil2 d_N_nextBy_23
  · refine lv_aload_n hx hb d_N_nextBy_12 rfl (lv_at hl 0 rfl) ?_
    refine va_get (D := D) (ci := 5) (v := .int ne) (C := Q_N) (T := F_N) (N := 4) hx hb hg in_N hown hK hP 0 rfl rfl 3 (by decide) (hg _ g_529) (fun _ h9 => h9) rfl d_N_nextBy_13 ?_
    refine lv_goto (tgt := 23) hx hb d_N_nextBy_16 (by decide) ?_
    exact W.iret hx hb hr (fun t9 ht hW => ⟨_, rfl, (by first | exact nn_1 c_9 | exact nn_2 c_9), ht⟩) t_nil2 d_N_nextBy_23

set_option maxHeartbeats 4000000 in
set_option maxRecDepth 100000 in
/-- Rule(..) -/
theorem c_U_init_ok (l : Launch) (D : va_G) (cI cZ cJ cO : ClassId) (sz : Nat) (h0 : Nat) (uf ut ul ug uy uu : Int32) : Met l y_U_init (wq y_U_init c_U_init 7 none) ({ frames := 1, cells := 0, slots := 0, locals := 24 }) (mP D (TY cI cZ cJ cO) [(h0, .inr (6, [.int 0, .int 0, .int 0, .int 0, .int 0, .int 0]))] [.ref h0, .int uf, .int ut, .int ul, .int ug, .int uy, .int uu] sz) (va_Qv (fun (u : va_W) => u = [(h0, .inr (6, [.int uf, .int ut, .int ul, .int ug, .int uy, .int uu]))]) (mB D (TY cI cZ cJ cO) (va_A [(h0, .inr (6, [.int 0, .int 0, .int 0, .int 0, .int 0, .int 0]))] sz)) (va_A [(h0, .inr (6, [.int 0, .int 0, .int 0, .int 0, .int 0, .int 0]))] sz)) 0 0 (va_A [(h0, .inr (6, [.int 0, .int 0, .int 0, .int 0, .int 0, .int 0]))] sz) := by
  refine Met.ofW (cc := c_U_init) (maxL := 7) (ret := none) (by decide) rfl ?_
  intro p e s m args below meth c s₁ B hml hv
  obtain ⟨rfl, hsz, hP, hK, hD0, hN⟩ := hv
  have hx := B.exec
  have hb := B.bytes
  have hr := B.returns
  have hg := gt_h (atoms_spec (ws := (wq y_U_init c_U_init 7 none)) B.pre)
  have hown : s.vm.findClass "RubbingMirrors$Rule" = some m.cls := findClass_of_methodNamed B.named
  have hlocks := B.notSynchronized
  have hin : meth.name = "<init>" := (name_of_methodNamed B.named B.method).1
  subst hsz
  have hD := hD0.self (sz := s.heap.size)
  generalize hAe : va_A [(h0, .inr (6, [.int 0, .int 0, .int 0, .int 0, .int 0, .int 0]))] s.heap.size = A at hD ⊢
  have hA : ∀ q : Nat, s.heap.size ≤ q → A q := fun q h => by rw [← hAe]; exact Or.inr h
  have hS : va_S A s.heap s.heap [] := va_S.rf
  have hl := lv_entry ([.ref h0, .int uf, .int ut, .int ul, .int ug, .int uy, .int uu]) (n := 7) (Nat.le_of_ble_eq_true rfl)
  rw [lg_entry_eq]
  generalize (lg_sl ([.ref h0, .int uf, .int ut, .int ul, .int ug, .int uy, .int uu]) ++ List.replicate (7 - (lg_sl ([.ref h0, .int uf, .int ut, .int ul, .int ug, .int uy, .int uu])).length) Slot.unset).toArray = ls at hl ⊢
  have hl : lv_has ls 7 [(0, .ref h0), (1, .int uf), (2, .int ut), (3, .int ul), (4, .int ug), (5, .int uy), (6, .int uu)] := hl
  refine lv_aload_n hx hb d_U_init_0 rfl (lv_at hl 0 rfl) ?_
  refine W.objInit hx hb hown (hg _ g_596) (hg _ g_46) (hg _ g_47) rfl (by rw [hml]; exact hl.1) rfl d_U_init_1 (Nat.le_of_ble_eq_true rfl) (Nat.le_of_ble_eq_true rfl) ?_
  refine W.eq (g2 := F0 m 4 ls []) rfl ?_
  refine lv_aload_n hx hb d_U_init_4 rfl (lv_at hl 0 rfl) ?_
  refine lv_iload_n hx hb d_U_init_5 rfl (lv_at hl 1 rfl) ?_
  refine va_putF (D := D) (ci := 6) (v := .int uf) (ty := .int) (C := Q_U) (T := F_U) (N := 6) hx hb hg in_U tq_U tq_U_ok n_U hown hK hP hD hS 0 rfl rfl 0 (by decide) (hg _ g_597) (fun _ h9 => h9) rfl hin rfl (by decide +kernel) rfl rfl (Nat.le_of_ble_eq_true rfl) d_U_init_6 (fun H locs hP hD hS => ?_)
  have hP : va_P D cls [(h0, .inr (6, [.int uf, .int 0, .int 0, .int 0, .int 0, .int 0]))] H := hP
  have hD : va_D A [(h0, .inr (6, [.int uf, .int 0, .int 0, .int 0, .int 0, .int 0]))] := hD
  refine lv_aload_n hx hb d_U_init_9 rfl (lv_at hl 0 rfl) ?_
  refine lv_iload_n hx hb d_U_init_10 rfl (lv_at hl 2 rfl) ?_
  refine va_putF (D := D) (ci := 6) (v := .int ut) (ty := .int) (C := Q_U) (T := F_U) (N := 6) hx hb hg in_U tq_U tq_U_ok n_U hown hK hP hD hS 0 rfl rfl 1 (by decide) (hg _ g_598) (fun _ h9 => h9) rfl hin rfl (by decide +kernel) rfl rfl (Nat.le_of_ble_eq_true rfl) d_U_init_11 (fun H locs hP hD hS => ?_)
  have hP : va_P D cls [(h0, .inr (6, [.int uf, .int ut, .int 0, .int 0, .int 0, .int 0]))] H := hP
  have hD : va_D A [(h0, .inr (6, [.int uf, .int ut, .int 0, .int 0, .int 0, .int 0]))] := hD
  refine lv_aload_n hx hb d_U_init_14 rfl (lv_at hl 0 rfl) ?_
  refine lv_iload_n hx hb d_U_init_15 rfl (lv_at hl 3 rfl) ?_
  refine va_putF (D := D) (ci := 6) (v := .int ul) (ty := .int) (C := Q_U) (T := F_U) (N := 6) hx hb hg in_U tq_U tq_U_ok n_U hown hK hP hD hS 0 rfl rfl 2 (by decide) (hg _ g_599) (fun _ h9 => h9) rfl hin rfl (by decide +kernel) rfl rfl (Nat.le_of_ble_eq_true rfl) d_U_init_16 (fun H locs hP hD hS => ?_)
  have hP : va_P D cls [(h0, .inr (6, [.int uf, .int ut, .int ul, .int 0, .int 0, .int 0]))] H := hP
  have hD : va_D A [(h0, .inr (6, [.int uf, .int ut, .int ul, .int 0, .int 0, .int 0]))] := hD
  refine lv_aload_n hx hb d_U_init_19 rfl (lv_at hl 0 rfl) ?_
  refine lv_iload hx hb d_U_init_20 (lv_at hl 4 rfl) ?_
  refine va_putF (D := D) (ci := 6) (v := .int ug) (ty := .int) (C := Q_U) (T := F_U) (N := 6) hx hb hg in_U tq_U tq_U_ok n_U hown hK hP hD hS 0 rfl rfl 3 (by decide) (hg _ g_600) (fun _ h9 => h9) rfl hin rfl (by decide +kernel) rfl rfl (Nat.le_of_ble_eq_true rfl) d_U_init_22 (fun H locs hP hD hS => ?_)
  have hP : va_P D cls [(h0, .inr (6, [.int uf, .int ut, .int ul, .int ug, .int 0, .int 0]))] H := hP
  have hD : va_D A [(h0, .inr (6, [.int uf, .int ut, .int ul, .int ug, .int 0, .int 0]))] := hD
  refine lv_aload_n hx hb d_U_init_25 rfl (lv_at hl 0 rfl) ?_
  refine lv_iload hx hb d_U_init_26 (lv_at hl 5 rfl) ?_
  refine va_putF (D := D) (ci := 6) (v := .int uy) (ty := .int) (C := Q_U) (T := F_U) (N := 6) hx hb hg in_U tq_U tq_U_ok n_U hown hK hP hD hS 0 rfl rfl 4 (by decide) (hg _ g_601) (fun _ h9 => h9) rfl hin rfl (by decide +kernel) rfl rfl (Nat.le_of_ble_eq_true rfl) d_U_init_28 (fun H locs hP hD hS => ?_)
  have hP : va_P D cls [(h0, .inr (6, [.int uf, .int ut, .int ul, .int ug, .int uy, .int 0]))] H := hP
  have hD : va_D A [(h0, .inr (6, [.int uf, .int ut, .int ul, .int ug, .int uy, .int 0]))] := hD
  refine lv_aload_n hx hb d_U_init_31 rfl (lv_at hl 0 rfl) ?_
  refine lv_iload hx hb d_U_init_32 (lv_at hl 6 rfl) ?_
  refine va_putF (D := D) (ci := 6) (v := .int uu) (ty := .int) (C := Q_U) (T := F_U) (N := 6) hx hb hg in_U tq_U tq_U_ok n_U hown hK hP hD hS 0 rfl rfl 5 (by decide) (hg _ g_603) (fun _ h9 => h9) rfl hin rfl (by decide +kernel) rfl rfl (Nat.le_of_ble_eq_true rfl) d_U_init_34 (fun H locs hP hD hS => ?_)
  have hP : va_P D cls [(h0, .inr (6, [.int uf, .int ut, .int ul, .int ug, .int uy, .int uu]))] H := hP
  have hD : va_D A [(h0, .inr (6, [.int uf, .int ut, .int ul, .int ug, .int uy, .int uu]))] := hD
  exact W.vret hx hb hr (fun t9 ht hW => ⟨⟨[(h0, .inr (6, [.int uf, .int ut, .int ul, .int ug, .int uy, .int uu]))], rfl, rfl, by rw [ht]; exact hP, va_K.moved hW.alike hK, hD⟩, hS.F ht⟩) hS.2.2 d_U_init_37


/-- the first j places of a rule from F on are within -/
def hol (n : Nat) (d : Nat → Int32) (lo hi : Int32) (F : Nat) : Nat → Bool
  | 0 => true
  | j + 1 => hol n d lo hi F j && iw (dpt n d ((F : Int) + j)) lo hi
theorem hol_f {n : Nat} {d : Nat → Int32} {lo hi : Int32} {F j : Nat} (h : hol n d lo hi F j = false) : ∀ k, hol n d lo hi F (j + k) = false
  | 0 => h
  | k + 1 => by rw [← Nat.add_assoc, hol, hol_f h k, Bool.false_and]
theorem ho_1 {n : Nat} {d : Nat → Int32} {lo hi : Int32} {F T j : Nat} (hF : F < 2 ^ 20) (hj : j < 2 ^ 20) (hl : F + j ≤ T) (h : bI (iw (dpt n d (nI (F + j)).toInt) lo hi) = 0) : (0 : Int32) = bI (hol n d lo hi F (T + 1 - F)) := by
  rw [nI_toInt (by omega)] at h
  have e : hol n d lo hi F (j + 1) = false := by rw [hol, show ((F : Int) + (j : Int)) = ((F + j : Nat) : Int) by omega, bI_eq0 h, Bool.and_false]
  have := hol_f e (T - (F + j))
  rw [show T + 1 - F = j + 1 + (T - (F + j)) by omega, this]; rfl
theorem ho_2 {n : Nat} {d : Nat → Int32} {lo hi : Int32} {F j : Nat} (hF : F < 2 ^ 20) (hj : j < 2 ^ 20) (hq : hol n d lo hi F j = true) (h : ¬ bI (iw (dpt n d (nI (F + j)).toInt) lo hi) = 0) : hol n d lo hi F (j + 1) = true := by
  rw [nI_toInt (by omega)] at h
  rw [hol, hq, show ((F : Int) + (j : Int)) = ((F + j : Nat) : Int) by omega, bI_ne0 h]; rfl
theorem hj_out {F T j : Nat} (hT : T + 1 < 2 ^ 20) (hj : j ≤ T + 1 - F) (hF : F ≤ T + 1) (c : nI T < nI (F + j)) : j = T + 1 - F := by
  have := (nI_ltI (by omega) (by omega)).mp c
  omega
theorem hj_in {F T j : Nat} (hT : T + 1 < 2 ^ 20) (hj : j ≤ T + 1 - F) (hF : F ≤ T + 1) (c : ¬ nI T < nI (F + j)) : F + j ≤ T := by
  rcases Nat.lt_or_ge T (F + j) with q | q
  · exact absurd (nI_lt q (by omega)) c
  · exact q

set_option maxHeartbeats 4000000 in
set_option maxRecDepth 100000 in
/-- Rule.holdsOn(row) -/
theorem c_U_holdsOn_ok (l : Launch) (D : va_G) (cI cZ cJ cO : ClassId) (h0 F T : Nat) (ul ug uy uu : Int32) (hT : T + 1 < 2 ^ 20) (hF : F ≤ T + 1) (r0 da ga : Nat) (n : Nat) (d g : Nat → Int32) (hn : n < 2 ^ 20) : Met l y_U_holdsOn (wq y_U_holdsOn c_U_holdsOn 3 (some .boolean)) ({ frames := 2, cells := 0, slots := 0, locals := 42 }) (rP D (TY cI cZ cJ cO) [(h0, .inr (6, [.int (nI F), .int (nI T), .int ul, .int ug, .int uy, .int uu])), (r0, .inr (2, [.ref da, .ref ga])), (da, .inl (cI, n, .inl d)), (ga, .inl (cZ, n, .inl g))] [.ref h0, .ref r0]) (vp_Si (fun r => r = bI (hol n d ul ug F (T + 1 - F)))) 0 0 (fun _ => False) := by
  refine Met.ofW (cc := c_U_holdsOn) (maxL := 3) (ret := (some .boolean)) (by decide) rfl ?_
  intro p e s m args below meth c s₁ B hml hv
  obtain ⟨rfl, hP, hK, hN⟩ := hv
  have hx := B.exec
  have hb := B.bytes
  have hr := B.returns
  have hg := gt_h (atoms_spec (ws := (wq y_U_holdsOn c_U_holdsOn 3 (some .boolean))) B.pre)
  have hown : s.vm.findClass "RubbingMirrors$Rule" = some m.cls := findClass_of_methodNamed B.named
  have hlocks := B.notSynchronized
  have hl := lv_entry ([.ref h0, .ref r0]) (n := 3) (Nat.le_of_ble_eq_true rfl)
  rw [lg_entry_eq]
  generalize (lg_sl ([.ref h0, .ref r0]) ++ List.replicate (3 - (lg_sl ([.ref h0, .ref r0])).length) Slot.unset).toArray = ls at hl ⊢
  have hl : lv_has ls 3 [(0, .ref h0), (1, .ref r0)] := hl
  refine lv_aload_n hx hb d_U_holdsOn_0 rfl (lv_at hl 0 rfl) ?_
  refine va_get (D := D) (ci := 6) (v := .int (nI F)) (C := Q_U) (T := F_U) (N := 6) hx hb hg in_U hown hK hP 0 rfl rfl 0 (by decide) (hg _ g_597) (fun _ h9 => h9) rfl d_U_holdsOn_1 ?_
  refine lv_istore_n (lv' := [(2, .int (nI F)), (0, .ref h0), (1, .ref r0)]) hx hb d_U_holdsOn_4 rfl hl (by decide) rfl (fun ls hl => ?_)
  have loop_5 : ∀ (f5 : Nat) (j : Nat) (x2 : Int32) (ls : Array Slot), (j ≤ T + 1 - F ∧ T + 1 < F + j + f5 ∧ x2 = nI (F + j) ∧ hol n d ul ug F j = true) → lv_has ls 3 [(0, .ref h0), (1, .ref r0), (2, .int x2)] → W p l e (headSpec (wq y_U_holdsOn c_U_holdsOn 3 (some .boolean)) ({ frames := 2, cells := 0, slots := 0, locals := 42 })).room s m ([.ref h0, .ref r0] : List Value).toArray below meth c s.heap [] 0 0 (MQ below (vp_Si (fun r => r = bI (hol n d ul ug F (T + 1 - F)))) ([.ref h0, .ref r0] : List Value).toArray s 0 0 (fun _ => False)) (F0 m 5 ls []) := by
    intro f5
    induction f5 with
    | zero =>
      intro j x2 ls hI hl
      obtain ⟨hj1, hj2, rfl, hq⟩ := hI
      omega
    | succ f5 ih5 =>
      intro j x2 ls hI hl
      obtain ⟨hj1, hj2, rfl, hq⟩ := hI
      refine lv_iload_n hx hb d_U_holdsOn_5 rfl (lv_at hl 2 rfl) ?_
      refine lv_aload_n hx hb d_U_holdsOn_6 rfl (lv_at hl 0 rfl) ?_
      refine va_get (D := D) (ci := 6) (v := .int (nI T)) (C := Q_U) (T := F_U) (N := 6) hx hb hg in_U hown hK hP 0 rfl rfl 1 (by decide) (hg _ g_598) (fun _ h9 => h9) rfl d_U_holdsOn_7 ?_
      refine lv_icmp_gt (tgt := 40) hx hb d_U_holdsOn_10 (by decide) (fun c_10 => ?_) (fun c_10 => ?_)
      · refine lv_iconst (v := 1) hx hb d_U_holdsOn_40 (by decide) ?_
        exact W.zret hx hb hr (by decide) (fun t9 ht hW => ⟨_, rfl, (by rw [← hj_out hT hj1 hF c_10, hq]; rfl), ht⟩) t_nil2 d_U_holdsOn_41
      · refine lv_aload_n hx hb d_U_holdsOn_13 rfl (lv_at hl 1 rfl) ?_
        refine lv_iload_n hx hb d_U_holdsOn_14 rfl (lv_at hl 2 rfl) ?_
        refine vp_callSi (va_Run.run (va_runV (As := [.int (nI (F + j))]) (rest := []) ⟨hx, hb, hml, hown, hg⟩ (c_R_depthAt_ok l D cI cZ cJ cO r0 da ga n d g (by omega) (nI (F + j))) (cwV 1 hg (gv g_629 g_266 g_267 g_23 g_268) rfl rfl rfl (by decide +kernel) ⟨Nat.le_of_ble_eq_true rfl, Nat.le_of_ble_eq_true rfl⟩) (pV (hP.sub [1, 2, 3] rfl) hK hN (va_recv hK (hP.sub [1, 2, 3] rfl) (ci := 2) (q0 := 0) rfl rfl)) rfl rfl hl.1 rfl (lv_room (Nat.le_of_ble_eq_true rfl)) d_U_holdsOn_15 ⟨Nat.zero_le _, Nat.zero_le _⟩)) (fun r_1 hr_1 => ?_)
        subst hr_1
        refine lv_aload_n hx hb d_U_holdsOn_18 rfl (lv_at hl 0 rfl) ?_
        refine va_get (D := D) (ci := 6) (v := .int ul) (C := Q_U) (T := F_U) (N := 6) hx hb hg in_U hown hK hP 0 rfl rfl 2 (by decide) (hg _ g_599) (fun _ h9 => h9) rfl d_U_holdsOn_19 ?_
        refine lv_aload_n hx hb d_U_holdsOn_22 rfl (lv_at hl 0 rfl) ?_
        refine va_get (D := D) (ci := 6) (v := .int ug) (C := Q_U) (T := F_U) (N := 6) hx hb hg in_U hown hK hP 0 rfl rfl 3 (by decide) (hg _ g_600) (fun _ h9 => h9) rfl d_U_holdsOn_23 ?_
        refine vp_callSi (va_Run.run (va_runSN (As := [.int (dpt n d (nI (F + j)).toInt), .int ul, .int ug]) (rest := []) ⟨hx, hb, hml, hown, hg⟩ (c_M_isWithin_ok l D cI cZ cJ cO (dpt n d (nI (F + j)).toInt) ul ug) ⟨va_cnB 3 hg (gq g_235) rfl rfl rfl (hN.1 _ nw_19) (hg _ g_18) (by decide +kernel) ⟨Nat.le_of_ble_eq_true rfl, Nat.le_of_ble_eq_true rfl⟩, hg _ g_234, trivial⟩ (pS ba_nil hK hN) rfl rfl hl.1 rfl (lv_room (Nat.le_of_ble_eq_true rfl)) d_U_holdsOn_26 ⟨Nat.zero_le _, Nat.zero_le _⟩)) (fun r_2 hr_2 => ?_)
        subst hr_2
        refine lv_if_ne (tgt := 34) hx hb d_U_holdsOn_29 (by decide) (fun c_29 => ?_) (fun c_29 => ?_)
        · refine lv_iinc (v := (nI (F + j)) + 1) (lv' := [(2, .int ((nI (F + j)) + 1)), (0, .ref h0), (1, .ref r0)]) hx hb d_U_holdsOn_34 hl (k := 2) rfl rfl (by decide) rfl (fun ls hl => ?_)
          refine lv_goto (tgt := 5) hx hb d_U_holdsOn_37 (by decide) ?_
          exact ih5 (j + 1) ((nI (F + j)) + 1) ls (⟨by have := hj_in hT hj1 hF c_10; omega, by omega, nI_1 _, ho_2 (by omega) (by omega) hq c_29⟩) (lv_sub hl [1, 2, 0] rfl)
        · refine lv_iconst (v := 0) hx hb d_U_holdsOn_32 (by decide) ?_
          exact W.zret hx hb hr (by decide) (fun t9 ht hW => ⟨_, rfl, (ho_1 (by omega) (by omega) (hj_in hT hj1 hF c_10) c_29), ht⟩) t_nil2 d_U_holdsOn_33
  exact loop_5 (T + 2) 0 (nI F) ls (⟨by omega, by omega, rfl, rfl⟩) (lv_sub hl [1, 2, 0] rfl)
