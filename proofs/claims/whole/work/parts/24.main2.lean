
theorem pl_d {n : Nat} {d : Nat → Int32} {k : Int32} (h : ¬ bI (hs n k.toInt) = 0) : dpt n d k.toInt = d k.toNatClampNeg := (dpt_t h).symm
theorem pl_1 {n : Nat} {g : Nat → Int32} {k : Int32} (h : ¬ bI (gs1 n g k.toInt) = 0) : ¬ g k.toNatClampNeg = 0 := by
  have h := bI_ne0 h
  simp only [gs1, Bool.and_eq_true, decide_eq_true_eq] at h
  exact h.2
theorem pl_0 {n : Nat} {g : Nat → Int32} {k : Int32} (h0 : ¬ bI (hs n k.toInt) = 0) (h : bI (gs1 n g k.toInt) = 0) : g k.toNatClampNeg = 0 := by
  have h := bI_eq0 h
  simp only [gs1, bI_ne0 h0, Bool.true_and, decide_eq_false_iff_not, Decidable.not_not] at h
  exact h
/-- the class's search of the mirror -/
def few (n : Nat) : Int32 := if 1 < nI n / 4 then nI n / 4 else 1
def fC (n : Nat) (d g : Nat → Int32) (j : Nat) (t : B5) : B5 := if nI (mp n d g j ((j + 1) / 2)) < few n then t else offer t (nI j) (-1) (mo n d g j ((j + 1) / 2)) (nI (mp n d g j ((j + 1) / 2)))
def fmC (n : Nat) (d g : Nat → Int32) (t : B5) : Nat → B5
  | 0 => t
  | j + 1 => fC n d g j (fmC n d g t j)
def cMiC (fo w : Int32) : Int32 := if fo = 0 then 1 else if iw w 0 2 then 0 else 2
theorem ci_1 {fo w : Int32} (h : fo = 0) : cMiC fo w = 1 := if_pos h
theorem ci_2 {fo w : Int32} (h : ¬ fo = 0) (h1 : bI (iw w 0 2) = 0) : cMiC fo w = 2 := by rw [cMiC, if_neg h, bI_eq0 h1]; rfl
theorem ci_0 {fo w : Int32} (h : ¬ fo = 0) (h1 : ¬ bI (iw w 0 2) = 0) : cMiC fo w = 0 := by rw [cMiC, if_neg h, bI_ne0 h1]; rfl
def aMiC (t : B5) (w : Int32) : Int64 := if w = 0 then t.2.1.toInt64 else if w = 1 then t.2.2.2.1.toInt64 else t.2.2.2.2.toInt64
theorem oj2 {n j : Nat} : 2 * nI n - 2 < nI j ↔ 2 * nI n - 2 < nI j := Iff.rfl

set_option maxHeartbeats 4000000 in
set_option maxRecDepth 100000 in
/-- place(k, w) -/
theorem c_M_place_ok (l : Launch) (hlt : l.stackTraces = false) (D : va_G) (cI cZ cJ cO : ClassId) (sz : Nat) (o r0 l1 l2 l3 bb da ga : Nat) (n : Nat) (d g : Nat → Int32) (h4 : 4 ≤ n) (h64 : n ≤ 64) (k w : Int32) : vx_Met l y_M_place (wq y_M_place c_M_place 3 (some .int)) ({ frames := 6, cells := 1, slots := 6, locals := 100 }) (tP D (TY cI cZ cJ cO) [(o, .inr (3, [.ref r0, .ref l1, .ref l2, .ref l3, .ref bb])), (r0, .inr (2, [.ref da, .ref ga])), (da, .inl (cI, n, .inl d)), (ga, .inl (cZ, n, .inl g))] [.ref o, .int k, .int w] sz) (va_Qi (fun (r : Int32) (u : va_W) => cPla n k w = 0 ∧ u = [(o, .inr (3, [.ref r0, .ref l1, .ref l2, .ref l3, .ref bb])), (r0, .inr (2, [.ref da, .ref ga])), (da, .inl (cI, n, .inl d)), (ga, .inl (cZ, n, .inl g))] ∧ r = aPla d g k w) (mB D (TY cI cZ cJ cO) (va_A [(o, .inr (3, [.ref r0, .ref l1, .ref l2, .ref l3, .ref bb])), (r0, .inr (2, [.ref da, .ref ga])), (da, .inl (cI, n, .inl d)), (ga, .inl (cZ, n, .inl g))] sz)) (va_A [(o, .inr (3, [.ref r0, .ref l1, .ref l2, .ref l3, .ref bb])), (r0, .inr (2, [.ref da, .ref ga])), (da, .inl (cI, n, .inl d)), (ga, .inl (cZ, n, .inl g))] sz)) (vx_X (fun (u : va_W) => u = [(o, .inr (3, [.ref r0, .ref l1, .ref l2, .ref l3, .ref bb])), (r0, .inr (2, [.ref da, .ref ga])), (da, .inl (cI, n, .inl d)), (ga, .inl (cZ, n, .inl g))]) (xB D (TY cI cZ cJ cO) (va_A [(o, .inr (3, [.ref r0, .ref l1, .ref l2, .ref l3, .ref bb])), (r0, .inr (2, [.ref da, .ref ga])), (da, .inl (cI, n, .inl d)), (ga, .inl (cZ, n, .inl g))] sz) (fun E => cPla n k w = 1 ∧ E = eI)) (va_A [(o, .inr (3, [.ref r0, .ref l1, .ref l2, .ref l3, .ref bb])), (r0, .inr (2, [.ref da, .ref ga])), (da, .inl (cI, n, .inl d)), (ga, .inl (cZ, n, .inl g))] sz)) 1 6 (va_A [(o, .inr (3, [.ref r0, .ref l1, .ref l2, .ref l3, .ref bb])), (r0, .inr (2, [.ref da, .ref ga])), (da, .inl (cI, n, .inl d)), (ga, .inl (cZ, n, .inl g))] sz) := by
  refine vx_ofW (cc := c_M_place) (maxL := 3) (ret := (some .int)) (by decide) rfl ?_
  intro p e s m args below meth c s₁ B hml hno hv
  obtain ⟨rfl, hsz, hP, hK, hD0, hN, hU, hV⟩ := hv
  have hx := B.exec
  have hb := B.bytes
  have hr := B.returns
  have hg := gt_h (atoms_spec (ws := (wq y_M_place c_M_place 3 (some .int))) B.pre)
  have hown : s.vm.findClass "RubbingMirrors" = some m.cls := findClass_of_methodNamed B.named
  have hlocks := B.notSynchronized
  subst hsz
  have hD := hD0.self (sz := s.heap.size)
  generalize hAe : va_A [(o, .inr (3, [.ref r0, .ref l1, .ref l2, .ref l3, .ref bb])), (r0, .inr (2, [.ref da, .ref ga])), (da, .inl (cI, n, .inl d)), (ga, .inl (cZ, n, .inl g))] s.heap.size = A at hD hU hV ⊢
  have hA : ∀ q : Nat, s.heap.size ≤ q → A q := fun q h => by rw [← hAe]; exact Or.inr h
  have hS : va_S A s.heap s.heap [] := va_S.rf
  have hl := lv_entry ([.ref o, .int k, .int w]) (n := 3) (Nat.le_of_ble_eq_true rfl)
  rw [lg_entry_eq]
  generalize (lg_sl ([.ref o, .int k, .int w]) ++ List.replicate (3 - (lg_sl ([.ref o, .int k, .int w])).length) Slot.unset).toArray = ls at hl ⊢
  have hl : lv_has ls 3 [(0, .ref o), (1, .int k), (2, .int w)] := hl
  refine lv_aload_n hx hb d_M_place_0 rfl (lv_at hl 0 rfl) ?_
  refine va_get (D := D) (ci := 3) (v := .ref r0) (C := Q_M) (T := F_M) (N := 5) hx hb hg in_M hown hK hP 0 rfl rfl 0 (by decide) (hg _ g_125) (fun _ h9 => h9) rfl d_M_place_1 ?_
  refine lv_iload_n hx hb d_M_place_4 rfl (lv_at hl 1 rfl) ?_
  refine vp_callSi (va_Run.run (va_runV (As := [.int k]) (rest := []) ⟨hx, hb, hml, hown, hg⟩ (c_R_has_ok l D cI cZ cJ cO r0 da ga n d g (by omega) k) (cwV 1 hg (gv g_161 g_162 g_163 g_23 g_164) rfl rfl rfl (by decide +kernel) ⟨Nat.le_of_ble_eq_true rfl, Nat.le_of_ble_eq_true rfl⟩) (pV (hP.sub [1, 2, 3] rfl) hK hN (va_recv hK (hP.sub [1, 2, 3] rfl) (ci := 2) (q0 := 0) rfl rfl)) rfl rfl hl.1 rfl (lv_room (Nat.le_of_ble_eq_true rfl)) d_M_place_5 ⟨Nat.zero_le _, Nat.zero_le _⟩)) (fun r_1 hr_1 => ?_)
  subst hr_1
  refine lv_if_ne (tgt := 21) hx hb d_M_place_8 (by decide) (fun c_8 => ?_) (fun c_8 => ?_)
  · refine lv_iload_n hx hb d_M_place_21 rfl (lv_at hl 2 rfl) ?_
    refine lv_iconst (v := 0) hx hb d_M_place_22 (by decide) ?_
    refine lv_iconst (v := 1) hx hb d_M_place_23 (by decide) ?_
    refine vp_callSi (va_Run.run (va_runS (As := [.int w, .int 0, .int 1]) (rest := []) ⟨hx, hb, hml, hown, hg⟩ (c_M_isWithin_ok l D cI cZ cJ cO w 0 1) (va_cwS 3 hg (gs2 g_233 g_234 g_18 g_235) rfl rfl rfl (by decide +kernel) ⟨Nat.le_of_ble_eq_true rfl, Nat.le_of_ble_eq_true rfl⟩) (pS ba_nil hK hN) rfl rfl hl.1 rfl (lv_room (Nat.le_of_ble_eq_true rfl)) d_M_place_24 ⟨Nat.zero_le _, Nat.zero_le _⟩)) (fun r_2 hr_2 => ?_)
    subst hr_2
    refine lv_if_ne (tgt := 40) hx hb d_M_place_27 (by decide) (fun c_27 => ?_) (fun c_27 => ?_)
    · refine lv_iload_n hx hb d_M_place_40 rfl (lv_at hl 2 rfl) ?_
      refine lv_if_ne (tgt := 53) hx hb d_M_place_41 (by decide) (fun c_41 => ?_) (fun c_41 => ?_)
      · refine lv_aload_n hx hb d_M_place_53 rfl (lv_at hl 0 rfl) ?_
        refine va_get (D := D) (ci := 3) (v := .ref r0) (C := Q_M) (T := F_M) (N := 5) hx hb hg in_M hown hK hP 0 rfl rfl 0 (by decide) (hg _ g_125) (fun _ h9 => h9) rfl d_M_place_54 ?_
        refine lv_iload_n hx hb d_M_place_57 rfl (lv_at hl 1 rfl) ?_
        refine vp_callSi (va_Run.run (va_runV (As := [.int k]) (rest := []) ⟨hx, hb, hml, hown, hg⟩ (c_R_isGuess_ok l D cI cZ cJ cO r0 da ga n d g (by omega) k) (cwV 1 hg (gv g_269 g_270 g_271 g_23 g_272) rfl rfl rfl (by decide +kernel) ⟨Nat.le_of_ble_eq_true rfl, Nat.le_of_ble_eq_true rfl⟩) (pV (hP.sub [1, 2, 3] rfl) hK hN (va_recv hK (hP.sub [1, 2, 3] rfl) (ci := 2) (q0 := 0) rfl rfl)) rfl rfl hl.1 rfl (lv_room (Nat.le_of_ble_eq_true rfl)) d_M_place_58 ⟨Nat.zero_le _, Nat.zero_le _⟩)) (fun r_3 hr_3 => ?_)
        subst hr_3
        refine lv_if_eq (tgt := 68) hx hb d_M_place_61 (by decide) (fun c_61 => ?_) (fun c_61 => ?_)
        · refine lv_iconst (v := 0) hx hb d_M_place_68 (by decide) ?_
          refine vx_ret ?_
          refine W.widen (k := 1) (n := 6) (by omega) (by omega) ?_
          exact W.iret hx hb hr (fun t9 ht hW => ⟨⟨_, [(o, .inr (3, [.ref r0, .ref l1, .ref l2, .ref l3, .ref bb])), (r0, .inr (2, [.ref da, .ref ga])), (da, .inl (cI, n, .inl d)), (ga, .inl (cZ, n, .inl g))], rfl, ⟨cp_0 c_8 c_27, rfl, by rw [aPla, if_neg c_41]; first | rw [if_neg (pl_1 c_61)] | rw [if_pos (pl_0 c_8 c_61)]⟩, by rw [ht]; exact hP, va_K.moved hW.alike hK, hD⟩, hS.F ht⟩) hS.2.2 d_M_place_69
        · refine lv_iconst (v := 1) hx hb d_M_place_64 (by decide) ?_
          refine lv_goto (tgt := 69) hx hb d_M_place_65 (by decide) ?_
          refine vx_ret ?_
          refine W.widen (k := 1) (n := 6) (by omega) (by omega) ?_
          exact W.iret hx hb hr (fun t9 ht hW => ⟨⟨_, [(o, .inr (3, [.ref r0, .ref l1, .ref l2, .ref l3, .ref bb])), (r0, .inr (2, [.ref da, .ref ga])), (da, .inl (cI, n, .inl d)), (ga, .inl (cZ, n, .inl g))], rfl, ⟨cp_0 c_8 c_27, rfl, by rw [aPla, if_neg c_41]; first | rw [if_neg (pl_1 c_61)] | rw [if_pos (pl_0 c_8 c_61)]⟩, by rw [ht]; exact hP, va_K.moved hW.alike hK, hD⟩, hS.F ht⟩) hS.2.2 d_M_place_69
      · refine lv_aload_n hx hb d_M_place_44 rfl (lv_at hl 0 rfl) ?_
        refine va_get (D := D) (ci := 3) (v := .ref r0) (C := Q_M) (T := F_M) (N := 5) hx hb hg in_M hown hK hP 0 rfl rfl 0 (by decide) (hg _ g_125) (fun _ h9 => h9) rfl d_M_place_45 ?_
        refine lv_iload_n hx hb d_M_place_48 rfl (lv_at hl 1 rfl) ?_
        refine vp_callSi (va_Run.run (va_runV (As := [.int k]) (rest := []) ⟨hx, hb, hml, hown, hg⟩ (c_R_depthAt_ok l D cI cZ cJ cO r0 da ga n d g (by omega) k) (cwV 1 hg (gv g_265 g_266 g_267 g_23 g_268) rfl rfl rfl (by decide +kernel) ⟨Nat.le_of_ble_eq_true rfl, Nat.le_of_ble_eq_true rfl⟩) (pV (hP.sub [1, 2, 3] rfl) hK hN (va_recv hK (hP.sub [1, 2, 3] rfl) (ci := 2) (q0 := 0) rfl rfl)) rfl rfl hl.1 rfl (lv_room (Nat.le_of_ble_eq_true rfl)) d_M_place_49 ⟨Nat.zero_le _, Nat.zero_le _⟩)) (fun r_4 hr_4 => ?_)
        subst hr_4
        refine vx_ret ?_
        refine W.widen (k := 1) (n := 6) (by omega) (by omega) ?_
        exact W.iret hx hb hr (fun t9 ht hW => ⟨⟨_, [(o, .inr (3, [.ref r0, .ref l1, .ref l2, .ref l3, .ref bb])), (r0, .inr (2, [.ref da, .ref ga])), (da, .inl (cI, n, .inl d)), (ga, .inl (cZ, n, .inl g))], rfl, ⟨cp_0 c_8 c_27, rfl, by rw [pl_d c_8, aPla, if_pos c_41]⟩, by rw [ht]; exact hP, va_K.moved hW.alike hK, hD⟩, hS.F ht⟩) hS.2.2 d_M_place_52
    · exact thrw hx hb hlt hown hg hN x_I st_71 hU hV hS (by rw [hml]; exact hl.1) d_M_place_30 d_M_place_33 d_M_place_34 d_M_place_36 d_M_place_39 hno (Nat.le_of_ble_eq_true rfl) (Nat.le_of_ble_eq_true rfl) (Nat.le_of_ble_eq_true rfl) (Nat.le_of_ble_eq_true rfl) hlocks hP hK hD rfl ⟨cp_2 c_27, rfl⟩ (Nat.le_of_ble_eq_true rfl) (Nat.le_of_ble_eq_true rfl)
  · exact thrw hx hb hlt hown hg hN x_I st_53 hU hV hS (by rw [hml]; exact hl.1) d_M_place_11 d_M_place_14 d_M_place_15 d_M_place_17 d_M_place_20 hno (Nat.le_of_ble_eq_true rfl) (Nat.le_of_ble_eq_true rfl) (Nat.le_of_ble_eq_true rfl) (Nat.le_of_ble_eq_true rfl) hlocks hP hK hD rfl ⟨cp_1 c_8, rfl⟩ (Nat.le_of_ble_eq_true rfl) (Nat.le_of_ble_eq_true rfl)

set_option maxHeartbeats 4000000 in
set_option maxRecDepth 100000 in
/-- sum(s) -/
theorem c_M_sum_ok (l : Launch) (hlt : l.stackTraces = false) (D : va_G) (cI cZ cJ cO : ClassId) (sz : Nat) (o r0 l1 l2 l3 bb da ga : Nat) (n : Nat) (d g : Nat → Int32) (h4 : 4 ≤ n) (h64 : n ≤ 64) (s9 : Int32) : vx_Met l y_M_sum (wq y_M_sum c_M_sum 2 (some .long)) ({ frames := 6, cells := 1, slots := 6, locals := 100 }) (tP D (TY cI cZ cJ cO) [(o, .inr (3, [.ref r0, .ref l1, .ref l2, .ref l3, .ref bb])), (r0, .inr (2, [.ref da, .ref ga])), (da, .inl (cI, n, .inl d)), (ga, .inl (cZ, n, .inl g))] [.ref o, .int s9] sz) (va_Ql (fun (r : Int64) (u : va_W) => cSum n s9 = 0 ∧ u = [(o, .inr (3, [.ref r0, .ref l1, .ref l2, .ref l3, .ref bb])), (r0, .inr (2, [.ref da, .ref ga])), (da, .inl (cI, n, .inl d)), (ga, .inl (cZ, n, .inl g))] ∧ r = rsv n d g s9.toNatClampNeg) (mB D (TY cI cZ cJ cO) (va_A [(o, .inr (3, [.ref r0, .ref l1, .ref l2, .ref l3, .ref bb])), (r0, .inr (2, [.ref da, .ref ga])), (da, .inl (cI, n, .inl d)), (ga, .inl (cZ, n, .inl g))] sz)) (va_A [(o, .inr (3, [.ref r0, .ref l1, .ref l2, .ref l3, .ref bb])), (r0, .inr (2, [.ref da, .ref ga])), (da, .inl (cI, n, .inl d)), (ga, .inl (cZ, n, .inl g))] sz)) (vx_X (fun (u : va_W) => u = [(o, .inr (3, [.ref r0, .ref l1, .ref l2, .ref l3, .ref bb])), (r0, .inr (2, [.ref da, .ref ga])), (da, .inl (cI, n, .inl d)), (ga, .inl (cZ, n, .inl g))]) (xB D (TY cI cZ cJ cO) (va_A [(o, .inr (3, [.ref r0, .ref l1, .ref l2, .ref l3, .ref bb])), (r0, .inr (2, [.ref da, .ref ga])), (da, .inl (cI, n, .inl d)), (ga, .inl (cZ, n, .inl g))] sz) (fun E => cSum n s9 = 1 ∧ E = eA)) (va_A [(o, .inr (3, [.ref r0, .ref l1, .ref l2, .ref l3, .ref bb])), (r0, .inr (2, [.ref da, .ref ga])), (da, .inl (cI, n, .inl d)), (ga, .inl (cZ, n, .inl g))] sz)) 1 6 (va_A [(o, .inr (3, [.ref r0, .ref l1, .ref l2, .ref l3, .ref bb])), (r0, .inr (2, [.ref da, .ref ga])), (da, .inl (cI, n, .inl d)), (ga, .inl (cZ, n, .inl g))] sz) := by
  refine vx_ofW (cc := c_M_sum) (maxL := 2) (ret := (some .long)) (by decide) rfl ?_
  intro p e s m args below meth c s₁ B hml hno hv
  obtain ⟨rfl, hsz, hP, hK, hD0, hN, hU, hV⟩ := hv
  have hx := B.exec
  have hb := B.bytes
  have hr := B.returns
  have hg := gt_h (atoms_spec (ws := (wq y_M_sum c_M_sum 2 (some .long))) B.pre)
  have hown : s.vm.findClass "RubbingMirrors" = some m.cls := findClass_of_methodNamed B.named
  have hlocks := B.notSynchronized
  subst hsz
  have hD := hD0.self (sz := s.heap.size)
  generalize hAe : va_A [(o, .inr (3, [.ref r0, .ref l1, .ref l2, .ref l3, .ref bb])), (r0, .inr (2, [.ref da, .ref ga])), (da, .inl (cI, n, .inl d)), (ga, .inl (cZ, n, .inl g))] s.heap.size = A at hD hU hV ⊢
  have hA : ∀ q : Nat, s.heap.size ≤ q → A q := fun q h => by rw [← hAe]; exact Or.inr h
  have hS : va_S A s.heap s.heap [] := va_S.rf
  have hl := lv_entry ([.ref o, .int s9]) (n := 2) (Nat.le_of_ble_eq_true rfl)
  rw [lg_entry_eq]
  generalize (lg_sl ([.ref o, .int s9]) ++ List.replicate (2 - (lg_sl ([.ref o, .int s9])).length) Slot.unset).toArray = ls at hl ⊢
  have hl : lv_has ls 2 [(0, .ref o), (1, .int s9)] := hl
  refine lv_iload_n hx hb d_M_sum_0 rfl (lv_at hl 1 rfl) ?_
  refine lv_iconst (v := 1) hx hb d_M_sum_1 (by decide) ?_
  refine lv_aload_n hx hb d_M_sum_2 rfl (lv_at hl 0 rfl) ?_
  refine va_get (D := D) (ci := 3) (v := .ref r0) (C := Q_M) (T := F_M) (N := 5) hx hb hg in_M hown hK hP 0 rfl rfl 0 (by decide) (hg _ g_125) (fun _ h9 => h9) rfl d_M_sum_3 ?_
  refine vp_callSi (va_Run.run (va_runV (As := []) (rest := [.int 1, .int s9]) ⟨hx, hb, hml, hown, hg⟩ (c_R_size_ok l D cI cZ cJ cO r0 da ga n d g (by omega)) (cwV 0 hg (gv g_285 g_286 g_287 g_23 g_288) rfl rfl rfl (by decide +kernel) ⟨Nat.le_of_ble_eq_true rfl, Nat.le_of_ble_eq_true rfl⟩) (pV (hP.sub [1, 2, 3] rfl) hK hN (va_recv hK (hP.sub [1, 2, 3] rfl) (ci := 2) (q0 := 0) rfl rfl)) rfl rfl hl.1 rfl (lv_room (Nat.le_of_ble_eq_true rfl)) d_M_sum_6 ⟨Nat.zero_le _, Nat.zero_le _⟩)) (fun r_1 hr_1 => ?_)
  subst hr_1
  refine lv_iconst (v := 1) hx hb d_M_sum_9 (by decide) ?_
  refine lv_isub hx hb d_M_sum_10 ?_
  refine vp_callSi (va_Run.run (va_runS (As := [.int s9, .int 1, .int ((nI n) - 1)]) (rest := []) ⟨hx, hb, hml, hown, hg⟩ (c_M_isWithin_ok l D cI cZ cJ cO s9 1 ((nI n) - 1)) (va_cwS 3 hg (gs2 g_233 g_234 g_18 g_235) rfl rfl rfl (by decide +kernel) ⟨Nat.le_of_ble_eq_true rfl, Nat.le_of_ble_eq_true rfl⟩) (pS ba_nil hK hN) rfl rfl hl.1 rfl (lv_room (Nat.le_of_ble_eq_true rfl)) d_M_sum_11 ⟨Nat.zero_le _, Nat.zero_le _⟩)) (fun r_2 hr_2 => ?_)
  subst hr_2
  refine lv_if_ne (tgt := 27) hx hb d_M_sum_14 (by decide) (fun c_14 => ?_) (fun c_14 => ?_)
  · obtain ⟨S, hS1, hS2, rfl⟩ := iwS h4 h64 c_14
    refine lv_aload_n hx hb d_M_sum_27 rfl (lv_at hl 0 rfl) ?_
    refine va_get (D := D) (ci := 3) (v := .ref r0) (C := Q_M) (T := F_M) (N := 5) hx hb hg in_M hown hK hP 0 rfl rfl 0 (by decide) (hg _ g_125) (fun _ h9 => h9) rfl d_M_sum_28 ?_
    refine lv_iload_n hx hb d_M_sum_31 rfl (lv_at hl 1 rfl) ?_
    refine vp_callSl (va_Run.run (va_runV (As := [.int (nI S)]) (rest := []) ⟨hx, hb, hml, hown, hg⟩ (c_R_repeatSum_ok l D cI cZ cJ cO r0 da ga n d g (by omega) S (by omega)) (cwV 1 hg (gv g_341 g_342 g_343 g_23 g_344) rfl rfl rfl (by decide +kernel) ⟨Nat.le_of_ble_eq_true rfl, Nat.le_of_ble_eq_true rfl⟩) (pV (hP.sub [1, 2, 3] rfl) hK hN (va_recv hK (hP.sub [1, 2, 3] rfl) (ci := 2) (q0 := 0) rfl rfl)) rfl rfl hl.1 rfl (lv_room (Nat.le_of_ble_eq_true rfl)) d_M_sum_32 ⟨Nat.zero_le _, Nat.zero_le _⟩)) (fun r_3 hr_3 => ?_)
    subst hr_3
    refine vx_ret ?_
    refine W.widen (k := 1) (n := 6) (by omega) (by omega) ?_
    exact W.lret hx hb hr (fun t9 ht hW => ⟨⟨_, [(o, .inr (3, [.ref r0, .ref l1, .ref l2, .ref l3, .ref bb])), (r0, .inr (2, [.ref da, .ref ga])), (da, .inl (cI, n, .inl d)), (ga, .inl (cZ, n, .inl g))], rfl, ⟨cs_0 c_14, rfl, by rw [nI_clamp (by omega)]; rfl⟩, by rw [ht]; exact hP, va_K.moved hW.alike hK, hD⟩, hS.F ht⟩) hS.2.2 d_M_sum_35
  · exact thrw hx hb hlt hown hg hN x_A st_106 hU hV hS (by rw [hml]; exact hl.1) d_M_sum_17 d_M_sum_20 d_M_sum_21 d_M_sum_23 d_M_sum_26 hno (Nat.le_of_ble_eq_true rfl) (Nat.le_of_ble_eq_true rfl) (Nat.le_of_ble_eq_true rfl) (Nat.le_of_ble_eq_true rfl) hlocks hP hK hD rfl ⟨cs_1 c_14, rfl⟩ (Nat.le_of_ble_eq_true rfl) (Nat.le_of_ble_eq_true rfl)

set_option maxHeartbeats 4000000 in
set_option maxRecDepth 100000 in
/-- repeat(f, t) -/
theorem c_M_repeat__ok (l : Launch) (hlt : l.stackTraces = false) (D : va_G) (cI cZ cJ cO : ClassId) (sz : Nat) (o r0 l1 l2 l3 bb da ga : Nat) (n : Nat) (d g : Nat → Int32) (h4 : 4 ≤ n) (h64 : n ≤ 64) (f9 t9 : Int32) : vx_Met l y_M_repeat_ (wq y_M_repeat_ c_M_repeat_ 10 (some .int)) ({ frames := 6, cells := 1, slots := 6, locals := 100 }) (tP D (TY cI cZ cJ cO) [(o, .inr (3, [.ref r0, .ref l1, .ref l2, .ref l3, .ref bb])), (r0, .inr (2, [.ref da, .ref ga])), (da, .inl (cI, n, .inl d)), (ga, .inl (cZ, n, .inl g))] [.ref o, .int f9, .int t9] sz) (va_Qi (fun (r : Int32) (u : va_W) => cRep n f9 t9 = 0 ∧ u = [(o, .inr (3, [.ref r0, .ref l1, .ref l2, .ref l3, .ref bb])), (r0, .inr (2, [.ref da, .ref ga])), (da, .inl (cI, n, .inl d)), (ga, .inl (cZ, n, .inl g))] ∧ r = nI (rp n d g f9.toNatClampNeg (t9.toNatClampNeg - f9.toNatClampNeg))) (mB D (TY cI cZ cJ cO) (va_A [(o, .inr (3, [.ref r0, .ref l1, .ref l2, .ref l3, .ref bb])), (r0, .inr (2, [.ref da, .ref ga])), (da, .inl (cI, n, .inl d)), (ga, .inl (cZ, n, .inl g))] sz)) (va_A [(o, .inr (3, [.ref r0, .ref l1, .ref l2, .ref l3, .ref bb])), (r0, .inr (2, [.ref da, .ref ga])), (da, .inl (cI, n, .inl d)), (ga, .inl (cZ, n, .inl g))] sz)) (vx_X (fun (u : va_W) => u = [(o, .inr (3, [.ref r0, .ref l1, .ref l2, .ref l3, .ref bb])), (r0, .inr (2, [.ref da, .ref ga])), (da, .inl (cI, n, .inl d)), (ga, .inl (cZ, n, .inl g))]) (xB D (TY cI cZ cJ cO) (va_A [(o, .inr (3, [.ref r0, .ref l1, .ref l2, .ref l3, .ref bb])), (r0, .inr (2, [.ref da, .ref ga])), (da, .inl (cI, n, .inl d)), (ga, .inl (cZ, n, .inl g))] sz) (fun E => cRep n f9 t9 = 1 ∧ E = eA)) (va_A [(o, .inr (3, [.ref r0, .ref l1, .ref l2, .ref l3, .ref bb])), (r0, .inr (2, [.ref da, .ref ga])), (da, .inl (cI, n, .inl d)), (ga, .inl (cZ, n, .inl g))] sz)) 1 6 (va_A [(o, .inr (3, [.ref r0, .ref l1, .ref l2, .ref l3, .ref bb])), (r0, .inr (2, [.ref da, .ref ga])), (da, .inl (cI, n, .inl d)), (ga, .inl (cZ, n, .inl g))] sz) := by
  refine vx_ofW (cc := c_M_repeat_) (maxL := 10) (ret := (some .int)) (by decide) rfl ?_
  intro p e s m args below meth c s₁ B hml hno hv
  obtain ⟨rfl, hsz, hP, hK, hD0, hN, hU, hV⟩ := hv
  have hx := B.exec
  have hb := B.bytes
  have hr := B.returns
  have hg := gt_h (atoms_spec (ws := (wq y_M_repeat_ c_M_repeat_ 10 (some .int))) B.pre)
  have hown : s.vm.findClass "RubbingMirrors" = some m.cls := findClass_of_methodNamed B.named
  have hlocks := B.notSynchronized
  subst hsz
  have hD := hD0.self (sz := s.heap.size)
  generalize hAe : va_A [(o, .inr (3, [.ref r0, .ref l1, .ref l2, .ref l3, .ref bb])), (r0, .inr (2, [.ref da, .ref ga])), (da, .inl (cI, n, .inl d)), (ga, .inl (cZ, n, .inl g))] s.heap.size = A at hD hU hV ⊢
  have hA : ∀ q : Nat, s.heap.size ≤ q → A q := fun q h => by rw [← hAe]; exact Or.inr h
  have hS : va_S A s.heap s.heap [] := va_S.rf
  have hl := lv_entry ([.ref o, .int f9, .int t9]) (n := 10) (Nat.le_of_ble_eq_true rfl)
  rw [lg_entry_eq]
  generalize (lg_sl ([.ref o, .int f9, .int t9]) ++ List.replicate (10 - (lg_sl ([.ref o, .int f9, .int t9])).length) Slot.unset).toArray = ls at hl ⊢
  have hl : lv_has ls 10 [(0, .ref o), (1, .int f9), (2, .int t9)] := hl
  refine lv_aload_n hx hb d_M_repeat__0 rfl (lv_at hl 0 rfl) ?_
  refine va_get (D := D) (ci := 3) (v := .ref r0) (C := Q_M) (T := F_M) (N := 5) hx hb hg in_M hown hK hP 0 rfl rfl 0 (by decide) (hg _ g_125) (fun _ h9 => h9) rfl d_M_repeat__1 ?_
  refine vp_callSi (va_Run.run (va_runV (As := []) (rest := []) ⟨hx, hb, hml, hown, hg⟩ (c_R_size_ok l D cI cZ cJ cO r0 da ga n d g (by omega)) (cwV 0 hg (gv g_285 g_286 g_287 g_23 g_288) rfl rfl rfl (by decide +kernel) ⟨Nat.le_of_ble_eq_true rfl, Nat.le_of_ble_eq_true rfl⟩) (pV (hP.sub [1, 2, 3] rfl) hK hN (va_recv hK (hP.sub [1, 2, 3] rfl) (ci := 2) (q0 := 0) rfl rfl)) rfl rfl hl.1 rfl (lv_room (Nat.le_of_ble_eq_true rfl)) d_M_repeat__4 ⟨Nat.zero_le _, Nat.zero_le _⟩)) (fun r_1 hr_1 => ?_)
  subst hr_1
  refine lv_iconst (v := 1) hx hb d_M_repeat__7 (by decide) ?_
  refine lv_isub hx hb d_M_repeat__8 ?_
  refine lv_istore_n (lv' := [(3, .int ((nI n) - 1)), (0, .ref o), (1, .int f9), (2, .int t9)]) hx hb d_M_repeat__9 rfl hl (by decide) rfl (fun ls hl => ?_)
  refine lv_iload_n hx hb d_M_repeat__10 rfl (lv_at hl 2 rfl) ?_
  refine lv_iconst (v := 1) hx hb d_M_repeat__11 (by decide) ?_
  refine lv_iload_n hx hb d_M_repeat__12 rfl (lv_at hl 0 rfl) ?_
  refine vp_callSi (va_Run.run (va_runS (As := [.int f9, .int 1, .int ((nI n) - 1)]) (rest := []) ⟨hx, hb, hml, hown, hg⟩ (c_M_isWithin_ok l D cI cZ cJ cO f9 1 ((nI n) - 1)) (va_cwS 3 hg (gs2 g_233 g_234 g_18 g_235) rfl rfl rfl (by decide +kernel) ⟨Nat.le_of_ble_eq_true rfl, Nat.le_of_ble_eq_true rfl⟩) (pS ba_nil hK hN) rfl rfl hl.1 rfl (lv_room (Nat.le_of_ble_eq_true rfl)) d_M_repeat__13 ⟨Nat.zero_le _, Nat.zero_le _⟩)) (fun r_2 hr_2 => ?_)
  subst hr_2
  refine lv_if_eq (tgt := 28) hx hb d_M_repeat__16 (by decide) (fun c_16 => ?_) (fun c_16 => ?_)
  · exact thrw hx hb hlt hown hg hN x_A st_112 hU hV hS (by rw [hml]; exact hl.1) d_M_repeat__28 d_M_repeat__31 d_M_repeat__32 d_M_repeat__34 d_M_repeat__37 hno (Nat.le_of_ble_eq_true rfl) (Nat.le_of_ble_eq_true rfl) (Nat.le_of_ble_eq_true rfl) (Nat.le_of_ble_eq_true rfl) hlocks hP hK hD rfl ⟨cr_1 c_16, rfl⟩ (Nat.le_of_ble_eq_true rfl) (Nat.le_of_ble_eq_true rfl)
  · refine lv_iload_n hx hb d_M_repeat__19 rfl (lv_at hl 3 rfl) ?_
    refine lv_iload_n hx hb d_M_repeat__20 rfl (lv_at hl 2 rfl) ?_
    refine lv_iload_n hx hb d_M_repeat__21 rfl (lv_at hl 0 rfl) ?_
    refine vp_callSi (va_Run.run (va_runS (As := [.int t9, .int f9, .int ((nI n) - 1)]) (rest := []) ⟨hx, hb, hml, hown, hg⟩ (c_M_isWithin_ok l D cI cZ cJ cO t9 f9 ((nI n) - 1)) (va_cwS 3 hg (gs2 g_233 g_234 g_18 g_235) rfl rfl rfl (by decide +kernel) ⟨Nat.le_of_ble_eq_true rfl, Nat.le_of_ble_eq_true rfl⟩) (pS ba_nil hK hN) rfl rfl hl.1 rfl (lv_room (Nat.le_of_ble_eq_true rfl)) d_M_repeat__22 ⟨Nat.zero_le _, Nat.zero_le _⟩)) (fun r_3 hr_3 => ?_)
    subst hr_3
    refine lv_if_ne (tgt := 38) hx hb d_M_repeat__25 (by decide) (fun c_25 => ?_) (fun c_25 => ?_)
    · obtain ⟨F, hF1, hF2, rfl⟩ := iwS h4 h64 c_16
      obtain ⟨T, hT1, hT2, rfl⟩ := iwT h4 h64 hF2 c_25
      refine lv_iload_n hx hb d_M_repeat__38 rfl (lv_at hl 2 rfl) ?_
      refine lv_istore (lv' := [(4, .int (nI F)), (3, .int ((nI n) - 1)), (0, .ref o), (1, .int (nI F)), (2, .int (nI T))]) hx hb d_M_repeat__39 hl (by decide) rfl (fun ls hl => ?_)
      refine lv_aload_n hx hb d_M_repeat__41 rfl (lv_at hl 2 rfl) ?_
      refine va_get (D := D) (ci := 3) (v := .ref r0) (C := Q_M) (T := F_M) (N := 5) hx hb hg in_M hown hK hP 0 rfl rfl 0 (by decide) (hg _ g_125) (fun _ h9 => h9) rfl d_M_repeat__42 ?_
      refine lv_iload_n hx hb d_M_repeat__45 rfl (lv_at hl 3 rfl) ?_
      refine vp_callSl (va_Run.run (va_runV (As := [.int (nI F)]) (rest := []) ⟨hx, hb, hml, hown, hg⟩ (c_R_repeatSum_ok l D cI cZ cJ cO r0 da ga n d g (by omega) F (by omega)) (cwV 1 hg (gv g_341 g_342 g_343 g_23 g_344) rfl rfl rfl (by decide +kernel) ⟨Nat.le_of_ble_eq_true rfl, Nat.le_of_ble_eq_true rfl⟩) (pV (hP.sub [1, 2, 3] rfl) hK hN (va_recv hK (hP.sub [1, 2, 3] rfl) (ci := 2) (q0 := 0) rfl rfl)) rfl rfl hl.1 rfl (lv_room (Nat.le_of_ble_eq_true rfl)) d_M_repeat__46 ⟨Nat.zero_le _, Nat.zero_le _⟩)) (fun r_4 hr_4 => ?_)
      subst hr_4
      refine lv_lstore (lv' := [(5, .long (rsv n d g F)), (4, .int (nI F)), (3, .int ((nI n) - 1)), (0, .ref o), (1, .int (nI F)), (2, .int (nI T))]) hx hb d_M_repeat__49 hl (by decide) rfl (fun ls hl => ?_)
      refine lv_iload_n hx hb d_M_repeat__51 rfl (lv_at hl 4 rfl) ?_
      refine lv_iconst (v := 1) hx hb d_M_repeat__52 (by decide) ?_
      refine lv_iadd hx hb d_M_repeat__53 ?_
      refine lv_istore (lv' := [(7, .int ((nI F) + 1)), (5, .long (rsv n d g F)), (4, .int (nI F)), (3, .int ((nI n) - 1)), (0, .ref o), (1, .int (nI F)), (2, .int (nI T))]) hx hb d_M_repeat__54 hl (by decide) rfl (fun ls hl => ?_)
      have loop_56 : ∀ (f56 : Nat) (j : Nat) (x4 : Int32) (x5 : Int64) (x7 : Int32) (ls : Array Slot), (j ≤ T - F ∧ T - F < j + f56 ∧ x4 = nI (rp n d g F j) ∧ x5 = rsv n d g (rp n d g F j) ∧ x7 = nI (F + 1 + j)) → lv_has ls 10 [(0, .ref o), (1, .int (nI F)), (2, .int (nI T)), (4, .int x4), (5, .long x5), (7, .int x7)] → W p l e (headSpec (wq y_M_repeat_ c_M_repeat_ 10 (some .int)) ({ frames := 6, cells := 1, slots := 6, locals := 100 })).room s m ([.ref o, .int (nI F), .int (nI T)] : List Value).toArray below meth c s.heap [] 0 0 (vx_MQ below (va_Qi (fun (r : Int32) (u : va_W) => cRep n (nI F) (nI T) = 0 ∧ u = [(o, .inr (3, [.ref r0, .ref l1, .ref l2, .ref l3, .ref bb])), (r0, .inr (2, [.ref da, .ref ga])), (da, .inl (cI, n, .inl d)), (ga, .inl (cZ, n, .inl g))] ∧ r = nI (rp n d g (nI F).toNatClampNeg ((nI T).toNatClampNeg - (nI F).toNatClampNeg))) (mB D (TY cI cZ cJ cO) A) A) (vx_X (fun (u : va_W) => u = [(o, .inr (3, [.ref r0, .ref l1, .ref l2, .ref l3, .ref bb])), (r0, .inr (2, [.ref da, .ref ga])), (da, .inl (cI, n, .inl d)), (ga, .inl (cZ, n, .inl g))]) (xB D (TY cI cZ cJ cO) A (fun E => cRep n (nI F) (nI T) = 1 ∧ E = eA)) A) ([.ref o, .int (nI F), .int (nI T)] : List Value).toArray s 1 6 A) (F0 m 56 ls []) := by
        intro f56
        induction f56 with
        | zero =>
          intro j x4 x5 x7 ls hI hl
          obtain ⟨hj1, hj2, rfl, rfl, rfl⟩ := hI
          omega
        | succ f56 ih56 =>
          intro j x4 x5 x7 ls hI hl
          obtain ⟨hj1, hj2, rfl, rfl, rfl⟩ := hI
          refine lv_iload hx hb d_M_repeat__56 (lv_at hl 5 rfl) ?_
          refine lv_iload_n hx hb d_M_repeat__58 rfl (lv_at hl 2 rfl) ?_
          refine lv_icmp_gt (tgt := 95) hx hb d_M_repeat__59 (by decide) (fun c_59 => ?_) (fun c_59 => ?_)
          · refine lv_iload hx hb d_M_repeat__95 (lv_at hl 3 rfl) ?_
            refine vx_ret ?_
            refine W.widen (k := 1) (n := 6) (by omega) (by omega) ?_
            exact W.iret hx hb hr (fun t9 ht hW => ⟨⟨_, [(o, .inr (3, [.ref r0, .ref l1, .ref l2, .ref l3, .ref bb])), (r0, .inr (2, [.ref da, .ref ga])), (da, .inl (cI, n, .inl d)), (ga, .inl (cZ, n, .inl g))], rfl, ⟨cr_0 c_16 c_25, rfl, by rw [nI_clamp (show F < 2 ^ 31 by omega), nI_clamp (show T < 2 ^ 31 by omega), ← rj2_out (by omega) hj1 hT1 c_59]⟩, by rw [ht]; exact hP, va_K.moved hW.alike hK, hD⟩, hS.F ht⟩) hS.2.2 d_M_repeat__97
          · have hj3 := rj2_in (by omega) c_59
            refine lv_aload_n hx hb d_M_repeat__62 rfl (lv_at hl 0 rfl) ?_
            refine va_get (D := D) (ci := 3) (v := .ref r0) (C := Q_M) (T := F_M) (N := 5) hx hb hg in_M hown hK hP 0 rfl rfl 0 (by decide) (hg _ g_125) (fun _ h9 => h9) rfl d_M_repeat__63 ?_
            refine lv_iload hx hb d_M_repeat__66 (lv_at hl 5 rfl) ?_
            refine vp_callSl (va_Run.run (va_runV (As := [.int (nI (F + 1 + j))]) (rest := []) ⟨hx, hb, hml, hown, hg⟩ (c_R_repeatSum_ok l D cI cZ cJ cO r0 da ga n d g (by omega) (F + 1 + j) (by omega)) (cwV 1 hg (gv g_341 g_342 g_343 g_23 g_344) rfl rfl rfl (by decide +kernel) ⟨Nat.le_of_ble_eq_true rfl, Nat.le_of_ble_eq_true rfl⟩) (pV (hP.sub [1, 2, 3] rfl) hK hN (va_recv hK (hP.sub [1, 2, 3] rfl) (ci := 2) (q0 := 0) rfl rfl)) rfl rfl hl.1 rfl (lv_room (Nat.le_of_ble_eq_true rfl)) d_M_repeat__68 ⟨Nat.zero_le _, Nat.zero_le _⟩)) (fun r_5 hr_5 => ?_)
            subst hr_5
            refine lv_lstore (lv' := [(8, .long (rsv n d g (F + 1 + j))), (0, .ref o), (1, .int (nI F)), (2, .int (nI T)), (4, .int (nI (rp n d g F j))), (5, .long (rsv n d g (rp n d g F j))), (7, .int (nI (F + 1 + j)))]) hx hb d_M_repeat__71 hl (by decide) rfl (fun ls hl => ?_)
            refine lv_lload hx hb d_M_repeat__73 (lv_at hl 0 rfl) ?_
            refine lv_lload hx hb d_M_repeat__75 (lv_at hl 5 rfl) ?_
            refine W.lcmp hx hb d_M_repeat__77 ?_
            refine lv_if_le (tgt := 89) hx hb d_M_repeat__78 (by decide) (fun c_78 => ?_) (fun c_78 => ?_)
            · refine lv_iinc (v := (nI (F + 1 + j)) + 1) (lv' := [(7, .int ((nI (F + 1 + j)) + 1)), (8, .long (rsv n d g (F + 1 + j))), (0, .ref o), (1, .int (nI F)), (2, .int (nI T)), (4, .int (nI (rp n d g F j))), (5, .long (rsv n d g (rp n d g F j)))]) hx hb d_M_repeat__89 hl (k := 6) rfl rfl (by decide) rfl (fun ls hl => ?_)
              refine lv_goto (tgt := 56) hx hb d_M_repeat__92 (by decide) ?_
              exact ih56 (j + 1) (nI (rp n d g F j)) (rsv n d g (rp n d g F j)) ((nI (F + 1 + j)) + 1) ls (⟨by have := rj2_in (by omega) c_59; omega, by omega, (by rw [rp, if_neg (show ¬ rsv n d g (rp n d g F j) < rsv n d g (F + 1 + j) from cmp_le.mp c_78)]), (by rw [rp, if_neg (show ¬ rsv n d g (rp n d g F j) < rsv n d g (F + 1 + j) from cmp_le.mp c_78)]), nI_1 _⟩) (lv_sub hl [2, 3, 4, 5, 6, 0] rfl)
            · refine lv_iload hx hb d_M_repeat__81 (lv_at hl 6 rfl) ?_
              refine lv_istore (lv' := [(4, .int (nI (F + 1 + j))), (8, .long (rsv n d g (F + 1 + j))), (0, .ref o), (1, .int (nI F)), (2, .int (nI T)), (5, .long (rsv n d g (rp n d g F j))), (7, .int (nI (F + 1 + j)))]) hx hb d_M_repeat__83 hl (by decide) rfl (fun ls hl => ?_)
              refine lv_lload hx hb d_M_repeat__85 (lv_at hl 1 rfl) ?_
              refine lv_lstore (lv' := [(5, .long (rsv n d g (F + 1 + j))), (4, .int (nI (F + 1 + j))), (8, .long (rsv n d g (F + 1 + j))), (0, .ref o), (1, .int (nI F)), (2, .int (nI T)), (7, .int (nI (F + 1 + j)))]) hx hb d_M_repeat__87 hl (by decide) rfl (fun ls hl => ?_)
              refine lv_iinc (v := (nI (F + 1 + j)) + 1) (lv' := [(7, .int ((nI (F + 1 + j)) + 1)), (5, .long (rsv n d g (F + 1 + j))), (4, .int (nI (F + 1 + j))), (8, .long (rsv n d g (F + 1 + j))), (0, .ref o), (1, .int (nI F)), (2, .int (nI T))]) hx hb d_M_repeat__89 hl (k := 6) rfl rfl (by decide) rfl (fun ls hl => ?_)
              refine lv_goto (tgt := 56) hx hb d_M_repeat__92 (by decide) ?_
              exact ih56 (j + 1) (nI (F + 1 + j)) (rsv n d g (F + 1 + j)) ((nI (F + 1 + j)) + 1) ls (⟨by have := rj2_in (by omega) c_59; omega, by omega, (by rw [rp, if_pos (show rsv n d g (rp n d g F j) < rsv n d g (F + 1 + j) from Decidable.not_not.mp (fun q => c_78 (cmp_le.mpr q)))]), (by rw [rp, if_pos (show rsv n d g (rp n d g F j) < rsv n d g (F + 1 + j) from Decidable.not_not.mp (fun q => c_78 (cmp_le.mpr q)))]), nI_1 _⟩) (lv_sub hl [4, 5, 6, 2, 1, 0] rfl)
      exact loop_56 (T + 1) 0 (nI F) (rsv n d g F) ((nI F) + 1) ls (⟨by omega, by omega, rfl, rfl, nI_1 F⟩) (lv_sub hl [4, 5, 6, 2, 1, 0] rfl)
    · exact thrw hx hb hlt hown hg hN x_A st_112 hU hV hS (by rw [hml]; exact hl.1) d_M_repeat__28 d_M_repeat__31 d_M_repeat__32 d_M_repeat__34 d_M_repeat__37 hno (Nat.le_of_ble_eq_true rfl) (Nat.le_of_ble_eq_true rfl) (Nat.le_of_ble_eq_true rfl) (Nat.le_of_ble_eq_true rfl) hlocks hP hK hD rfl ⟨cr_2 c_25, rfl⟩ (Nat.le_of_ble_eq_true rfl) (Nat.le_of_ble_eq_true rfl)

set_option maxHeartbeats 4000000 in
set_option maxRecDepth 100000 in
/-- fill(s, a) -/
theorem c_M_fill_ok (l : Launch) (hlt : l.stackTraces = false) (D : va_G) (cI cZ cJ cO : ClassId) (sz : Nat) (o r0 l1 l2 l3 bb da ga : Nat) (n : Nat) (d g : Nat → Int32) (h4 : 4 ≤ n) (h64 : n ≤ 64) (s9 a : Int32) : vx_Met l y_M_fill (wq y_M_fill c_M_fill 3 (some .int)) ({ frames := 6, cells := 1, slots := 6, locals := 100 }) (tP D (TY cI cZ cJ cO) [(o, .inr (3, [.ref r0, .ref l1, .ref l2, .ref l3, .ref bb])), (r0, .inr (2, [.ref da, .ref ga])), (da, .inl (cI, n, .inl d)), (ga, .inl (cZ, n, .inl g))] [.ref o, .int s9, .int a] sz) (va_Qi (fun (r : Int32) (u : va_W) => cFil n s9 a = 0 ∧ u = [(o, .inr (3, [.ref r0, .ref l1, .ref l2, .ref l3, .ref bb])), (r0, .inr (2, [.ref da, .ref ga])), (da, .inl (cI, n, .inl ((fil n d g s9 a).1))), (ga, .inl (cZ, n, .inl ((fil n d g s9 a).2.1)))] ∧ r = nI (fil n d g s9 a).2.2) (mB D (TY cI cZ cJ cO) (va_A [(o, .inr (3, [.ref r0, .ref l1, .ref l2, .ref l3, .ref bb])), (r0, .inr (2, [.ref da, .ref ga])), (da, .inl (cI, n, .inl d)), (ga, .inl (cZ, n, .inl g))] sz)) (va_A [(o, .inr (3, [.ref r0, .ref l1, .ref l2, .ref l3, .ref bb])), (r0, .inr (2, [.ref da, .ref ga])), (da, .inl (cI, n, .inl d)), (ga, .inl (cZ, n, .inl g))] sz)) (vx_X (fun (u : va_W) => u = [(o, .inr (3, [.ref r0, .ref l1, .ref l2, .ref l3, .ref bb])), (r0, .inr (2, [.ref da, .ref ga])), (da, .inl (cI, n, .inl d)), (ga, .inl (cZ, n, .inl g))]) (xB D (TY cI cZ cJ cO) (va_A [(o, .inr (3, [.ref r0, .ref l1, .ref l2, .ref l3, .ref bb])), (r0, .inr (2, [.ref da, .ref ga])), (da, .inl (cI, n, .inl d)), (ga, .inl (cZ, n, .inl g))] sz) (fun E => cFil n s9 a = 1 ∧ E = eA)) (va_A [(o, .inr (3, [.ref r0, .ref l1, .ref l2, .ref l3, .ref bb])), (r0, .inr (2, [.ref da, .ref ga])), (da, .inl (cI, n, .inl d)), (ga, .inl (cZ, n, .inl g))] sz)) 1 6 (va_A [(o, .inr (3, [.ref r0, .ref l1, .ref l2, .ref l3, .ref bb])), (r0, .inr (2, [.ref da, .ref ga])), (da, .inl (cI, n, .inl d)), (ga, .inl (cZ, n, .inl g))] sz) := by
  refine vx_ofW (cc := c_M_fill) (maxL := 3) (ret := (some .int)) (by decide) rfl ?_
  intro p e s m args below meth c s₁ B hml hno hv
  obtain ⟨rfl, hsz, hP, hK, hD0, hN, hU, hV⟩ := hv
  have hx := B.exec
  have hb := B.bytes
  have hr := B.returns
  have hg := gt_h (atoms_spec (ws := (wq y_M_fill c_M_fill 3 (some .int))) B.pre)
  have hown : s.vm.findClass "RubbingMirrors" = some m.cls := findClass_of_methodNamed B.named
  have hlocks := B.notSynchronized
  subst hsz
  have hD := hD0.self (sz := s.heap.size)
  generalize hAe : va_A [(o, .inr (3, [.ref r0, .ref l1, .ref l2, .ref l3, .ref bb])), (r0, .inr (2, [.ref da, .ref ga])), (da, .inl (cI, n, .inl d)), (ga, .inl (cZ, n, .inl g))] s.heap.size = A at hD hU hV ⊢
  have hA : ∀ q : Nat, s.heap.size ≤ q → A q := fun q h => by rw [← hAe]; exact Or.inr h
  have hS : va_S A s.heap s.heap [] := va_S.rf
  have hl := lv_entry ([.ref o, .int s9, .int a]) (n := 3) (Nat.le_of_ble_eq_true rfl)
  rw [lg_entry_eq]
  generalize (lg_sl ([.ref o, .int s9, .int a]) ++ List.replicate (3 - (lg_sl ([.ref o, .int s9, .int a])).length) Slot.unset).toArray = ls at hl ⊢
  have hl : lv_has ls 3 [(0, .ref o), (1, .int s9), (2, .int a)] := hl
  refine lv_iload_n hx hb d_M_fill_0 rfl (lv_at hl 1 rfl) ?_
  refine lv_iconst (v := 0) hx hb d_M_fill_1 (by decide) ?_
  refine lv_aload_n hx hb d_M_fill_2 rfl (lv_at hl 0 rfl) ?_
  refine va_get (D := D) (ci := 3) (v := .ref r0) (C := Q_M) (T := F_M) (N := 5) hx hb hg in_M hown hK hP 0 rfl rfl 0 (by decide) (hg _ g_125) (fun _ h9 => h9) rfl d_M_fill_3 ?_
  refine vp_callSi (va_Run.run (va_runV (As := []) (rest := [.int 0, .int s9]) ⟨hx, hb, hml, hown, hg⟩ (c_R_size_ok l D cI cZ cJ cO r0 da ga n d g (by omega)) (cwV 0 hg (gv g_285 g_286 g_287 g_23 g_288) rfl rfl rfl (by decide +kernel) ⟨Nat.le_of_ble_eq_true rfl, Nat.le_of_ble_eq_true rfl⟩) (pV (hP.sub [1, 2, 3] rfl) hK hN (va_recv hK (hP.sub [1, 2, 3] rfl) (ci := 2) (q0 := 0) rfl rfl)) rfl rfl hl.1 rfl (lv_room (Nat.le_of_ble_eq_true rfl)) d_M_fill_6 ⟨Nat.zero_le _, Nat.zero_le _⟩)) (fun r_1 hr_1 => ?_)
  subst hr_1
  refine lv_iconst (v := 1) hx hb d_M_fill_9 (by decide) ?_
  refine lv_isub hx hb d_M_fill_10 ?_
  refine vp_callSi (va_Run.run (va_runS (As := [.int s9, .int 0, .int ((nI n) - 1)]) (rest := []) ⟨hx, hb, hml, hown, hg⟩ (c_M_isWithin_ok l D cI cZ cJ cO s9 0 ((nI n) - 1)) (va_cwS 3 hg (gs2 g_233 g_234 g_18 g_235) rfl rfl rfl (by decide +kernel) ⟨Nat.le_of_ble_eq_true rfl, Nat.le_of_ble_eq_true rfl⟩) (pS ba_nil hK hN) rfl rfl hl.1 rfl (lv_room (Nat.le_of_ble_eq_true rfl)) d_M_fill_11 ⟨Nat.zero_le _, Nat.zero_le _⟩)) (fun r_2 hr_2 => ?_)
  subst hr_2
  refine lv_if_ne (tgt := 27) hx hb d_M_fill_14 (by decide) (fun c_14 => ?_) (fun c_14 => ?_)
  · refine lv_iload_n hx hb d_M_fill_27 rfl (lv_at hl 2 rfl) ?_
    refine lv_iconst (v := (-1)) hx hb d_M_fill_28 (by decide) ?_
    refine lv_aload_n hx hb d_M_fill_29 rfl (lv_at hl 0 rfl) ?_
    refine va_get (D := D) (ci := 3) (v := .ref r0) (C := Q_M) (T := F_M) (N := 5) hx hb hg in_M hown hK hP 0 rfl rfl 0 (by decide) (hg _ g_125) (fun _ h9 => h9) rfl d_M_fill_30 ?_
    refine vp_callSi (va_Run.run (va_runV (As := []) (rest := [.int (-1), .int a]) ⟨hx, hb, hml, hown, hg⟩ (c_R_lastMirror_ok l D cI cZ cJ cO r0 da ga n d g (by omega)) (cwV 0 hg (gv g_293 g_294 g_295 g_23 g_296) rfl rfl rfl (by decide +kernel) ⟨Nat.le_of_ble_eq_true rfl, Nat.le_of_ble_eq_true rfl⟩) (pV (hP.sub [1, 2, 3] rfl) hK hN (va_recv hK (hP.sub [1, 2, 3] rfl) (ci := 2) (q0 := 0) rfl rfl)) rfl rfl hl.1 rfl (lv_room (Nat.le_of_ble_eq_true rfl)) d_M_fill_33 ⟨Nat.zero_le _, Nat.zero_le _⟩)) (fun r_3 hr_3 => ?_)
    subst hr_3
    refine vp_callSi (va_Run.run (va_runS (As := [.int a, .int (-1), .int (2 * nI n - 2)]) (rest := []) ⟨hx, hb, hml, hown, hg⟩ (c_M_isWithin_ok l D cI cZ cJ cO a (-1) (2 * nI n - 2)) (va_cwS 3 hg (gs2 g_233 g_234 g_18 g_235) rfl rfl rfl (by decide +kernel) ⟨Nat.le_of_ble_eq_true rfl, Nat.le_of_ble_eq_true rfl⟩) (pS ba_nil hK hN) rfl rfl hl.1 rfl (lv_room (Nat.le_of_ble_eq_true rfl)) d_M_fill_36 ⟨Nat.zero_le _, Nat.zero_le _⟩)) (fun r_4 hr_4 => ?_)
    subst hr_4
    refine lv_if_ne (tgt := 52) hx hb d_M_fill_39 (by decide) (fun c_39 => ?_) (fun c_39 => ?_)
    · obtain ⟨S, hS2, rfl⟩ := iwS0 h4 h64 c_14
      obtain ⟨ha1, ha2⟩ := iwA h4 h64 c_39
      refine lv_aload_n hx hb d_M_fill_52 rfl (lv_at hl 0 rfl) ?_
      refine va_get (D := D) (ci := 3) (v := .ref r0) (C := Q_M) (T := F_M) (N := 5) hx hb hg in_M hown hK hP 0 rfl rfl 0 (by decide) (hg _ g_125) (fun _ h9 => h9) rfl d_M_fill_53 ?_
      refine lv_iload_n hx hb d_M_fill_56 rfl (lv_at hl 1 rfl) ?_
      refine lv_iload_n hx hb d_M_fill_57 rfl (lv_at hl 2 rfl) ?_
      have hP := hP.sub (ws' := [(r0, .inr (2, [.ref da, .ref ga])), (da, .inl (cI, n, .inl d)), (ga, .inl (cZ, n, .inl g))] ++ [(o, .inr (3, [.ref r0, .ref l1, .ref l2, .ref l3, .ref bb]))]) [1, 2, 3, 0] rfl
      have hD := hD.sub (ws' := [(r0, .inr (2, [.ref da, .ref ga])), (da, .inl (cI, n, .inl d)), (ga, .inl (cZ, n, .inl g))] ++ [(o, .inr (3, [.ref r0, .ref l1, .ref l2, .ref l3, .ref bb]))]) [1, 2, 3, 0] (by decide) rfl
      refine mcalli (wc := [(r0, .inr (2, [.ref da, .ref ga])), (da, .inl (cI, n, .inl d)), (ga, .inl (cZ, n, .inl g))]) (wr := [(o, .inr (3, [.ref r0, .ref l1, .ref l2, .ref l3, .ref bb]))]) (va_runV (As := [.int (nI S), .int a]) (rest := []) ⟨hx, hb, hml, hown, hg⟩ (c_R_guessLost_ok l D cI cZ cJ cO s.heap.size r0 da ga n d g (by omega) S a (by omega) ha1 ha2) (cwV 2 hg (gv g_362 g_363 g_364 g_23 g_365) rfl rfl rfl (by decide +kernel) ⟨Nat.le_of_ble_eq_true rfl, Nat.le_of_ble_eq_true rfl⟩) (mV (ba_Pl hP) hK hN (ba_Dl hD) (va_recv hK (ba_Pl hP) (ci := 2) (q0 := 0) rfl rfl)) rfl rfl hl.1 rfl (lv_room (Nat.le_of_ble_eq_true rfl)) d_M_fill_58 ⟨Nat.le_of_ble_eq_true rfl, Nat.le_of_ble_eq_true rfl⟩) hP hD hS hA (fun r_6 u_5 H locs hu_5 hP hD hS => ?_)
      obtain ⟨rfl, rfl⟩ := hu_5
      have hP : va_P D cls [(r0, .inr (2, [.ref da, .ref ga])), (da, .inl (cI, n, .inl ((fl n S a.toInt d g n).1))), (ga, .inl (cZ, n, .inl ((fl n S a.toInt d g n).2.1))), (o, .inr (3, [.ref r0, .ref l1, .ref l2, .ref l3, .ref bb]))] H := hP
      have hD : va_D A [(r0, .inr (2, [.ref da, .ref ga])), (da, .inl (cI, n, .inl ((fl n S a.toInt d g n).1))), (ga, .inl (cZ, n, .inl ((fl n S a.toInt d g n).2.1))), (o, .inr (3, [.ref r0, .ref l1, .ref l2, .ref l3, .ref bb]))] := hD
      refine vx_ret ?_
      have hP := hP.sub (ws' := [(o, .inr (3, [.ref r0, .ref l1, .ref l2, .ref l3, .ref bb])), (r0, .inr (2, [.ref da, .ref ga])), (da, .inl (cI, n, .inl ((fl n S a.toInt d g n).1))), (ga, .inl (cZ, n, .inl ((fl n S a.toInt d g n).2.1)))]) [3, 0, 1, 2] rfl
      have hD := hD.sub (ws' := [(o, .inr (3, [.ref r0, .ref l1, .ref l2, .ref l3, .ref bb])), (r0, .inr (2, [.ref da, .ref ga])), (da, .inl (cI, n, .inl ((fl n S a.toInt d g n).1))), (ga, .inl (cZ, n, .inl ((fl n S a.toInt d g n).2.1)))]) [3, 0, 1, 2] (by decide) rfl
      refine W.widen (k := 1) (n := 6) (by omega) (by omega) ?_
      exact W.iret hx hb hr (fun t9 ht hW => ⟨⟨_, [(o, .inr (3, [.ref r0, .ref l1, .ref l2, .ref l3, .ref bb])), (r0, .inr (2, [.ref da, .ref ga])), (da, .inl (cI, n, .inl ((fl n S a.toInt d g n).1))), (ga, .inl (cZ, n, .inl ((fl n S a.toInt d g n).2.1)))], rfl, (by unfold fil; rw [cf_0 c_14 c_39, if_pos rfl, nI_toInt (show S < 2 ^ 31 by omega)]; exact ⟨rfl, rfl, rfl⟩), by rw [ht]; exact hP, va_K.moved hW.alike hK, hD⟩, hS.F ht⟩) hS.2.2 d_M_fill_61
    · exact thrw hx hb hlt hown hg hN x_A st_119 hU hV hS (by rw [hml]; exact hl.1) d_M_fill_42 d_M_fill_45 d_M_fill_46 d_M_fill_48 d_M_fill_51 hno (Nat.le_of_ble_eq_true rfl) (Nat.le_of_ble_eq_true rfl) (Nat.le_of_ble_eq_true rfl) (Nat.le_of_ble_eq_true rfl) hlocks hP hK hD rfl ⟨cf_2 c_39, rfl⟩ (Nat.le_of_ble_eq_true rfl) (Nat.le_of_ble_eq_true rfl)
  · exact thrw hx hb hlt hown hg hN x_A st_114 hU hV hS (by rw [hml]; exact hl.1) d_M_fill_17 d_M_fill_20 d_M_fill_21 d_M_fill_23 d_M_fill_26 hno (Nat.le_of_ble_eq_true rfl) (Nat.le_of_ble_eq_true rfl) (Nat.le_of_ble_eq_true rfl) (Nat.le_of_ble_eq_true rfl) hlocks hP hK hD rfl ⟨cf_1 c_14, rfl⟩ (Nat.le_of_ble_eq_true rfl) (Nat.le_of_ble_eq_true rfl)

set_option maxHeartbeats 4000000 in
set_option maxRecDepth 100000 in
/-- forget() -/
theorem c_M_forget_ok (l : Launch) (D : va_G) (cI cZ cJ cO : ClassId) (sz : Nat) (o r0 l1 l2 l3 bb da ga : Nat) (n : Nat) (d g : Nat → Int32) (h4 : 4 ≤ n) (h64 : n ≤ 64) : Met l y_M_forget (wq y_M_forget c_M_forget 1 (some .int)) ({ frames := 1, cells := 0, slots := 0, locals := 22 }) (mP D (TY cI cZ cJ cO) [(o, .inr (3, [.ref r0, .ref l1, .ref l2, .ref l3, .ref bb])), (r0, .inr (2, [.ref da, .ref ga])), (da, .inl (cI, n, .inl d)), (ga, .inl (cZ, n, .inl g))] [.ref o] sz) (va_Qi (fun (r : Int32) (u : va_W) => r = nI (lgs d g n).2.2 ∧ u = [(o, .inr (3, [.ref r0, .ref l1, .ref l2, .ref l3, .ref bb])), (r0, .inr (2, [.ref da, .ref ga])), (da, .inl (cI, n, .inl ((lgs d g n).1))), (ga, .inl (cZ, n, .inl ((lgs d g n).2.1)))]) (mB D (TY cI cZ cJ cO) (va_A [(o, .inr (3, [.ref r0, .ref l1, .ref l2, .ref l3, .ref bb])), (r0, .inr (2, [.ref da, .ref ga])), (da, .inl (cI, n, .inl d)), (ga, .inl (cZ, n, .inl g))] sz)) (va_A [(o, .inr (3, [.ref r0, .ref l1, .ref l2, .ref l3, .ref bb])), (r0, .inr (2, [.ref da, .ref ga])), (da, .inl (cI, n, .inl d)), (ga, .inl (cZ, n, .inl g))] sz)) 0 0 (va_A [(o, .inr (3, [.ref r0, .ref l1, .ref l2, .ref l3, .ref bb])), (r0, .inr (2, [.ref da, .ref ga])), (da, .inl (cI, n, .inl d)), (ga, .inl (cZ, n, .inl g))] sz) := by
  refine Met.ofW (cc := c_M_forget) (maxL := 1) (ret := (some .int)) (by decide) rfl ?_
  intro p e s m args below meth c s₁ B hml hv
  obtain ⟨rfl, hsz, hP, hK, hD0, hN⟩ := hv
  have hx := B.exec
  have hb := B.bytes
  have hr := B.returns
  have hg := gt_h (atoms_spec (ws := (wq y_M_forget c_M_forget 1 (some .int))) B.pre)
  have hown : s.vm.findClass "RubbingMirrors" = some m.cls := findClass_of_methodNamed B.named
  have hlocks := B.notSynchronized
  subst hsz
  have hD := hD0.self (sz := s.heap.size)
  generalize hAe : va_A [(o, .inr (3, [.ref r0, .ref l1, .ref l2, .ref l3, .ref bb])), (r0, .inr (2, [.ref da, .ref ga])), (da, .inl (cI, n, .inl d)), (ga, .inl (cZ, n, .inl g))] s.heap.size = A at hD ⊢
  have hA : ∀ q : Nat, s.heap.size ≤ q → A q := fun q h => by rw [← hAe]; exact Or.inr h
  have hS : va_S A s.heap s.heap [] := va_S.rf
  have hl := lv_entry ([.ref o]) (n := 1) (Nat.le_of_ble_eq_true rfl)
  rw [lg_entry_eq]
  generalize (lg_sl ([.ref o]) ++ List.replicate (1 - (lg_sl ([.ref o])).length) Slot.unset).toArray = ls at hl ⊢
  have hl : lv_has ls 1 [(0, .ref o)] := hl
  refine lv_aload_n hx hb d_M_forget_0 rfl (lv_at hl 0 rfl) ?_
  refine va_get (D := D) (ci := 3) (v := .ref r0) (C := Q_M) (T := F_M) (N := 5) hx hb hg in_M hown hK hP 0 rfl rfl 0 (by decide) (hg _ g_125) (fun _ h9 => h9) rfl d_M_forget_1 ?_
  have hP := hP.sub (ws' := [(r0, .inr (2, [.ref da, .ref ga])), (da, .inl (cI, n, .inl d)), (ga, .inl (cZ, n, .inl g))] ++ [(o, .inr (3, [.ref r0, .ref l1, .ref l2, .ref l3, .ref bb]))]) [1, 2, 3, 0] rfl
  have hD := hD.sub (ws' := [(r0, .inr (2, [.ref da, .ref ga])), (da, .inl (cI, n, .inl d)), (ga, .inl (cZ, n, .inl g))] ++ [(o, .inr (3, [.ref r0, .ref l1, .ref l2, .ref l3, .ref bb]))]) [1, 2, 3, 0] (by decide) rfl
  refine mcalli (wc := [(r0, .inr (2, [.ref da, .ref ga])), (da, .inl (cI, n, .inl d)), (ga, .inl (cZ, n, .inl g))]) (wr := [(o, .inr (3, [.ref r0, .ref l1, .ref l2, .ref l3, .ref bb]))]) (va_runV (As := []) (rest := []) ⟨hx, hb, hml, hown, hg⟩ (c_R_loseGuesses_ok l D cI cZ cJ cO s.heap.size r0 da ga n d g (by omega)) (cwV 0 hg (gv g_145 g_146 g_147 g_23 g_148) rfl rfl rfl (by decide +kernel) ⟨Nat.le_of_ble_eq_true rfl, Nat.le_of_ble_eq_true rfl⟩) (mV (ba_Pl hP) hK hN (ba_Dl hD) (va_recv hK (ba_Pl hP) (ci := 2) (q0 := 0) rfl rfl)) rfl rfl hl.1 rfl (lv_room (Nat.le_of_ble_eq_true rfl)) d_M_forget_4 ⟨Nat.le_of_ble_eq_true rfl, Nat.le_of_ble_eq_true rfl⟩) hP hD hS hA (fun r_2 u_1 H locs hu_1 hP hD hS => ?_)
  obtain ⟨rfl, rfl⟩ := hu_1
  have hP : va_P D cls [(r0, .inr (2, [.ref da, .ref ga])), (da, .inl (cI, n, .inl ((lgs d g n).1))), (ga, .inl (cZ, n, .inl ((lgs d g n).2.1))), (o, .inr (3, [.ref r0, .ref l1, .ref l2, .ref l3, .ref bb]))] H := hP
  have hD : va_D A [(r0, .inr (2, [.ref da, .ref ga])), (da, .inl (cI, n, .inl ((lgs d g n).1))), (ga, .inl (cZ, n, .inl ((lgs d g n).2.1))), (o, .inr (3, [.ref r0, .ref l1, .ref l2, .ref l3, .ref bb]))] := hD
  have hP := hP.sub (ws' := [(o, .inr (3, [.ref r0, .ref l1, .ref l2, .ref l3, .ref bb])), (r0, .inr (2, [.ref da, .ref ga])), (da, .inl (cI, n, .inl ((lgs d g n).1))), (ga, .inl (cZ, n, .inl ((lgs d g n).2.1)))]) [3, 0, 1, 2] rfl
  have hD := hD.sub (ws' := [(o, .inr (3, [.ref r0, .ref l1, .ref l2, .ref l3, .ref bb])), (r0, .inr (2, [.ref da, .ref ga])), (da, .inl (cI, n, .inl ((lgs d g n).1))), (ga, .inl (cZ, n, .inl ((lgs d g n).2.1)))]) [3, 0, 1, 2] (by decide) rfl
  exact W.iret hx hb hr (fun t9 ht hW => ⟨⟨_, [(o, .inr (3, [.ref r0, .ref l1, .ref l2, .ref l3, .ref bb])), (r0, .inr (2, [.ref da, .ref ga])), (da, .inl (cI, n, .inl ((lgs d g n).1))), (ga, .inl (cZ, n, .inl ((lgs d g n).2.1)))], rfl, ⟨rfl, rfl⟩, by rw [ht]; exact hP, va_K.moved hW.alike hK, hD⟩, hS.F ht⟩) hS.2.2 d_M_forget_7

set_option maxHeartbeats 4000000 in
set_option maxRecDepth 100000 in
/-- findMirror() -/
theorem c_M_findMirror_ok (l : Launch) (D : va_G) (cI cZ cJ cO : ClassId) (sz : Nat) (o r0 l1 l2 l3 bb da ga : Nat) (n : Nat) (d g : Nat → Int32) (h4 : 4 ≤ n) (h64 : n ≤ 64) (fo wh t2 to co : Int32) : Met l y_M_findMirror (wq y_M_findMirror c_M_findMirror 4 none) ({ frames := 3, cells := 0, slots := 0, locals := 66 }) (mP D (TY cI cZ cJ cO) [(o, .inr (3, [.ref r0, .ref l1, .ref l2, .ref l3, .ref bb])), (r0, .inr (2, [.ref da, .ref ga])), (da, .inl (cI, n, .inl d)), (ga, .inl (cZ, n, .inl g)), (bb, .inr (1, [.int fo, .int wh, .int t2, .int to, .int co]))] [.ref o] sz) (va_Qv (fun (u : va_W) => u = [(o, .inr (3, [.ref r0, .ref l1, .ref l2, .ref l3, .ref bb])), (r0, .inr (2, [.ref da, .ref ga])), (da, .inl (cI, n, .inl d)), (ga, .inl (cZ, n, .inl g)), (bb, .inr (1, [.int ((fmC n d g (0, wh, t2, to, co) (2 * n - 1)).1), .int ((fmC n d g (0, wh, t2, to, co) (2 * n - 1)).2.1), .int ((fmC n d g (0, wh, t2, to, co) (2 * n - 1)).2.2.1), .int ((fmC n d g (0, wh, t2, to, co) (2 * n - 1)).2.2.2.1), .int ((fmC n d g (0, wh, t2, to, co) (2 * n - 1)).2.2.2.2)]))]) (mB D (TY cI cZ cJ cO) (va_A [(o, .inr (3, [.ref r0, .ref l1, .ref l2, .ref l3, .ref bb])), (r0, .inr (2, [.ref da, .ref ga])), (da, .inl (cI, n, .inl d)), (ga, .inl (cZ, n, .inl g)), (bb, .inr (1, [.int fo, .int wh, .int t2, .int to, .int co]))] sz)) (va_A [(o, .inr (3, [.ref r0, .ref l1, .ref l2, .ref l3, .ref bb])), (r0, .inr (2, [.ref da, .ref ga])), (da, .inl (cI, n, .inl d)), (ga, .inl (cZ, n, .inl g)), (bb, .inr (1, [.int fo, .int wh, .int t2, .int to, .int co]))] sz)) 0 0 (va_A [(o, .inr (3, [.ref r0, .ref l1, .ref l2, .ref l3, .ref bb])), (r0, .inr (2, [.ref da, .ref ga])), (da, .inl (cI, n, .inl d)), (ga, .inl (cZ, n, .inl g)), (bb, .inr (1, [.int fo, .int wh, .int t2, .int to, .int co]))] sz) := by
  refine Met.ofW (cc := c_M_findMirror) (maxL := 4) (ret := none) (by decide) rfl ?_
  intro p e s m args below meth c s₁ B hml hv
  obtain ⟨rfl, hsz, hP, hK, hD0, hN⟩ := hv
  have hx := B.exec
  have hb := B.bytes
  have hr := B.returns
  have hg := gt_h (atoms_spec (ws := (wq y_M_findMirror c_M_findMirror 4 none)) B.pre)
  have hown : s.vm.findClass "RubbingMirrors" = some m.cls := findClass_of_methodNamed B.named
  have hlocks := B.notSynchronized
  subst hsz
  have hD := hD0.self (sz := s.heap.size)
  generalize hAe : va_A [(o, .inr (3, [.ref r0, .ref l1, .ref l2, .ref l3, .ref bb])), (r0, .inr (2, [.ref da, .ref ga])), (da, .inl (cI, n, .inl d)), (ga, .inl (cZ, n, .inl g)), (bb, .inr (1, [.int fo, .int wh, .int t2, .int to, .int co]))] s.heap.size = A at hD ⊢
  have hA : ∀ q : Nat, s.heap.size ≤ q → A q := fun q h => by rw [← hAe]; exact Or.inr h
  have hS : va_S A s.heap s.heap [] := va_S.rf
  have hl := lv_entry ([.ref o]) (n := 4) (Nat.le_of_ble_eq_true rfl)
  rw [lg_entry_eq]
  generalize (lg_sl ([.ref o]) ++ List.replicate (4 - (lg_sl ([.ref o])).length) Slot.unset).toArray = ls at hl ⊢
  have hl : lv_has ls 4 [(0, .ref o)] := hl
  refine lv_iconst (v := 1) hx hb d_M_findMirror_0 (by decide) ?_
  refine lv_aload_n hx hb d_M_findMirror_1 rfl (lv_at hl 0 rfl) ?_
  refine va_get (D := D) (ci := 3) (v := .ref r0) (C := Q_M) (T := F_M) (N := 5) hx hb hg in_M hown hK hP 0 rfl rfl 0 (by decide) (hg _ g_125) (fun _ h9 => h9) rfl d_M_findMirror_2 ?_
  refine vp_callSi (va_Run.run (va_runV (As := []) (rest := [.int 1]) ⟨hx, hb, hml, hown, hg⟩ (c_R_size_ok l D cI cZ cJ cO r0 da ga n d g (by omega)) (cwV 0 hg (gv g_285 g_286 g_287 g_23 g_288) rfl rfl rfl (by decide +kernel) ⟨Nat.le_of_ble_eq_true rfl, Nat.le_of_ble_eq_true rfl⟩) (pV (hP.sub [1, 2, 3] rfl) hK hN (va_recv hK (hP.sub [1, 2, 3] rfl) (ci := 2) (q0 := 0) rfl rfl)) rfl rfl hl.1 rfl (lv_room (Nat.le_of_ble_eq_true rfl)) d_M_findMirror_5 ⟨Nat.zero_le _, Nat.zero_le _⟩)) (fun r_1 hr_1 => ?_)
  subst hr_1
  refine lv_iconst (v := 4) hx hb d_M_findMirror_8 (by decide) ?_
  refine lv_idiv hx hb d_M_findMirror_9 (by decide) ?_
  refine va_mmax hx hb (by rw [hml]; exact hl.1.symm) hown (hg _ g_106) (hg _ g_107) (hg _ g_24) (hg _ g_108) (Nat.le_of_ble_eq_true rfl) (Nat.le_of_ble_eq_true rfl) (Nat.le_of_ble_eq_true rfl) (Nat.le_of_ble_eq_true rfl) d_M_findMirror_10 ?_
  refine lv_topi (fun y_2 ey_2 => ?_)
  obtain rfl : y_2 = few n := ey_2
  refine lv_istore_n (lv' := [(1, .int (few n)), (0, .ref o)]) hx hb d_M_findMirror_13 rfl hl (by decide) rfl (fun ls hl => ?_)
  refine lv_aload_n hx hb d_M_findMirror_14 rfl (lv_at hl 1 rfl) ?_
  refine va_get (D := D) (ci := 3) (v := .ref bb) (C := Q_M) (T := F_M) (N := 5) hx hb hg in_M hown hK hP 0 rfl rfl 4 (by decide) (hg _ g_129) (fun _ h9 => h9) rfl d_M_findMirror_15 ?_
  have hP := hP.sub (ws' := [(bb, .inr (1, [.int fo, .int wh, .int t2, .int to, .int co]))] ++ [(o, .inr (3, [.ref r0, .ref l1, .ref l2, .ref l3, .ref bb])), (r0, .inr (2, [.ref da, .ref ga])), (da, .inl (cI, n, .inl d)), (ga, .inl (cZ, n, .inl g))]) [4, 0, 1, 2, 3] rfl
  have hD := hD.sub (ws' := [(bb, .inr (1, [.int fo, .int wh, .int t2, .int to, .int co]))] ++ [(o, .inr (3, [.ref r0, .ref l1, .ref l2, .ref l3, .ref bb])), (r0, .inr (2, [.ref da, .ref ga])), (da, .inl (cI, n, .inl d)), (ga, .inl (cZ, n, .inl g))]) [4, 0, 1, 2, 3] (by decide) rfl
  refine mcallv (wc := [(bb, .inr (1, [.int fo, .int wh, .int t2, .int to, .int co]))]) (wr := [(o, .inr (3, [.ref r0, .ref l1, .ref l2, .ref l3, .ref bb])), (r0, .inr (2, [.ref da, .ref ga])), (da, .inl (cI, n, .inl d)), (ga, .inl (cZ, n, .inl g))]) (va_runV (As := []) (rest := []) ⟨hx, hb, hml, hown, hg⟩ (c_B_clear_ok l D cI cZ cJ cO s.heap.size bb fo wh t2 to co) (cwV 0 hg (gv g_289 g_290 g_291 g_22 g_292) rfl rfl rfl (by decide +kernel) ⟨Nat.le_of_ble_eq_true rfl, Nat.le_of_ble_eq_true rfl⟩) (mV (ba_Pl hP) hK hN (ba_Dl hD) (va_recv hK (ba_Pl hP) (ci := 1) (q0 := 0) rfl rfl)) rfl rfl hl.1 rfl (lv_room (Nat.le_of_ble_eq_true rfl)) d_M_findMirror_18 ⟨Nat.le_of_ble_eq_true rfl, Nat.le_of_ble_eq_true rfl⟩) hP hD hS hA (fun u_3 H locs hu_3 hP hD hS => ?_)
  subst hu_3
  have hP : va_P D cls [(bb, .inr (1, [.int 0, .int wh, .int t2, .int to, .int co])), (o, .inr (3, [.ref r0, .ref l1, .ref l2, .ref l3, .ref bb])), (r0, .inr (2, [.ref da, .ref ga])), (da, .inl (cI, n, .inl d)), (ga, .inl (cZ, n, .inl g))] H := hP
  have hD : va_D A [(bb, .inr (1, [.int 0, .int wh, .int t2, .int to, .int co])), (o, .inr (3, [.ref r0, .ref l1, .ref l2, .ref l3, .ref bb])), (r0, .inr (2, [.ref da, .ref ga])), (da, .inl (cI, n, .inl d)), (ga, .inl (cZ, n, .inl g))] := hD
  refine lv_iconst (v := 0) hx hb d_M_findMirror_21 (by decide) ?_
  refine lv_istore_n (lv' := [(2, .int 0), (1, .int (few n)), (0, .ref o)]) hx hb d_M_findMirror_22 rfl hl (by decide) rfl (fun ls hl => ?_)
  have loop_23 : ∀ (f23 : Nat) (j : Nat) (fo1 wh1 t21 to1 co1 : Int32) (x2 : Int32) (H : Heap) (locs : List Loc) (ls : Array Slot), (j ≤ 2 * n - 1 ∧ 2 * n - 1 < j + f23 ∧ x2 = nI j ∧ (fo1, wh1, t21, to1, co1) = fmC n d g (0, wh, t2, to, co) j) → va_P D cls [(o, .inr (3, [.ref r0, .ref l1, .ref l2, .ref l3, .ref bb])), (r0, .inr (2, [.ref da, .ref ga])), (da, .inl (cI, n, .inl d)), (ga, .inl (cZ, n, .inl g)), (bb, .inr (1, [.int fo1, .int wh1, .int t21, .int to1, .int co1]))] H → va_D A [(o, .inr (3, [.ref r0, .ref l1, .ref l2, .ref l3, .ref bb])), (r0, .inr (2, [.ref da, .ref ga])), (da, .inl (cI, n, .inl d)), (ga, .inl (cZ, n, .inl g)), (bb, .inr (1, [.int fo1, .int wh1, .int t21, .int to1, .int co1]))] → va_S A s.heap H locs → lv_has ls 4 [(0, .ref o), (1, .int (few n)), (2, .int x2)] → W p l e (headSpec (wq y_M_findMirror c_M_findMirror 4 none) ({ frames := 3, cells := 0, slots := 0, locals := 66 })).room s m ([.ref o] : List Value).toArray below meth c H locs 0 0 (MQ below (va_Qv (fun (u : va_W) => u = [(o, .inr (3, [.ref r0, .ref l1, .ref l2, .ref l3, .ref bb])), (r0, .inr (2, [.ref da, .ref ga])), (da, .inl (cI, n, .inl d)), (ga, .inl (cZ, n, .inl g)), (bb, .inr (1, [.int ((fmC n d g (0, wh, t2, to, co) (2 * n - 1)).1), .int ((fmC n d g (0, wh, t2, to, co) (2 * n - 1)).2.1), .int ((fmC n d g (0, wh, t2, to, co) (2 * n - 1)).2.2.1), .int ((fmC n d g (0, wh, t2, to, co) (2 * n - 1)).2.2.2.1), .int ((fmC n d g (0, wh, t2, to, co) (2 * n - 1)).2.2.2.2)]))]) (mB D (TY cI cZ cJ cO) A) A) ([.ref o] : List Value).toArray s 0 0 A) (F0 m 23 ls []) := by
    intro f23
    induction f23 with
    | zero =>
      intro j fo1 wh1 t21 to1 co1 x2 H locs ls hI hP hD hS hl
      obtain ⟨hj1, hj2, rfl, hq⟩ := hI
      omega
    | succ f23 ih23 =>
      intro j fo1 wh1 t21 to1 co1 x2 H locs ls hI hP hD hS hl
      obtain ⟨hj1, hj2, rfl, hq⟩ := hI
      refine lv_iload_n hx hb d_M_findMirror_23 rfl (lv_at hl 2 rfl) ?_
      refine lv_aload_n hx hb d_M_findMirror_24 rfl (lv_at hl 0 rfl) ?_
      refine va_get (D := D) (ci := 3) (v := .ref r0) (C := Q_M) (T := F_M) (N := 5) hx hb hg in_M hown hK hP 0 rfl rfl 0 (by decide) (hg _ g_125) (fun _ h9 => h9) rfl d_M_findMirror_25 ?_
      refine vp_callSi (va_Run.run (va_runV (As := []) (rest := [.int (nI j)]) ⟨hx, hb, hml, hown, hg⟩ (c_R_lastMirror_ok l D cI cZ cJ cO r0 da ga n d g (by omega)) (cwV 0 hg (gv g_293 g_294 g_295 g_23 g_296) rfl rfl rfl (by decide +kernel) ⟨Nat.le_of_ble_eq_true rfl, Nat.le_of_ble_eq_true rfl⟩) (pV (hP.sub [1, 2, 3] rfl) hK hN (va_recv hK (hP.sub [1, 2, 3] rfl) (ci := 2) (q0 := 0) rfl rfl)) rfl rfl hl.1 rfl (lv_room (Nat.le_of_ble_eq_true rfl)) d_M_findMirror_28 ⟨Nat.zero_le _, Nat.zero_le _⟩)) (fun r_5 hr_5 => ?_)
      subst hr_5
      refine lv_icmp_gt (tgt := 72) hx hb d_M_findMirror_31 (by decide) (fun c_31 => ?_) (fun c_31 => ?_)
      · exact W.vret hx hb hr (fun t9 ht hW => ⟨⟨[(o, .inr (3, [.ref r0, .ref l1, .ref l2, .ref l3, .ref bb])), (r0, .inr (2, [.ref da, .ref ga])), (da, .inl (cI, n, .inl d)), (ga, .inl (cZ, n, .inl g)), (bb, .inr (1, [.int fo1, .int wh1, .int t21, .int to1, .int co1]))], rfl, (by dsimp only; rw [oj_out h4 h64 hj1 c_31] at hq; rw [← hq]), by rw [ht]; exact hP, va_K.moved hW.alike hK, hD⟩, hS.F ht⟩) hS.2.2 d_M_findMirror_72
      · refine lv_aload_n hx hb d_M_findMirror_34 rfl (lv_at hl 0 rfl) ?_
        refine va_get (D := D) (ci := 3) (v := .ref r0) (C := Q_M) (T := F_M) (N := 5) hx hb hg in_M hown hK hP 0 rfl rfl 0 (by decide) (hg _ g_125) (fun _ h9 => h9) rfl d_M_findMirror_35 ?_
        refine lv_iload_n hx hb d_M_findMirror_38 rfl (lv_at hl 2 rfl) ?_
        refine vp_callSi (va_Run.run (va_runV (As := [.int (nI j)]) (rest := []) ⟨hx, hb, hml, hown, hg⟩ (c_R_mirrorPairs_ok l D cI cZ cJ cO r0 da ga n d g (by omega) j (by omega)) (cwV 1 hg (gv g_297 g_298 g_299 g_23 g_300) rfl rfl rfl (by decide +kernel) ⟨Nat.le_of_ble_eq_true rfl, Nat.le_of_ble_eq_true rfl⟩) (pV (hP.sub [1, 2, 3] rfl) hK hN (va_recv hK (hP.sub [1, 2, 3] rfl) (ci := 2) (q0 := 0) rfl rfl)) rfl rfl hl.1 rfl (lv_room (Nat.le_of_ble_eq_true rfl)) d_M_findMirror_39 ⟨Nat.zero_le _, Nat.zero_le _⟩)) (fun r_6 hr_6 => ?_)
        subst hr_6
        refine lv_istore_n (lv' := [(3, .int (nI (mp n d g j ((j + 1) / 2)))), (0, .ref o), (1, .int (few n)), (2, .int (nI j))]) hx hb d_M_findMirror_42 rfl hl (by decide) rfl (fun ls hl => ?_)
        refine lv_iload_n hx hb d_M_findMirror_43 rfl (lv_at hl 0 rfl) ?_
        refine lv_iload_n hx hb d_M_findMirror_44 rfl (lv_at hl 2 rfl) ?_
        refine lv_icmp_lt (tgt := 66) hx hb d_M_findMirror_45 (by decide) (fun c_45 => ?_) (fun c_45 => ?_)
        · refine lv_iinc (v := (nI j) + 1) (lv' := [(2, .int ((nI j) + 1)), (3, .int (nI (mp n d g j ((j + 1) / 2)))), (0, .ref o), (1, .int (few n))]) hx hb d_M_findMirror_66 hl (k := 3) rfl rfl (by decide) rfl (fun ls hl => ?_)
          refine lv_goto (tgt := 23) hx hb d_M_findMirror_69 (by decide) ?_
          exact ih23 (j + 1) fo1 wh1 t21 to1 co1 ((nI j) + 1) _ _ ls (⟨by have := oj_in h4 h64 hj1 c_31; omega, by omega, nI_1 j, by rw [fmC, fC, if_pos c_45]; exact hq⟩) hP hD hS (lv_sub hl [2, 3, 0] rfl)
        · refine lv_aload_n hx hb d_M_findMirror_48 rfl (lv_at hl 1 rfl) ?_
          refine va_get (D := D) (ci := 3) (v := .ref bb) (C := Q_M) (T := F_M) (N := 5) hx hb hg in_M hown hK hP 0 rfl rfl 4 (by decide) (hg _ g_129) (fun _ h9 => h9) rfl d_M_findMirror_49 ?_
          refine lv_iload_n hx hb d_M_findMirror_52 rfl (lv_at hl 3 rfl) ?_
          refine lv_iconst (v := (-1)) hx hb d_M_findMirror_53 (by decide) ?_
          refine lv_aload_n hx hb d_M_findMirror_54 rfl (lv_at hl 1 rfl) ?_
          refine va_get (D := D) (ci := 3) (v := .ref r0) (C := Q_M) (T := F_M) (N := 5) hx hb hg in_M hown hK hP 0 rfl rfl 0 (by decide) (hg _ g_125) (fun _ h9 => h9) rfl d_M_findMirror_55 ?_
          refine lv_iload_n hx hb d_M_findMirror_58 rfl (lv_at hl 3 rfl) ?_
          refine vp_callSi (va_Run.run (va_runV (As := [.int (nI j)]) (rest := [.int (-1), .int (nI j), .ref bb]) ⟨hx, hb, hml, hown, hg⟩ (c_R_mirrorOff_ok l D cI cZ cJ cO r0 da ga n d g (by omega) j (by omega)) (cwV 1 hg (gv g_305 g_306 g_307 g_23 g_308) rfl rfl rfl (by decide +kernel) ⟨Nat.le_of_ble_eq_true rfl, Nat.le_of_ble_eq_true rfl⟩) (pV (hP.sub [1, 2, 3] rfl) hK hN (va_recv hK (hP.sub [1, 2, 3] rfl) (ci := 2) (q0 := 0) rfl rfl)) rfl rfl hl.1 rfl (lv_room (Nat.le_of_ble_eq_true rfl)) d_M_findMirror_59 ⟨Nat.zero_le _, Nat.zero_le _⟩)) (fun r_7 hr_7 => ?_)
          subst hr_7
          refine lv_iload_n hx hb d_M_findMirror_62 rfl (lv_at hl 0 rfl) ?_
          have hP := hP.sub (ws' := [(bb, .inr (1, [.int fo1, .int wh1, .int t21, .int to1, .int co1]))] ++ [(o, .inr (3, [.ref r0, .ref l1, .ref l2, .ref l3, .ref bb])), (r0, .inr (2, [.ref da, .ref ga])), (da, .inl (cI, n, .inl d)), (ga, .inl (cZ, n, .inl g))]) [4, 0, 1, 2, 3] rfl
          have hD := hD.sub (ws' := [(bb, .inr (1, [.int fo1, .int wh1, .int t21, .int to1, .int co1]))] ++ [(o, .inr (3, [.ref r0, .ref l1, .ref l2, .ref l3, .ref bb])), (r0, .inr (2, [.ref da, .ref ga])), (da, .inl (cI, n, .inl d)), (ga, .inl (cZ, n, .inl g))]) [4, 0, 1, 2, 3] (by decide) rfl
          refine mcallv (wc := [(bb, .inr (1, [.int fo1, .int wh1, .int t21, .int to1, .int co1]))]) (wr := [(o, .inr (3, [.ref r0, .ref l1, .ref l2, .ref l3, .ref bb])), (r0, .inr (2, [.ref da, .ref ga])), (da, .inl (cI, n, .inl d)), (ga, .inl (cZ, n, .inl g))]) (va_runV (As := [.int (nI j), .int (-1), .int (mo n d g j ((j + 1) / 2)), .int (nI (mp n d g j ((j + 1) / 2)))]) (rest := []) ⟨hx, hb, hml, hown, hg⟩ (c_B_offer_ok l D cI cZ cJ cO H.size bb fo1 wh1 t21 to1 co1 (nI j) (-1) (mo n d g j ((j + 1) / 2)) (nI (mp n d g j ((j + 1) / 2)))) (cwV 4 hg (gv g_309 g_310 g_311 g_22 g_312) rfl rfl rfl (by decide +kernel) ⟨Nat.le_of_ble_eq_true rfl, Nat.le_of_ble_eq_true rfl⟩) (mV (ba_Pl hP) hK hN (ba_Dl hD) (va_recv hK (ba_Pl hP) (ci := 1) (q0 := 0) rfl rfl)) rfl rfl hl.1 rfl (lv_room (Nat.le_of_ble_eq_true rfl)) d_M_findMirror_63 ⟨Nat.le_of_ble_eq_true rfl, Nat.le_of_ble_eq_true rfl⟩) hP hD hS hA (fun u_8 H locs hu_8 hP hD hS => ?_)
          subst hu_8
          have hP : va_P D cls [(bb, .inr (1, [.int ((offer (fo1, wh1, t21, to1, co1) (nI j) (-1) (mo n d g j ((j + 1) / 2)) (nI (mp n d g j ((j + 1) / 2)))).1), .int ((offer (fo1, wh1, t21, to1, co1) (nI j) (-1) (mo n d g j ((j + 1) / 2)) (nI (mp n d g j ((j + 1) / 2)))).2.1), .int ((offer (fo1, wh1, t21, to1, co1) (nI j) (-1) (mo n d g j ((j + 1) / 2)) (nI (mp n d g j ((j + 1) / 2)))).2.2.1), .int ((offer (fo1, wh1, t21, to1, co1) (nI j) (-1) (mo n d g j ((j + 1) / 2)) (nI (mp n d g j ((j + 1) / 2)))).2.2.2.1), .int ((offer (fo1, wh1, t21, to1, co1) (nI j) (-1) (mo n d g j ((j + 1) / 2)) (nI (mp n d g j ((j + 1) / 2)))).2.2.2.2)])), (o, .inr (3, [.ref r0, .ref l1, .ref l2, .ref l3, .ref bb])), (r0, .inr (2, [.ref da, .ref ga])), (da, .inl (cI, n, .inl d)), (ga, .inl (cZ, n, .inl g))] H := hP
          have hD : va_D A [(bb, .inr (1, [.int ((offer (fo1, wh1, t21, to1, co1) (nI j) (-1) (mo n d g j ((j + 1) / 2)) (nI (mp n d g j ((j + 1) / 2)))).1), .int ((offer (fo1, wh1, t21, to1, co1) (nI j) (-1) (mo n d g j ((j + 1) / 2)) (nI (mp n d g j ((j + 1) / 2)))).2.1), .int ((offer (fo1, wh1, t21, to1, co1) (nI j) (-1) (mo n d g j ((j + 1) / 2)) (nI (mp n d g j ((j + 1) / 2)))).2.2.1), .int ((offer (fo1, wh1, t21, to1, co1) (nI j) (-1) (mo n d g j ((j + 1) / 2)) (nI (mp n d g j ((j + 1) / 2)))).2.2.2.1), .int ((offer (fo1, wh1, t21, to1, co1) (nI j) (-1) (mo n d g j ((j + 1) / 2)) (nI (mp n d g j ((j + 1) / 2)))).2.2.2.2)])), (o, .inr (3, [.ref r0, .ref l1, .ref l2, .ref l3, .ref bb])), (r0, .inr (2, [.ref da, .ref ga])), (da, .inl (cI, n, .inl d)), (ga, .inl (cZ, n, .inl g))] := hD
          refine lv_iinc (v := (nI j) + 1) (lv' := [(2, .int ((nI j) + 1)), (3, .int (nI (mp n d g j ((j + 1) / 2)))), (0, .ref o), (1, .int (few n))]) hx hb d_M_findMirror_66 hl (k := 3) rfl rfl (by decide) rfl (fun ls hl => ?_)
          refine lv_goto (tgt := 23) hx hb d_M_findMirror_69 (by decide) ?_
          have hP := hP.sub (ws' := [(o, .inr (3, [.ref r0, .ref l1, .ref l2, .ref l3, .ref bb])), (r0, .inr (2, [.ref da, .ref ga])), (da, .inl (cI, n, .inl d)), (ga, .inl (cZ, n, .inl g)), (bb, .inr (1, [.int ((offer (fo1, wh1, t21, to1, co1) (nI j) (-1) (mo n d g j ((j + 1) / 2)) (nI (mp n d g j ((j + 1) / 2)))).1), .int ((offer (fo1, wh1, t21, to1, co1) (nI j) (-1) (mo n d g j ((j + 1) / 2)) (nI (mp n d g j ((j + 1) / 2)))).2.1), .int ((offer (fo1, wh1, t21, to1, co1) (nI j) (-1) (mo n d g j ((j + 1) / 2)) (nI (mp n d g j ((j + 1) / 2)))).2.2.1), .int ((offer (fo1, wh1, t21, to1, co1) (nI j) (-1) (mo n d g j ((j + 1) / 2)) (nI (mp n d g j ((j + 1) / 2)))).2.2.2.1), .int ((offer (fo1, wh1, t21, to1, co1) (nI j) (-1) (mo n d g j ((j + 1) / 2)) (nI (mp n d g j ((j + 1) / 2)))).2.2.2.2)]))]) [1, 2, 3, 4, 0] rfl
          have hD := hD.sub (ws' := [(o, .inr (3, [.ref r0, .ref l1, .ref l2, .ref l3, .ref bb])), (r0, .inr (2, [.ref da, .ref ga])), (da, .inl (cI, n, .inl d)), (ga, .inl (cZ, n, .inl g)), (bb, .inr (1, [.int ((offer (fo1, wh1, t21, to1, co1) (nI j) (-1) (mo n d g j ((j + 1) / 2)) (nI (mp n d g j ((j + 1) / 2)))).1), .int ((offer (fo1, wh1, t21, to1, co1) (nI j) (-1) (mo n d g j ((j + 1) / 2)) (nI (mp n d g j ((j + 1) / 2)))).2.1), .int ((offer (fo1, wh1, t21, to1, co1) (nI j) (-1) (mo n d g j ((j + 1) / 2)) (nI (mp n d g j ((j + 1) / 2)))).2.2.1), .int ((offer (fo1, wh1, t21, to1, co1) (nI j) (-1) (mo n d g j ((j + 1) / 2)) (nI (mp n d g j ((j + 1) / 2)))).2.2.2.1), .int ((offer (fo1, wh1, t21, to1, co1) (nI j) (-1) (mo n d g j ((j + 1) / 2)) (nI (mp n d g j ((j + 1) / 2)))).2.2.2.2)]))]) [1, 2, 3, 4, 0] (by decide) rfl
          exact ih23 (j + 1) ((offer (fo1, wh1, t21, to1, co1) (nI j) (-1) (mo n d g j ((j + 1) / 2)) (nI (mp n d g j ((j + 1) / 2)))).1) ((offer (fo1, wh1, t21, to1, co1) (nI j) (-1) (mo n d g j ((j + 1) / 2)) (nI (mp n d g j ((j + 1) / 2)))).2.1) ((offer (fo1, wh1, t21, to1, co1) (nI j) (-1) (mo n d g j ((j + 1) / 2)) (nI (mp n d g j ((j + 1) / 2)))).2.2.1) ((offer (fo1, wh1, t21, to1, co1) (nI j) (-1) (mo n d g j ((j + 1) / 2)) (nI (mp n d g j ((j + 1) / 2)))).2.2.2.1) ((offer (fo1, wh1, t21, to1, co1) (nI j) (-1) (mo n d g j ((j + 1) / 2)) (nI (mp n d g j ((j + 1) / 2)))).2.2.2.2) ((nI j) + 1) _ _ ls (⟨by have := oj_in h4 h64 hj1 c_31; omega, by omega, nI_1 j, by rw [fmC, fC, if_neg c_45, ← hq]⟩) hP hD hS (lv_sub hl [2, 3, 0] rfl)
  have hP := hP.sub (ws' := [(o, .inr (3, [.ref r0, .ref l1, .ref l2, .ref l3, .ref bb])), (r0, .inr (2, [.ref da, .ref ga])), (da, .inl (cI, n, .inl d)), (ga, .inl (cZ, n, .inl g)), (bb, .inr (1, [.int 0, .int wh, .int t2, .int to, .int co]))]) [1, 2, 3, 4, 0] rfl
  have hD := hD.sub (ws' := [(o, .inr (3, [.ref r0, .ref l1, .ref l2, .ref l3, .ref bb])), (r0, .inr (2, [.ref da, .ref ga])), (da, .inl (cI, n, .inl d)), (ga, .inl (cZ, n, .inl g)), (bb, .inr (1, [.int 0, .int wh, .int t2, .int to, .int co]))]) [1, 2, 3, 4, 0] (by decide) rfl
  exact loop_23 (2 * n) 0 0 wh t2 to co 0 _ _ ls (⟨by omega, by omega, rfl, rfl⟩) hP hD hS (lv_sub hl [2, 1, 0] rfl)

set_option maxHeartbeats 4000000 in
set_option maxRecDepth 100000 in
/-- mirror(w) -/
theorem c_M_mirror_ok (l : Launch) (hlt : l.stackTraces = false) (D : va_G) (cI cZ cJ cO : ClassId) (sz : Nat) (o r0 l1 l2 l3 bb da ga : Nat) (n : Nat) (d g : Nat → Int32) (h4 : 4 ≤ n) (h64 : n ≤ 64) (fo wh t2 to co : Int32) (w9 : Int32) : vx_Met l y_M_mirror (wq y_M_mirror c_M_mirror 2 (some .long)) ({ frames := 6, cells := 1, slots := 6, locals := 100 }) (tP D (TY cI cZ cJ cO) [(o, .inr (3, [.ref r0, .ref l1, .ref l2, .ref l3, .ref bb])), (r0, .inr (2, [.ref da, .ref ga])), (da, .inl (cI, n, .inl d)), (ga, .inl (cZ, n, .inl g)), (bb, .inr (1, [.int fo, .int wh, .int t2, .int to, .int co]))] [.ref o, .int w9] sz) (va_Ql (fun (r : Int64) (u : va_W) => cMiC (fmC n d g (0, wh, t2, to, co) (2 * n - 1)).1 w9 = 0 ∧ u = [(o, .inr (3, [.ref r0, .ref l1, .ref l2, .ref l3, .ref bb])), (r0, .inr (2, [.ref da, .ref ga])), (da, .inl (cI, n, .inl d)), (ga, .inl (cZ, n, .inl g)), (bb, .inr (1, [.int ((fmC n d g (0, wh, t2, to, co) (2 * n - 1)).1), .int ((fmC n d g (0, wh, t2, to, co) (2 * n - 1)).2.1), .int ((fmC n d g (0, wh, t2, to, co) (2 * n - 1)).2.2.1), .int ((fmC n d g (0, wh, t2, to, co) (2 * n - 1)).2.2.2.1), .int ((fmC n d g (0, wh, t2, to, co) (2 * n - 1)).2.2.2.2)]))] ∧ r = aMiC (fmC n d g (0, wh, t2, to, co) (2 * n - 1)) w9) (mB D (TY cI cZ cJ cO) (va_A [(o, .inr (3, [.ref r0, .ref l1, .ref l2, .ref l3, .ref bb])), (r0, .inr (2, [.ref da, .ref ga])), (da, .inl (cI, n, .inl d)), (ga, .inl (cZ, n, .inl g)), (bb, .inr (1, [.int fo, .int wh, .int t2, .int to, .int co]))] sz)) (va_A [(o, .inr (3, [.ref r0, .ref l1, .ref l2, .ref l3, .ref bb])), (r0, .inr (2, [.ref da, .ref ga])), (da, .inl (cI, n, .inl d)), (ga, .inl (cZ, n, .inl g)), (bb, .inr (1, [.int fo, .int wh, .int t2, .int to, .int co]))] sz)) (vx_X (fun (u : va_W) => u = [(o, .inr (3, [.ref r0, .ref l1, .ref l2, .ref l3, .ref bb])), (r0, .inr (2, [.ref da, .ref ga])), (da, .inl (cI, n, .inl d)), (ga, .inl (cZ, n, .inl g)), (bb, .inr (1, [.int ((fmC n d g (0, wh, t2, to, co) (2 * n - 1)).1), .int ((fmC n d g (0, wh, t2, to, co) (2 * n - 1)).2.1), .int ((fmC n d g (0, wh, t2, to, co) (2 * n - 1)).2.2.1), .int ((fmC n d g (0, wh, t2, to, co) (2 * n - 1)).2.2.2.1), .int ((fmC n d g (0, wh, t2, to, co) (2 * n - 1)).2.2.2.2)]))]) (xB D (TY cI cZ cJ cO) (va_A [(o, .inr (3, [.ref r0, .ref l1, .ref l2, .ref l3, .ref bb])), (r0, .inr (2, [.ref da, .ref ga])), (da, .inl (cI, n, .inl d)), (ga, .inl (cZ, n, .inl g)), (bb, .inr (1, [.int fo, .int wh, .int t2, .int to, .int co]))] sz) (fun E => (cMiC (fmC n d g (0, wh, t2, to, co) (2 * n - 1)).1 w9 = 1 ∧ E = eS) ∨ (cMiC (fmC n d g (0, wh, t2, to, co) (2 * n - 1)).1 w9 = 2 ∧ E = eI))) (va_A [(o, .inr (3, [.ref r0, .ref l1, .ref l2, .ref l3, .ref bb])), (r0, .inr (2, [.ref da, .ref ga])), (da, .inl (cI, n, .inl d)), (ga, .inl (cZ, n, .inl g)), (bb, .inr (1, [.int fo, .int wh, .int t2, .int to, .int co]))] sz)) 1 6 (va_A [(o, .inr (3, [.ref r0, .ref l1, .ref l2, .ref l3, .ref bb])), (r0, .inr (2, [.ref da, .ref ga])), (da, .inl (cI, n, .inl d)), (ga, .inl (cZ, n, .inl g)), (bb, .inr (1, [.int fo, .int wh, .int t2, .int to, .int co]))] sz) := by
  refine vx_ofW (cc := c_M_mirror) (maxL := 2) (ret := (some .long)) (by decide) rfl ?_
  intro p e s m args below meth c s₁ B hml hno hv
  obtain ⟨rfl, hsz, hP, hK, hD0, hN, hU, hV⟩ := hv
  have hx := B.exec
  have hb := B.bytes
  have hr := B.returns
  have hg := gt_h (atoms_spec (ws := (wq y_M_mirror c_M_mirror 2 (some .long))) B.pre)
  have hown : s.vm.findClass "RubbingMirrors" = some m.cls := findClass_of_methodNamed B.named
  have hlocks := B.notSynchronized
  subst hsz
  have hD := hD0.self (sz := s.heap.size)
  generalize hAe : va_A [(o, .inr (3, [.ref r0, .ref l1, .ref l2, .ref l3, .ref bb])), (r0, .inr (2, [.ref da, .ref ga])), (da, .inl (cI, n, .inl d)), (ga, .inl (cZ, n, .inl g)), (bb, .inr (1, [.int fo, .int wh, .int t2, .int to, .int co]))] s.heap.size = A at hD hU hV ⊢
  have hA : ∀ q : Nat, s.heap.size ≤ q → A q := fun q h => by rw [← hAe]; exact Or.inr h
  have hS : va_S A s.heap s.heap [] := va_S.rf
  have hl := lv_entry ([.ref o, .int w9]) (n := 2) (Nat.le_of_ble_eq_true rfl)
  rw [lg_entry_eq]
  generalize (lg_sl ([.ref o, .int w9]) ++ List.replicate (2 - (lg_sl ([.ref o, .int w9])).length) Slot.unset).toArray = ls at hl ⊢
  have hl : lv_has ls 2 [(0, .ref o), (1, .int w9)] := hl
  refine lv_aload_n hx hb d_M_mirror_0 rfl (lv_at hl 0 rfl) ?_
  have hP := hP.sub (ws' := [(o, .inr (3, [.ref r0, .ref l1, .ref l2, .ref l3, .ref bb])), (r0, .inr (2, [.ref da, .ref ga])), (da, .inl (cI, n, .inl d)), (ga, .inl (cZ, n, .inl g)), (bb, .inr (1, [.int fo, .int wh, .int t2, .int to, .int co]))] ++ []) [0, 1, 2, 3, 4] rfl
  have hD := hD.sub (ws' := [(o, .inr (3, [.ref r0, .ref l1, .ref l2, .ref l3, .ref bb])), (r0, .inr (2, [.ref da, .ref ga])), (da, .inl (cI, n, .inl d)), (ga, .inl (cZ, n, .inl g)), (bb, .inr (1, [.int fo, .int wh, .int t2, .int to, .int co]))] ++ []) [0, 1, 2, 3, 4] (by decide) rfl
  refine mcallv (wc := [(o, .inr (3, [.ref r0, .ref l1, .ref l2, .ref l3, .ref bb])), (r0, .inr (2, [.ref da, .ref ga])), (da, .inl (cI, n, .inl d)), (ga, .inl (cZ, n, .inl g)), (bb, .inr (1, [.int fo, .int wh, .int t2, .int to, .int co]))]) (wr := []) (va_runV (As := []) (rest := []) ⟨hx, hb, hml, hown, hg⟩ (c_M_findMirror_ok l D cI cZ cJ cO s.heap.size o r0 l1 l2 l3 bb da ga n d g h4 h64 fo wh t2 to co) (cwV 0 hg (gv g_281 g_283 g_1 g_18 g_284) rfl rfl rfl (by decide +kernel) ⟨Nat.le_of_ble_eq_true rfl, Nat.le_of_ble_eq_true rfl⟩) (mV (ba_Pl hP) hK hN (ba_Dl hD) (va_recv hK (ba_Pl hP) (ci := 3) (q0 := 0) rfl rfl)) rfl rfl hl.1 rfl (lv_room (Nat.le_of_ble_eq_true rfl)) d_M_mirror_1 ⟨Nat.le_of_ble_eq_true rfl, Nat.le_of_ble_eq_true rfl⟩) hP hD hS hA (fun u_1 H locs hu_1 hP hD hS => ?_)
  subst hu_1
  have hP : va_P D cls [(o, .inr (3, [.ref r0, .ref l1, .ref l2, .ref l3, .ref bb])), (r0, .inr (2, [.ref da, .ref ga])), (da, .inl (cI, n, .inl d)), (ga, .inl (cZ, n, .inl g)), (bb, .inr (1, [.int ((fmC n d g (0, wh, t2, to, co) (2 * n - 1)).1), .int ((fmC n d g (0, wh, t2, to, co) (2 * n - 1)).2.1), .int ((fmC n d g (0, wh, t2, to, co) (2 * n - 1)).2.2.1), .int ((fmC n d g (0, wh, t2, to, co) (2 * n - 1)).2.2.2.1), .int ((fmC n d g (0, wh, t2, to, co) (2 * n - 1)).2.2.2.2)]))] H := hP
  have hD : va_D A [(o, .inr (3, [.ref r0, .ref l1, .ref l2, .ref l3, .ref bb])), (r0, .inr (2, [.ref da, .ref ga])), (da, .inl (cI, n, .inl d)), (ga, .inl (cZ, n, .inl g)), (bb, .inr (1, [.int ((fmC n d g (0, wh, t2, to, co) (2 * n - 1)).1), .int ((fmC n d g (0, wh, t2, to, co) (2 * n - 1)).2.1), .int ((fmC n d g (0, wh, t2, to, co) (2 * n - 1)).2.2.1), .int ((fmC n d g (0, wh, t2, to, co) (2 * n - 1)).2.2.2.1), .int ((fmC n d g (0, wh, t2, to, co) (2 * n - 1)).2.2.2.2)]))] := hD
  obtain ⟨⟨fo1, wh1, t21, to1, co1⟩, hfm⟩ : ∃ t, t = (fmC n d g (0, wh, t2, to, co) (2 * n - 1)) := ⟨_, rfl⟩
  rw [← hfm] at hP hD ⊢
  have hP : va_P D cls [(o, .inr (3, [.ref r0, .ref l1, .ref l2, .ref l3, .ref bb])), (r0, .inr (2, [.ref da, .ref ga])), (da, .inl (cI, n, .inl d)), (ga, .inl (cZ, n, .inl g)), (bb, .inr (1, [.int fo1, .int wh1, .int t21, .int to1, .int co1]))] H := hP
  have hD : va_D A [(o, .inr (3, [.ref r0, .ref l1, .ref l2, .ref l3, .ref bb])), (r0, .inr (2, [.ref da, .ref ga])), (da, .inl (cI, n, .inl d)), (ga, .inl (cZ, n, .inl g)), (bb, .inr (1, [.int fo1, .int wh1, .int t21, .int to1, .int co1]))] := hD
  refine lv_aload_n hx hb d_M_mirror_4 rfl (lv_at hl 0 rfl) ?_
  refine va_get (D := D) (ci := 3) (v := .ref bb) (C := Q_M) (T := F_M) (N := 5) hx hb hg in_M hown hK hP 0 rfl rfl 4 (by decide) (hg _ g_129) (fun _ h9 => h9) rfl d_M_mirror_5 ?_
  refine va_getN (host := "RubbingMirrors") (D := D) (ci := 1) (v := .int fo1) (C := Q_B) (T := F_B) (N := 5) hx hb hg in_B hown hK hP 4 rfl rfl 0 (by decide) (va_Nw.use rfl (hN.1 _ nw_1)) (fun _ h9 => h9) rfl d_M_mirror_8 ?_
  refine lv_if_ne (tgt := 24) hx hb d_M_mirror_11 (by decide) (fun c_11 => ?_) (fun c_11 => ?_)
  · refine lv_iload_n hx hb d_M_mirror_24 rfl (lv_at hl 1 rfl) ?_
    refine lv_iconst (v := 0) hx hb d_M_mirror_25 (by decide) ?_
    refine lv_iconst (v := 2) hx hb d_M_mirror_26 (by decide) ?_
    refine vp_callSi (va_Run.run (va_runS (As := [.int w9, .int 0, .int 2]) (rest := []) ⟨hx, hb, hml, hown, hg⟩ (c_M_isWithin_ok l D cI cZ cJ cO w9 0 2) (va_cwS 3 hg (gs2 g_233 g_234 g_18 g_235) rfl rfl rfl (by decide +kernel) ⟨Nat.le_of_ble_eq_true rfl, Nat.le_of_ble_eq_true rfl⟩) (pS ba_nil hK hN) rfl rfl hl.1 rfl (lv_room (Nat.le_of_ble_eq_true rfl)) d_M_mirror_27 ⟨Nat.zero_le _, Nat.zero_le _⟩)) (fun r_3 hr_3 => ?_)
    subst hr_3
    refine lv_if_ne (tgt := 43) hx hb d_M_mirror_30 (by decide) (fun c_30 => ?_) (fun c_30 => ?_)
    · refine lv_iload_n hx hb d_M_mirror_43 rfl (lv_at hl 1 rfl) ?_
      refine lv_if_ne (tgt := 56) hx hb d_M_mirror_44 (by decide) (fun c_44 => ?_) (fun c_44 => ?_)
      · refine lv_iload_n hx hb d_M_mirror_56 rfl (lv_at hl 1 rfl) ?_
        refine lv_iconst (v := 1) hx hb d_M_mirror_57 (by decide) ?_
        refine lv_icmp_ne (tgt := 72) hx hb d_M_mirror_58 (by decide) (fun c_58 => ?_) (fun c_58 => ?_)
        · refine lv_aload_n hx hb d_M_mirror_72 rfl (lv_at hl 0 rfl) ?_
          refine va_get (D := D) (ci := 3) (v := .ref bb) (C := Q_M) (T := F_M) (N := 5) hx hb hg in_M hown hK hP 0 rfl rfl 4 (by decide) (hg _ g_129) (fun _ h9 => h9) rfl d_M_mirror_73 ?_
          refine va_getN (host := "RubbingMirrors") (D := D) (ci := 1) (v := .int co1) (C := Q_B) (T := F_B) (N := 5) hx hb hg in_B hown hK hP 4 rfl rfl 4 (by decide) (va_Nw.use rfl (hN.1 _ nw_5)) (fun _ h9 => h9) rfl d_M_mirror_76 ?_
          refine lv_i2l (v := co1.toInt64) hx hb d_M_mirror_79 rfl ?_
          refine vx_ret ?_
          refine W.widen (k := 1) (n := 6) (by omega) (by omega) ?_
          exact W.lret hx hb hr (fun t9 ht hW => ⟨⟨_, [(o, .inr (3, [.ref r0, .ref l1, .ref l2, .ref l3, .ref bb])), (r0, .inr (2, [.ref da, .ref ga])), (da, .inl (cI, n, .inl d)), (ga, .inl (cZ, n, .inl g)), (bb, .inr (1, [.int fo1, .int wh1, .int t21, .int to1, .int co1]))], rfl, ⟨ci_0 c_11 c_30, rfl, by unfold aMiC; first | rw [if_pos c_44] | rw [if_neg c_44, if_pos c_58] | rw [if_neg c_44, if_neg c_58]⟩, by rw [ht]; exact hP, va_K.moved hW.alike hK, hD⟩, hS.F ht⟩) hS.2.2 d_M_mirror_80
        · refine lv_aload_n hx hb d_M_mirror_61 rfl (lv_at hl 0 rfl) ?_
          refine va_get (D := D) (ci := 3) (v := .ref bb) (C := Q_M) (T := F_M) (N := 5) hx hb hg in_M hown hK hP 0 rfl rfl 4 (by decide) (hg _ g_129) (fun _ h9 => h9) rfl d_M_mirror_62 ?_
          refine va_getN (host := "RubbingMirrors") (D := D) (ci := 1) (v := .int to1) (C := Q_B) (T := F_B) (N := 5) hx hb hg in_B hown hK hP 4 rfl rfl 3 (by decide) (va_Nw.use rfl (hN.1 _ nw_4)) (fun _ h9 => h9) rfl d_M_mirror_65 ?_
          refine lv_i2l (v := to1.toInt64) hx hb d_M_mirror_68 rfl ?_
          refine lv_goto (tgt := 80) hx hb d_M_mirror_69 (by decide) ?_
          refine vx_ret ?_
          refine W.widen (k := 1) (n := 6) (by omega) (by omega) ?_
          exact W.lret hx hb hr (fun t9 ht hW => ⟨⟨_, [(o, .inr (3, [.ref r0, .ref l1, .ref l2, .ref l3, .ref bb])), (r0, .inr (2, [.ref da, .ref ga])), (da, .inl (cI, n, .inl d)), (ga, .inl (cZ, n, .inl g)), (bb, .inr (1, [.int fo1, .int wh1, .int t21, .int to1, .int co1]))], rfl, ⟨ci_0 c_11 c_30, rfl, by unfold aMiC; first | rw [if_pos c_44] | rw [if_neg c_44, if_pos c_58] | rw [if_neg c_44, if_neg c_58]⟩, by rw [ht]; exact hP, va_K.moved hW.alike hK, hD⟩, hS.F ht⟩) hS.2.2 d_M_mirror_80
      · refine lv_aload_n hx hb d_M_mirror_47 rfl (lv_at hl 0 rfl) ?_
        refine va_get (D := D) (ci := 3) (v := .ref bb) (C := Q_M) (T := F_M) (N := 5) hx hb hg in_M hown hK hP 0 rfl rfl 4 (by decide) (hg _ g_129) (fun _ h9 => h9) rfl d_M_mirror_48 ?_
        refine va_getN (host := "RubbingMirrors") (D := D) (ci := 1) (v := .int wh1) (C := Q_B) (T := F_B) (N := 5) hx hb hg in_B hown hK hP 4 rfl rfl 1 (by decide) (va_Nw.use rfl (hN.1 _ nw_2)) (fun _ h9 => h9) rfl d_M_mirror_51 ?_
        refine lv_i2l (v := wh1.toInt64) hx hb d_M_mirror_54 rfl ?_
        refine vx_ret ?_
        refine W.widen (k := 1) (n := 6) (by omega) (by omega) ?_
        exact W.lret hx hb hr (fun t9 ht hW => ⟨⟨_, [(o, .inr (3, [.ref r0, .ref l1, .ref l2, .ref l3, .ref bb])), (r0, .inr (2, [.ref da, .ref ga])), (da, .inl (cI, n, .inl d)), (ga, .inl (cZ, n, .inl g)), (bb, .inr (1, [.int fo1, .int wh1, .int t21, .int to1, .int co1]))], rfl, ⟨ci_0 c_11 c_30, rfl, by unfold aMiC; first | rw [if_pos c_44] | rw [if_neg c_44, if_pos c_58] | rw [if_neg c_44, if_neg c_58]⟩, by rw [ht]; exact hP, va_K.moved hW.alike hK, hD⟩, hS.F ht⟩) hS.2.2 d_M_mirror_55
    · exact thrw hx hb hlt hown hg hN x_I st_71 hU hV hS (by rw [hml]; exact hl.1) d_M_mirror_33 d_M_mirror_36 d_M_mirror_37 d_M_mirror_39 d_M_mirror_42 hno (Nat.le_of_ble_eq_true rfl) (Nat.le_of_ble_eq_true rfl) (Nat.le_of_ble_eq_true rfl) (Nat.le_of_ble_eq_true rfl) hlocks hP hK hD rfl (Or.inr ⟨ci_2 c_11 c_30, rfl⟩) (Nat.le_of_ble_eq_true rfl) (Nat.le_of_ble_eq_true rfl)
  · exact thrw hx hb hlt hown hg hN x_S st_89 hU hV hS (by rw [hml]; exact hl.1) d_M_mirror_14 d_M_mirror_17 d_M_mirror_18 d_M_mirror_20 d_M_mirror_23 hno (Nat.le_of_ble_eq_true rfl) (Nat.le_of_ble_eq_true rfl) (Nat.le_of_ble_eq_true rfl) (Nat.le_of_ble_eq_true rfl) hlocks hP hK hD rfl (Or.inl ⟨ci_1 c_11, rfl⟩) (Nat.le_of_ble_eq_true rfl) (Nat.le_of_ble_eq_true rfl)
