
theorem arr_rc {s : State} {H : Heap} {D : va_G} {cI cZ cJ cO : ClassId} {ws : va_W} {a q0 : Nat} {x : vp_A} (hK : va_K D cls (TY cI cZ cJ cO) s) (hP : va_P D cls ws H) (he : ws[q0]? = some (a, .inl (cO, x))) : ∃ cell : Cell, H[a]? = some cell ∧ cell.vm.isStatics = false ∧ s.vm.findClass "[Ljava/lang/Object;" = some cell.cls := by
  refine ⟨_, hP q0 _ he, ?_, ?_⟩
  · obtain ⟨n, y⟩ := x
    rcases y with f | f | f | f | f <;> rfl
  · have := va_nmO (hK.2 3 _ rfl).2 (nm := "[Ljava/lang/Object;") (by decide)
    obtain ⟨n, y⟩ := x
    rcases y with f | f | f | f | f <;> exact this
theorem i10 {m : Int32} (h : m.toInt ≤ 10) : (if 10 < m then m else (10 : Int32)) = 10 := by rw [if_neg (by rw [ilt]; have e : (10 : Int32).toInt = 10 := rfl; omega)]
theorem nl_v {n : Nat} (h2 : 2 ≤ n) (h : n ≤ 30) : nI n + (if (nI n + 1 - nI n) < nI n >>> ((1 : Int32) &&& 31) then nI n >>> ((1 : Int32) &&& 31) else nI n + 1 - nI n) = nI (n + n / 2) := by
  have es : nI n >>> ((1 : Int32) &&& 31) = nI (n / 2) := by
    have k := pk_shrN (n := n) (by omega) ((1 : Int32) &&& 31) 1 (by decide)
    rw [Nat.pow_one] at k; exact k
  have ed : nI n + 1 - nI n = nI 1 := by
    rw [nI_1, pk_sub (by omega)]; congr 1; omega
  rw [es, ed]
  by_cases c : 1 < n / 2
  · rw [if_pos (nI_lt c (by omega)), nI_add]
  · rw [if_neg (nI_nlt (by omega) (by omega)), nI_add]; congr 1; omega
theorem mn_v {n k : Nat} (h : n ≤ k) (hk : k < 2 ^ 20) : (if nI k < nI n then nI k else nI n) = nI n := if_neg (nI_nlt h (by omega))
theorem c0n {n : Nat} (h : n ≤ 30) : (0 : Int32).toNatClampNeg + (nI n).toNatClampNeg = n := by rw [nI_clamp (by omega), sb_cl0]; omega
/-- the copy, told place by place -/
theorem cpy_f {f g : Nat → Option Nat} {n i : Nat} (h : i < n) : va_cpy f g 0 0 n i = f i := by
  rw [va_cpy, if_pos ⟨by omega, by omega⟩]; congr 1; omega

set_option maxHeartbeats 4000000 in
set_option maxRecDepth 100000 in
/-- Preconditions.checkIndex, within -/
theorem c_PC_checkIndex_ok (l : Launch) (D : va_G) (cI cZ cJ cO : ClassId) (I c9 : Nat) (hI : I < c9) (hc9 : c9 < 2 ^ 20) : Met l y_PC_checkIndex (wq y_PC_checkIndex c_PC_checkIndex 3 (some .int)) ({ frames := 0, cells := 0, slots := 0, locals := 0 }) (rP D (TY cI cZ cJ cO) [] [.int (nI I), .int (nI c9), .null]) (vp_Si (fun r => r = nI I)) 0 0 (fun _ => False) := by
  refine Met.ofW (cc := c_PC_checkIndex) (maxL := 3) (ret := (some .int)) (by decide) rfl ?_
  intro p e s m args below meth c s₁ B hml hv
  obtain ⟨rfl, hP, hK, hN⟩ := hv
  have hx := B.exec
  have hb := B.bytes
  have hr := B.returns
  have hg := gt_h (atoms_spec (ws := (wq y_PC_checkIndex c_PC_checkIndex 3 (some .int))) B.pre)
  have hown : s.vm.findClass "jdk/internal/util/Preconditions" = some m.cls := findClass_of_methodNamed B.named
  have hlocks := B.notSynchronized
  have hl := lv_entry ([.int (nI I), .int (nI c9), .null]) (n := 3) (Nat.le_of_ble_eq_true rfl)
  rw [lg_entry_eq]
  generalize (lg_sl ([.int (nI I), .int (nI c9), .null]) ++ List.replicate (3 - (lg_sl ([.int (nI I), .int (nI c9), .null])).length) Slot.unset).toArray = ls at hl ⊢
  have hl : lv_has ls 3 [(0, .int (nI I)), (1, .int (nI c9)), (2, .null)] := hl
  refine lv_iload_n hx hb d_PC_checkIndex_0 rfl (lv_at hl 0 rfl) ?_
  refine lv_if_lt (tgt := 9) hx hb d_PC_checkIndex_1 (by decide) (fun c_1 => ?_) (fun c_1 => ?_)
  · exact absurd c_1 (nI_pos (by omega))
  · refine lv_iload_n hx hb d_PC_checkIndex_4 rfl (lv_at hl 0 rfl) ?_
    refine lv_iload_n hx hb d_PC_checkIndex_5 rfl (lv_at hl 1 rfl) ?_
    refine lv_icmp_lt (tgt := 16) hx hb d_PC_checkIndex_6 (by decide) (fun c_6 => ?_) (fun c_6 => ?_)
    · refine lv_iload_n hx hb d_PC_checkIndex_16 rfl (lv_at hl 0 rfl) ?_
      exact W.iret hx hb hr (fun t9 ht hW => ⟨_, rfl, rfl, ht⟩) t_nil2 d_PC_checkIndex_17
    · exact absurd (nI_lt hI (by omega)) c_6

set_option maxHeartbeats 4000000 in
set_option maxRecDepth 100000 in
/-- Objects.checkIndex, within -/
theorem c_OB_checkIndex_ok (l : Launch) (D : va_G) (cI cZ cJ cO : ClassId) (I c9 : Nat) (hI : I < c9) (hc9 : c9 < 2 ^ 20) : Met l y_OB_checkIndex (wq y_OB_checkIndex c_OB_checkIndex 2 (some .int)) ({ frames := 1, cells := 0, slots := 0, locals := 22 }) (rP D (TY cI cZ cJ cO) [] [.int (nI I), .int (nI c9)]) (vp_Si (fun r => r = nI I)) 0 0 (fun _ => False) := by
  refine Met.ofW (cc := c_OB_checkIndex) (maxL := 2) (ret := (some .int)) (by decide) rfl ?_
  intro p e s m args below meth c s₁ B hml hv
  obtain ⟨rfl, hP, hK, hN⟩ := hv
  have hx := B.exec
  have hb := B.bytes
  have hr := B.returns
  have hg := gt_h (atoms_spec (ws := (wq y_OB_checkIndex c_OB_checkIndex 2 (some .int))) B.pre)
  have hown : s.vm.findClass "java/util/Objects" = some m.cls := findClass_of_methodNamed B.named
  have hlocks := B.notSynchronized
  have hl := lv_entry ([.int (nI I), .int (nI c9)]) (n := 2) (Nat.le_of_ble_eq_true rfl)
  rw [lg_entry_eq]
  generalize (lg_sl ([.int (nI I), .int (nI c9)]) ++ List.replicate (2 - (lg_sl ([.int (nI I), .int (nI c9)])).length) Slot.unset).toArray = ls at hl ⊢
  have hl : lv_has ls 2 [(0, .int (nI I)), (1, .int (nI c9))] := hl
  refine lv_iload_n hx hb d_OB_checkIndex_0 rfl (lv_at hl 0 rfl) ?_
  refine lv_iload_n hx hb d_OB_checkIndex_1 rfl (lv_at hl 1 rfl) ?_
  refine lv_null hx hb d_OB_checkIndex_2 ?_
  refine vp_callSi (va_Run.run (va_runS (As := [.int (nI I), .int (nI c9), .null]) (rest := []) ⟨hx, hb, hml, hown, hg⟩ (c_PC_checkIndex_ok l D cI cZ cJ cO I c9 hI hc9) (va_cwS 3 hg (gs2 g_463 g_464 g_37 g_465) rfl rfl rfl (by decide +kernel) ⟨Nat.le_of_ble_eq_true rfl, Nat.le_of_ble_eq_true rfl⟩) (pS ba_nil hK hN) rfl rfl hl.1 rfl (lv_room (Nat.le_of_ble_eq_true rfl)) d_OB_checkIndex_3 ⟨Nat.zero_le _, Nat.zero_le _⟩)) (fun r_1 hr_1 => ?_)
  subst hr_1
  exact W.iret hx hb hr (fun t9 ht hW => ⟨_, rfl, rfl, ht⟩) t_nil2 d_OB_checkIndex_6

set_option maxHeartbeats 4000000 in
set_option maxRecDepth 100000 in
/-- elementData(i) -/
theorem c_A_elementData_ok (l : Launch) (D : va_G) (cI cZ cJ cO : ClassId) (la : Nat) (x1 : Int32) (ea c9 cap : Nat) (f : Nat → Option Nat) (I : Nat) (hI : I < c9) (hcap : c9 ≤ cap) (hc9 : cap < 2 ^ 20) : Met l y_A_elementData (wq y_A_elementData c_A_elementData 2 (some (.object "java/lang/Object"))) ({ frames := 0, cells := 0, slots := 0, locals := 0 }) (rP D (TY cI cZ cJ cO) [(la, .inr (0, [.int x1, .ref ea, .int (nI c9)])), (ea, .inl (cO, cap, .inr (.inr (.inr (.inr f)))))] [.ref la, .int (nI I)]) (va_Sq (fun r => r = f I)) 0 0 (fun _ => False) := by
  refine Met.ofW (cc := c_A_elementData) (maxL := 2) (ret := (some (.object "java/lang/Object"))) (by decide) rfl ?_
  intro p e s m args below meth c s₁ B hml hv
  obtain ⟨rfl, hP, hK, hN⟩ := hv
  have hx := B.exec
  have hb := B.bytes
  have hr := B.returns
  have hg := gt_h (atoms_spec (ws := (wq y_A_elementData c_A_elementData 2 (some (.object "java/lang/Object")))) B.pre)
  have hown : s.vm.findClass "java/util/ArrayList" = some m.cls := findClass_of_methodNamed B.named
  have hlocks := B.notSynchronized
  have hl := lv_entry ([.ref la, .int (nI I)]) (n := 2) (Nat.le_of_ble_eq_true rfl)
  rw [lg_entry_eq]
  generalize (lg_sl ([.ref la, .int (nI I)]) ++ List.replicate (2 - (lg_sl ([.ref la, .int (nI I)])).length) Slot.unset).toArray = ls at hl ⊢
  have hl : lv_has ls 2 [(0, .ref la), (1, .int (nI I))] := hl
  refine lv_aload_n hx hb d_A_elementData_0 rfl (lv_at hl 0 rfl) ?_
  refine va_get (D := D) (ci := 0) (v := .ref ea) (C := Q_A) (T := F_A) (N := 3) hx hb hg in_A hown hK hP 0 rfl rfl 1 (by decide) (hg _ g_62) (fun _ h9 => h9) rfl d_A_elementData_1 ?_
  refine lv_iload_n hx hb d_A_elementData_4 rfl (lv_at hl 1 rfl) ?_
  refine va_aldq hx hb hK hP 1 3 rfl rfl (vp_in_nI (by omega) (by omega)) d_A_elementData_5 ?_
  exact W.aret hx hb hr (Or.inl ⟨_, rfl⟩) (va_rf_or _) (fun t9 ht hW => ⟨_, rfl, (by rw [nI_clamp (by omega)]), ht⟩) t_nil2 d_A_elementData_6

set_option maxHeartbeats 4000000 in
set_option maxRecDepth 100000 in
/-- get(i) -/
theorem c_A_get_ok (l : Launch) (D : va_G) (cI cZ cJ cO : ClassId) (la : Nat) (x1 : Int32) (ea c9 cap : Nat) (f : Nat → Option Nat) (I : Nat) (hI : I < c9) (hcap : c9 ≤ cap) (hc9 : cap < 2 ^ 20) : Met l y_A_get (wq y_A_get c_A_get 2 (some (.object "java/lang/Object"))) ({ frames := 2, cells := 0, slots := 0, locals := 43 }) (rP D (TY cI cZ cJ cO) [(la, .inr (0, [.int x1, .ref ea, .int (nI c9)])), (ea, .inl (cO, cap, .inr (.inr (.inr (.inr f)))))] [.ref la, .int (nI I)]) (va_Sq (fun r => r = f I)) 0 0 (fun _ => False) := by
  refine Met.ofW (cc := c_A_get) (maxL := 2) (ret := (some (.object "java/lang/Object"))) (by decide) rfl ?_
  intro p e s m args below meth c s₁ B hml hv
  obtain ⟨rfl, hP, hK, hN⟩ := hv
  have hx := B.exec
  have hb := B.bytes
  have hr := B.returns
  have hg := gt_h (atoms_spec (ws := (wq y_A_get c_A_get 2 (some (.object "java/lang/Object")))) B.pre)
  have hown : s.vm.findClass "java/util/ArrayList" = some m.cls := findClass_of_methodNamed B.named
  have hlocks := B.notSynchronized
  have hl := lv_entry ([.ref la, .int (nI I)]) (n := 2) (Nat.le_of_ble_eq_true rfl)
  rw [lg_entry_eq]
  generalize (lg_sl ([.ref la, .int (nI I)]) ++ List.replicate (2 - (lg_sl ([.ref la, .int (nI I)])).length) Slot.unset).toArray = ls at hl ⊢
  have hl : lv_has ls 2 [(0, .ref la), (1, .int (nI I))] := hl
  refine lv_iload_n hx hb d_A_get_0 rfl (lv_at hl 1 rfl) ?_
  refine lv_aload_n hx hb d_A_get_1 rfl (lv_at hl 0 rfl) ?_
  refine va_get (D := D) (ci := 0) (v := .int (nI c9)) (C := Q_A) (T := F_A) (N := 3) hx hb hg in_A hown hK hP 0 rfl rfl 2 (by decide) (hg _ g_63) (fun _ h9 => h9) rfl d_A_get_2 ?_
  refine vp_callSi (va_Run.run (va_runS (As := [.int (nI I), .int (nI c9)]) (rest := []) ⟨hx, hb, hml, hown, hg⟩ (c_OB_checkIndex_ok l D cI cZ cJ cO I c9 hI (by omega)) (va_cwS 2 hg (gs2 g_460 g_461 g_36 g_462) rfl rfl rfl (by decide +kernel) ⟨Nat.le_of_ble_eq_true rfl, Nat.le_of_ble_eq_true rfl⟩) (pS ba_nil hK hN) rfl rfl hl.1 rfl (lv_room (Nat.le_of_ble_eq_true rfl)) d_A_get_5 ⟨Nat.zero_le _, Nat.zero_le _⟩)) (fun r_1 hr_1 => ?_)
  subst hr_1
  refine lv_pop hx hb d_A_get_8 rfl ?_
  refine lv_aload_n hx hb d_A_get_9 rfl (lv_at hl 0 rfl) ?_
  refine lv_iload_n hx hb d_A_get_10 rfl (lv_at hl 1 rfl) ?_
  refine va_csq (va_Run.run (va_runV (As := [.int (nI I)]) (rest := []) ⟨hx, hb, hml, hown, hg⟩ (c_A_elementData_ok l D cI cZ cJ cO la x1 ea c9 cap f I hI hcap hc9) (cwV 1 hg (gv g_466 g_467 g_468 g_21 g_469) rfl rfl rfl (by decide +kernel) ⟨Nat.le_of_ble_eq_true rfl, Nat.le_of_ble_eq_true rfl⟩) (pV hP hK hN (va_recv hK hP (ci := 0) (q0 := 0) rfl rfl)) rfl rfl hl.1 rfl (lv_room (Nat.le_of_ble_eq_true rfl)) d_A_get_11 ⟨Nat.zero_le _, Nat.zero_le _⟩)) (fun r_2 hr_2 => ?_)
  subst hr_2
  exact W.aret hx hb hr (Or.inl ⟨_, rfl⟩) (va_rf_or _) (fun t9 ht hW => ⟨_, rfl, rfl, ht⟩) t_nil2 d_A_get_14

set_option maxHeartbeats 4000000 in
set_option maxRecDepth 100000 in
/-- newLength -/
theorem c_AS_newLength_ok (l : Launch) (D : va_G) (cI cZ cJ cO : ClassId) (n : Nat) (h2 : 2 ≤ n) (h30 : n ≤ 30) : Met l y_AS_newLength (wq y_AS_newLength c_AS_newLength 4 (some .int)) ({ frames := 1, cells := 0, slots := 0, locals := 24 }) (rP D (TY cI cZ cJ cO) [] [.int (nI n), .int (nI n + 1 - nI n), .int (nI n >>> ((1 : Int32) &&& 31))]) (vp_Si (fun r => r = nI (n + n / 2))) 0 0 (fun _ => False) := by
  refine Met.ofW (cc := c_AS_newLength) (maxL := 4) (ret := (some .int)) (by decide) rfl ?_
  intro p e s m args below meth c s₁ B hml hv
  obtain ⟨rfl, hP, hK, hN⟩ := hv
  have hx := B.exec
  have hb := B.bytes
  have hr := B.returns
  have hg := gt_h (atoms_spec (ws := (wq y_AS_newLength c_AS_newLength 4 (some .int))) B.pre)
  have hown : s.vm.findClass "jdk/internal/util/ArraysSupport" = some m.cls := findClass_of_methodNamed B.named
  have hlocks := B.notSynchronized
  have hl := lv_entry ([.int (nI n), .int (nI n + 1 - nI n), .int (nI n >>> ((1 : Int32) &&& 31))]) (n := 4) (Nat.le_of_ble_eq_true rfl)
  rw [lg_entry_eq]
  generalize (lg_sl ([.int (nI n), .int (nI n + 1 - nI n), .int (nI n >>> ((1 : Int32) &&& 31))]) ++ List.replicate (4 - (lg_sl ([.int (nI n), .int (nI n + 1 - nI n), .int (nI n >>> ((1 : Int32) &&& 31))])).length) Slot.unset).toArray = ls at hl ⊢
  have hl : lv_has ls 4 [(0, .int (nI n)), (1, .int (nI n + 1 - nI n)), (2, .int (nI n >>> ((1 : Int32) &&& 31)))] := hl
  refine lv_iload_n hx hb d_AS_newLength_0 rfl (lv_at hl 0 rfl) ?_
  refine lv_iload_n hx hb d_AS_newLength_1 rfl (lv_at hl 1 rfl) ?_
  refine lv_iload_n hx hb d_AS_newLength_2 rfl (lv_at hl 2 rfl) ?_
  refine va_mmax hx hb (by rw [hml]; exact hl.1.symm) hown (hg _ g_413) (hg _ g_107) (hg _ g_24) (hg _ g_108) (Nat.le_of_ble_eq_true rfl) (Nat.le_of_ble_eq_true rfl) (Nat.le_of_ble_eq_true rfl) (Nat.le_of_ble_eq_true rfl) d_AS_newLength_3 ?_
  refine lv_iadd hx hb d_AS_newLength_6 ?_
  refine lv_topi (fun y_1 ey_1 => ?_)
  obtain rfl : y_1 = nI (n + n / 2) := ey_1.trans (nl_v h2 h30)
  refine lv_istore_n (lv' := [(3, .int (nI (n + n / 2))), (0, .int (nI n)), (1, .int (nI n + 1 - nI n)), (2, .int (nI n >>> ((1 : Int32) &&& 31)))]) hx hb d_AS_newLength_7 rfl hl (by decide) rfl (fun ls hl => ?_)
  refine lv_iconst (v := 0) hx hb d_AS_newLength_8 (by decide) ?_
  refine lv_iload_n hx hb d_AS_newLength_9 rfl (lv_at hl 0 rfl) ?_
  refine lv_icmp_ge (tgt := 21) hx hb d_AS_newLength_10 (by decide) (fun c_10 => ?_) (fun c_10 => ?_)
  · exact absurd c_10 (nI_nle (by omega) (by omega))
  · refine lv_iload_n hx hb d_AS_newLength_13 rfl (lv_at hl 0 rfl) ?_
    refine lv_ldc (v := 2147483639) hx hb hown (hg _ g_414) d_AS_newLength_14 ?_
    refine lv_icmp_gt (tgt := 21) hx hb d_AS_newLength_16 (by decide) (fun c_16 => ?_) (fun c_16 => ?_)
    · exact absurd c_16 (by rw [ilt, nI_toInt (by omega)]; have e9 : (2147483639 : Int32).toInt = 2147483639 := rfl; omega)
    · refine lv_iload_n hx hb d_AS_newLength_19 rfl (lv_at hl 0 rfl) ?_
      exact W.iret hx hb hr (fun t9 ht hW => ⟨_, rfl, rfl, ht⟩) t_nil2 d_AS_newLength_20
