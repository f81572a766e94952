
theorem arr_rc {s : State} {H : Heap} {D : va_G} {cI cZ cJ cO : ClassId} {ws : va_W} {a q0 : Nat} {x : vp_A} (hK : va_K D cls (TY cI cZ cJ cO) s) (hP : va_P D cls ws H) (he : ws[q0]? = some (a, .inl (cO, x))) : ∃ cell : Cell, H[a]? = some cell ∧ cell.vm.isStatics = false ∧ s.vm.findClass "[Ljava/lang/Object;" = some cell.cls := by
  refine ⟨_, hP q0 _ he, ?_, ?_⟩
  · obtain ⟨n, y⟩ := x
    rcases y with f | f | f | f | f <;> rfl
  · have := va_nmO (hK.2 3 _ rfl).2 (nm := "[Ljava/lang/Object;") (by decide)
    obtain ⟨n, y⟩ := x
    rcases y with f | f | f | f | f <;> exact this
theorem i10 {m : Int32} (h : m.toInt ≤ 10) : (if 10 < m then m else (10 : Int32)) = 10 := by rw [if_neg (by rw [ilt]; have e : (10 : Int32).toInt = 10 := rfl; omega)]
theorem nl_v {n : Nat} (h2 : 2 ≤ n) (h : n ≤ 30) : nI n + (if (nI n + 1 - nI n) < nI n >>> ((1 : Int32) &&& 31) then nI n >>> ((1 : Int32) &&& 31) else nI n + 1 - nI n) = nI (n + n / 2) := by
  have es : nI n >>> ((1 : Int32) &&& 31) = nI (n / 2) := by
    have k := pk_shrN (n := n) (by omega) ((1 : Int32) &&& 31) 1 (by decide)
    rw [Nat.pow_one] at k; exact k
  have ed : nI n + 1 - nI n = nI 1 := by
    rw [nI_1, pk_sub (by omega)]; congr 1; omega
  rw [es, ed]
  by_cases c : 1 < n / 2
  · rw [if_pos (nI_lt c (by omega)), nI_add]
  · rw [if_neg (nI_nlt (by omega) (by omega)), nI_add]; congr 1; omega
theorem mn_v {n k : Nat} (h : n ≤ k) (hk : k < 2 ^ 20) : (if nI k < nI n then nI k else nI n) = nI n := if_neg (nI_nlt h (by omega))
theorem c0n {n : Nat} (h : n ≤ 30) : (0 : Int32).toNatClampNeg + (nI n).toNatClampNeg = n := by rw [nI_clamp (by omega), sb_cl0]; omega
/-- the copy, told place by place -/
theorem cpy_f {f g : Nat → Option Nat} {n i : Nat} (h : i < n) : va_cpy f g 0 0 n i = f i := by
  rw [va_cpy, if_pos ⟨by omega, by omega⟩]; congr 1; omega

set_option maxHeartbeats 4000000 in
set_option maxRecDepth 100000 in
/-- Preconditions.checkIndex, within -/
theorem c_PC_checkIndex_ok (l : Launch) (D : va_G) (cI cZ cJ cO : ClassId) (I c9 : Nat) (hI : I < c9) (hc9 : c9 < 2 ^ 20) : Met l y_PC_checkIndex (wq y_PC_checkIndex c_PC_checkIndex 3 (some .int)) ({ frames := 0, cells := 0, slots := 0, locals := 0 }) (rP D (TY cI cZ cJ cO) [] [.int (nI I), .int (nI c9), .null]) (vp_Si (fun r => r = nI I)) 0 0 (fun _ => False) := by
  refine Met.ofW (cc := c_PC_checkIndex) (maxL := 3) (ret := (some .int)) (by decide) rfl ?_
  intro p e s m args below meth c s₁ B hml hv
  obtain ⟨rfl, hP, hK, hN⟩ := hv
  have hx := B.exec
  have hb := B.bytes
  have hr := B.returns
  have hg := gt_h (atoms_spec (ws := (wq y_PC_checkIndex c_PC_checkIndex 3 (some .int))) B.pre)
  have hown : s.vm.findClass "jdk/internal/util/Preconditions" = some m.cls := findClass_of_methodNamed B.named
  have hlocks := B.notSynchronized
  have hl := lv_entry ([.int (nI I), .int (nI c9), .null]) (n := 3) (Nat.le_of_ble_eq_true rfl)
  rw [lg_entry_eq]
  generalize (lg_sl ([.int (nI I), .int (nI c9), .null]) ++ List.replicate (3 - (lg_sl ([.int (nI I), .int (nI c9), .null])).length) Slot.unset).toArray = ls at hl ⊢
  have hl : lv_has ls 3 [(0, .int (nI I)), (1, .int (nI c9)), (2, .null)] := hl
  refine lv_iload_n hx hb d_PC_checkIndex_0 rfl (lv_at hl 0 rfl) ?_
  refine lv_if_lt (tgt := 9) hx hb d_PC_checkIndex_1 (by decide) (fun c_1 => ?_) (fun c_1 => ?_)
  · exact absurd c_1 (nI_pos (by omega))
  · refine lv_iload_n hx hb d_PC_checkIndex_4 rfl (lv_at hl 0 rfl) ?_
    refine lv_iload_n hx hb d_PC_checkIndex_5 rfl (lv_at hl 1 rfl) ?_
    refine lv_icmp_lt (tgt := 16) hx hb d_PC_checkIndex_6 (by decide) (fun c_6 => ?_) (fun c_6 => ?_)
    · refine lv_iload_n hx hb d_PC_checkIndex_16 rfl (lv_at hl 0 rfl) ?_
      exact W.iret hx hb hr (fun t9 ht hW => ⟨_, rfl, rfl, ht⟩) t_nil2 d_PC_checkIndex_17
    · exact absurd (nI_lt hI (by omega)) c_6

set_option maxHeartbeats 4000000 in
set_option maxRecDepth 100000 in
/-- Objects.checkIndex, within -/
theorem c_OB_checkIndex_ok (l : Launch) (D : va_G) (cI cZ cJ cO : ClassId) (I c9 : Nat) (hI : I < c9) (hc9 : c9 < 2 ^ 20) : Met l y_OB_checkIndex (wq y_OB_checkIndex c_OB_checkIndex 2 (some .int)) ({ frames := 1, cells := 0, slots := 0, locals := 22 }) (rP D (TY cI cZ cJ cO) [] [.int (nI I), .int (nI c9)]) (vp_Si (fun r => r = nI I)) 0 0 (fun _ => False) := by
  refine Met.ofW (cc := c_OB_checkIndex) (maxL := 2) (ret := (some .int)) (by decide) rfl ?_
  intro p e s m args below meth c s₁ B hml hv
  obtain ⟨rfl, hP, hK, hN⟩ := hv
  have hx := B.exec
  have hb := B.bytes
  have hr := B.returns
  have hg := gt_h (atoms_spec (ws := (wq y_OB_checkIndex c_OB_checkIndex 2 (some .int))) B.pre)
  have hown : s.vm.findClass "java/util/Objects" = some m.cls := findClass_of_methodNamed B.named
  have hlocks := B.notSynchronized
  have hl := lv_entry ([.int (nI I), .int (nI c9)]) (n := 2) (Nat.le_of_ble_eq_true rfl)
  rw [lg_entry_eq]
  generalize (lg_sl ([.int (nI I), .int (nI c9)]) ++ List.replicate (2 - (lg_sl ([.int (nI I), .int (nI c9)])).length) Slot.unset).toArray = ls at hl ⊢
  have hl : lv_has ls 2 [(0, .int (nI I)), (1, .int (nI c9))] := hl
  refine lv_iload_n hx hb d_OB_checkIndex_0 rfl (lv_at hl 0 rfl) ?_
  refine lv_iload_n hx hb d_OB_checkIndex_1 rfl (lv_at hl 1 rfl) ?_
  refine lv_null hx hb d_OB_checkIndex_2 ?_
  refine vp_callSi (va_Run.run (va_runS (As := [.int (nI I), .int (nI c9), .null]) (rest := []) ⟨hx, hb, hml, hown, hg⟩ (c_PC_checkIndex_ok l D cI cZ cJ cO I c9 hI hc9) (va_cwS 3 hg (gs2 g_463 g_464 g_37 g_465) rfl rfl rfl (by decide +kernel) ⟨Nat.le_of_ble_eq_true rfl, Nat.le_of_ble_eq_true rfl⟩) (pS ba_nil hK hN) rfl rfl hl.1 rfl (lv_room (Nat.le_of_ble_eq_true rfl)) d_OB_checkIndex_3 ⟨Nat.zero_le _, Nat.zero_le _⟩)) (fun r_1 hr_1 => ?_)
  subst hr_1
  exact W.iret hx hb hr (fun t9 ht hW => ⟨_, rfl, rfl, ht⟩) t_nil2 d_OB_checkIndex_6

set_option maxHeartbeats 4000000 in
set_option maxRecDepth 100000 in
/-- elementData(i) -/
theorem c_A_elementData_ok (l : Launch) (D : va_G) (cI cZ cJ cO : ClassId) (la : Nat) (x1 : Int32) (ea c9 cap : Nat) (f : Nat → Option Nat) (I : Nat) (hI : I < c9) (hcap : c9 ≤ cap) (hc9 : cap < 2 ^ 20) : Met l y_A_elementData (wq y_A_elementData c_A_elementData 2 (some (.object "java/lang/Object"))) ({ frames := 0, cells := 0, slots := 0, locals := 0 }) (rP D (TY cI cZ cJ cO) [(la, .inr (0, [.int x1, .ref ea, .int (nI c9)])), (ea, .inl (cO, cap, .inr (.inr (.inr (.inr f)))))] [.ref la, .int (nI I)]) (va_Sq (fun r => r = f I)) 0 0 (fun _ => False) := by
  refine Met.ofW (cc := c_A_elementData) (maxL := 2) (ret := (some (.object "java/lang/Object"))) (by decide) rfl ?_
  intro p e s m args below meth c s₁ B hml hv
  obtain ⟨rfl, hP, hK, hN⟩ := hv
  have hx := B.exec
  have hb := B.bytes
  have hr := B.returns
  have hg := gt_h (atoms_spec (ws := (wq y_A_elementData c_A_elementData 2 (some (.object "java/lang/Object")))) B.pre)
  have hown : s.vm.findClass "java/util/ArrayList" = some m.cls := findClass_of_methodNamed B.named
  have hlocks := B.notSynchronized
  have hl := lv_entry ([.ref la, .int (nI I)]) (n := 2) (Nat.le_of_ble_eq_true rfl)
  rw [lg_entry_eq]
  generalize (lg_sl ([.ref la, .int (nI I)]) ++ List.replicate (2 - (lg_sl ([.ref la, .int (nI I)])).length) Slot.unset).toArray = ls at hl ⊢
  have hl : lv_has ls 2 [(0, .ref la), (1, .int (nI I))] := hl
  refine lv_aload_n hx hb d_A_elementData_0 rfl (lv_at hl 0 rfl) ?_
  refine va_get (D := D) (ci := 0) (v := .ref ea) (C := Q_A) (T := F_A) (N := 3) hx hb hg in_A hown hK hP 0 rfl rfl 1 (by decide) (hg _ g_62) (fun _ h9 => h9) rfl d_A_elementData_1 ?_
  refine lv_iload_n hx hb d_A_elementData_4 rfl (lv_at hl 1 rfl) ?_
  refine va_aldq hx hb hK hP 1 3 rfl rfl (vp_in_nI (by omega) (by omega)) d_A_elementData_5 ?_
  exact W.aret hx hb hr (Or.inl ⟨_, rfl⟩) (va_rf_or _) (fun t9 ht hW => ⟨_, rfl, (by rw [nI_clamp (by omega)]), ht⟩) t_nil2 d_A_elementData_6

set_option maxHeartbeats 4000000 in
set_option maxRecDepth 100000 in
/-- get(i) -/
theorem c_A_get_ok (l : Launch) (D : va_G) (cI cZ cJ cO : ClassId) (la : Nat) (x1 : Int32) (ea c9 cap : Nat) (f : Nat → Option Nat) (I : Nat) (hI : I < c9) (hcap : c9 ≤ cap) (hc9 : cap < 2 ^ 20) : Met l y_A_get (wq y_A_get c_A_get 2 (some (.object "java/lang/Object"))) ({ frames := 2, cells := 0, slots := 0, locals := 43 }) (rP D (TY cI cZ cJ cO) [(la, .inr (0, [.int x1, .ref ea, .int (nI c9)])), (ea, .inl (cO, cap, .inr (.inr (.inr (.inr f)))))] [.ref la, .int (nI I)]) (va_Sq (fun r => r = f I)) 0 0 (fun _ => False) := by
  refine Met.ofW (cc := c_A_get) (maxL := 2) (ret := (some (.object "java/lang/Object"))) (by decide) rfl ?_
  intro p e s m args below meth c s₁ B hml hv
  obtain ⟨rfl, hP, hK, hN⟩ := hv
  have hx := B.exec
  have hb := B.bytes
  have hr := B.returns
  have hg := gt_h (atoms_spec (ws := (wq y_A_get c_A_get 2 (some (.object "java/lang/Object")))) B.pre)
  have hown : s.vm.findClass "java/util/ArrayList" = some m.cls := findClass_of_methodNamed B.named
  have hlocks := B.notSynchronized
  have hl := lv_entry ([.ref la, .int (nI I)]) (n := 2) (Nat.le_of_ble_eq_true rfl)
  rw [lg_entry_eq]
  generalize (lg_sl ([.ref la, .int (nI I)]) ++ List.replicate (2 - (lg_sl ([.ref la, .int (nI I)])).length) Slot.unset).toArray = ls at hl ⊢
  have hl : lv_has ls 2 [(0, .ref la), (1, .int (nI I))] := hl
  refine lv_iload_n hx hb d_A_get_0 rfl (lv_at hl 1 rfl) ?_
  refine lv_aload_n hx hb d_A_get_1 rfl (lv_at hl 0 rfl) ?_
  refine va_get (D := D) (ci := 0) (v := .int (nI c9)) (C := Q_A) (T := F_A) (N := 3) hx hb hg in_A hown hK hP 0 rfl rfl 2 (by decide) (hg _ g_63) (fun _ h9 => h9) rfl d_A_get_2 ?_
  refine vp_callSi (va_Run.run (va_runS (As := [.int (nI I), .int (nI c9)]) (rest := []) ⟨hx, hb, hml, hown, hg⟩ (c_OB_checkIndex_ok l D cI cZ cJ cO I c9 hI (by omega)) (va_cwS 2 hg (gs2 g_460 g_461 g_36 g_462) rfl rfl rfl (by decide +kernel) ⟨Nat.le_of_ble_eq_true rfl, Nat.le_of_ble_eq_true rfl⟩) (pS ba_nil hK hN) rfl rfl hl.1 rfl (lv_room (Nat.le_of_ble_eq_true rfl)) d_A_get_5 ⟨Nat.zero_le _, Nat.zero_le _⟩)) (fun r_1 hr_1 => ?_)
  subst hr_1
  refine lv_pop hx hb d_A_get_8 rfl ?_
  refine lv_aload_n hx hb d_A_get_9 rfl (lv_at hl 0 rfl) ?_
  refine lv_iload_n hx hb d_A_get_10 rfl (lv_at hl 1 rfl) ?_
  refine va_csq (va_Run.run (va_runV (As := [.int (nI I)]) (rest := []) ⟨hx, hb, hml, hown, hg⟩ (c_A_elementData_ok l D cI cZ cJ cO la x1 ea c9 cap f I hI hcap hc9) (cwV 1 hg (gv g_466 g_467 g_468 g_21 g_469) rfl rfl rfl (by decide +kernel) ⟨Nat.le_of_ble_eq_true rfl, Nat.le_of_ble_eq_true rfl⟩) (pV hP hK hN (va_recv hK hP (ci := 0) (q0 := 0) rfl rfl)) rfl rfl hl.1 rfl (lv_room (Nat.le_of_ble_eq_true rfl)) d_A_get_11 ⟨Nat.zero_le _, Nat.zero_le _⟩)) (fun r_2 hr_2 => ?_)
  subst hr_2
  exact W.aret hx hb hr (Or.inl ⟨_, rfl⟩) (va_rf_or _) (fun t9 ht hW => ⟨_, rfl, rfl, ht⟩) t_nil2 d_A_get_14

set_option maxHeartbeats 4000000 in
set_option maxRecDepth 100000 in
/-- newLength -/
theorem c_AS_newLength_ok (l : Launch) (D : va_G) (cI cZ cJ cO : ClassId) (n : Nat) (h2 : 2 ≤ n) (h30 : n ≤ 30) : Met l y_AS_newLength (wq y_AS_newLength c_AS_newLength 4 (some .int)) ({ frames := 1, cells := 0, slots := 0, locals := 24 }) (rP D (TY cI cZ cJ cO) [] [.int (nI n), .int (nI n + 1 - nI n), .int (nI n >>> ((1 : Int32) &&& 31))]) (vp_Si (fun r => r = nI (n + n / 2))) 0 0 (fun _ => False) := by
  refine Met.ofW (cc := c_AS_newLength) (maxL := 4) (ret := (some .int)) (by decide) rfl ?_
  intro p e s m args below meth c s₁ B hml hv
  obtain ⟨rfl, hP, hK, hN⟩ := hv
  have hx := B.exec
  have hb := B.bytes
  have hr := B.returns
  have hg := gt_h (atoms_spec (ws := (wq y_AS_newLength c_AS_newLength 4 (some .int))) B.pre)
  have hown : s.vm.findClass "jdk/internal/util/ArraysSupport" = some m.cls := findClass_of_methodNamed B.named
  have hlocks := B.notSynchronized
  have hl := lv_entry ([.int (nI n), .int (nI n + 1 - nI n), .int (nI n >>> ((1 : Int32) &&& 31))]) (n := 4) (Nat.le_of_ble_eq_true rfl)
  rw [lg_entry_eq]
  generalize (lg_sl ([.int (nI n), .int (nI n + 1 - nI n), .int (nI n >>> ((1 : Int32) &&& 31))]) ++ List.replicate (4 - (lg_sl ([.int (nI n), .int (nI n + 1 - nI n), .int (nI n >>> ((1 : Int32) &&& 31))])).length) Slot.unset).toArray = ls at hl ⊢
  have hl : lv_has ls 4 [(0, .int (nI n)), (1, .int (nI n + 1 - nI n)), (2, .int (nI n >>> ((1 : Int32) &&& 31)))] := hl
  refine lv_iload_n hx hb d_AS_newLength_0 rfl (lv_at hl 0 rfl) ?_
  refine lv_iload_n hx hb d_AS_newLength_1 rfl (lv_at hl 1 rfl) ?_
  refine lv_iload_n hx hb d_AS_newLength_2 rfl (lv_at hl 2 rfl) ?_
  refine va_mmax hx hb (by rw [hml]; exact hl.1.symm) hown (hg _ g_413) (hg _ g_107) (hg _ g_24) (hg _ g_108) (Nat.le_of_ble_eq_true rfl) (Nat.le_of_ble_eq_true rfl) (Nat.le_of_ble_eq_true rfl) (Nat.le_of_ble_eq_true rfl) d_AS_newLength_3 ?_
  refine lv_iadd hx hb d_AS_newLength_6 ?_
  refine lv_topi (fun y_1 ey_1 => ?_)
  obtain rfl : y_1 = nI (n + n / 2) := ey_1.trans (nl_v h2 h30)
  refine lv_istore_n (lv' := [(3, .int (nI (n + n / 2))), (0, .int (nI n)), (1, .int (nI n + 1 - nI n)), (2, .int (nI n >>> ((1 : Int32) &&& 31)))]) hx hb d_AS_newLength_7 rfl hl (by decide) rfl (fun ls hl => ?_)
  refine lv_iconst (v := 0) hx hb d_AS_newLength_8 (by decide) ?_
  refine lv_iload_n hx hb d_AS_newLength_9 rfl (lv_at hl 0 rfl) ?_
  refine lv_icmp_ge (tgt := 21) hx hb d_AS_newLength_10 (by decide) (fun c_10 => ?_) (fun c_10 => ?_)
  · exact absurd c_10 (nI_nle (by omega) (by omega))
  · refine lv_iload_n hx hb d_AS_newLength_13 rfl (lv_at hl 0 rfl) ?_
    refine lv_ldc (v := 2147483639) hx hb hown (hg _ g_414) d_AS_newLength_14 ?_
    refine lv_icmp_gt (tgt := 21) hx hb d_AS_newLength_16 (by decide) (fun c_16 => ?_) (fun c_16 => ?_)
    · exact absurd c_16 (by rw [ilt, nI_toInt (by omega)]; have e9 : (2147483639 : Int32).toInt = 2147483639 := rfl; omega)
    · refine lv_iload_n hx hb d_AS_newLength_19 rfl (lv_at hl 0 rfl) ?_
      exact W.iret hx hb hr (fun t9 ht hW => ⟨_, rfl, rfl, ht⟩) t_nil2 d_AS_newLength_20

set_option maxHeartbeats 4000000 in
set_option maxRecDepth 100000 in
/-- copyOf of places -/
theorem c_AR_copyOf2_ok (l : Launch) (D : va_G) (cI cZ cJ cO : ClassId) (sz e0 mi : Nat) (C : String) (hCO : Cond.castable C "java/lang/Object" ∈ NWL) (els : Nat → Prop) (ea n : Nat) (f : Nat → Option Nat) (h2 : 2 ≤ n) (h14 : n ≤ 15) (hfe : ∀ i, i < n → ∀ y, f i = some y → els y) : Met l y_AR_copyOf2 (wq y_AR_copyOf2 c_AR_copyOf2 4 (some (.array (.object "java/lang/Object")))) ({ frames := 1, cells := 1, slots := 22, locals := 60 }) (lP D (TY cI cZ cJ cO) [(ea, .inl (cO, n, .inr (.inr (.inr (.inr f)))))] [.ref ea, .int (nI (n + n / 2)), .ref mi] sz e0 mi C els) (va_Qr (fun _ : va_W => True) (fun (u : va_W) (ra : Nat) (t : State) => (u = [(ea, .inl (cO, n, .inr (.inr (.inr (.inr f))))), (ra, .inl (cO, (n + n / 2), .inr (.inr (.inr (.inr (va_cpy f (fun _ => none) 0 0 n))))))]) ∧ mB D (TY cI cZ cJ cO) (va_A [(ea, .inl (cO, n, .inr (.inr (.inr (.inr f)))))] sz) u t) (va_A [(ea, .inl (cO, n, .inr (.inr (.inr (.inr f)))))] sz)) 1 22 (va_A [(ea, .inl (cO, n, .inr (.inr (.inr (.inr f)))))] sz) := by
  refine Met.ofW (cc := c_AR_copyOf2) (maxL := 4) (ret := (some (.array (.object "java/lang/Object")))) (by decide) rfl ?_
  intro p e s m args below meth c s₁ B hml hv
  obtain ⟨rfl, hsz, hP, hK, hD0, hN, hsP, hEl⟩ := hv
  have hx := B.exec
  have hb := B.bytes
  have hr := B.returns
  have hg := gt_h (atoms_spec (ws := (wq y_AR_copyOf2 c_AR_copyOf2 4 (some (.array (.object "java/lang/Object"))))) B.pre)
  have hown : s.vm.findClass "java/util/Arrays" = some m.cls := findClass_of_methodNamed B.named
  have hlocks := B.notSynchronized
  have hMi := hsP.2.2
  subst hsz
  have hD := hD0.self (sz := s.heap.size)
  generalize hAe : va_A [(ea, .inl (cO, n, .inr (.inr (.inr (.inr f)))))] s.heap.size = A at hD hsP hEl ⊢
  have hA : ∀ q : Nat, s.heap.size ≤ q → A q := fun q h => by rw [← hAe]; exact Or.inr h
  have hS : va_S A s.heap s.heap [] := va_S.rf
  have hl := lv_entry ([.ref ea, .int (nI (n + n / 2)), .ref mi]) (n := 4) (Nat.le_of_ble_eq_true rfl)
  rw [lg_entry_eq]
  generalize (lg_sl ([.ref ea, .int (nI (n + n / 2)), .ref mi]) ++ List.replicate (4 - (lg_sl ([.ref ea, .int (nI (n + n / 2)), .ref mi])).length) Slot.unset).toArray = ls at hl ⊢
  have hl : lv_has ls 4 [(0, .ref ea), (1, .int (nI (n + n / 2))), (2, .ref mi)] := hl
  refine lv_aload_n hx hb d_AR_copyOf2_0 rfl (lv_at hl 2 rfl) ?_
  refine va_ldcM (C := "[Ljava/lang/Object;") (mi := mi) hx hb hown (hg _ g_439) hMi d_AR_copyOf2_1 ?_
  refine W.eq (g2 := F0 m 3 ls (va_rf (some mi) :: va_rf (some mi) :: [])) rfl ?_
  refine lv_acmp_ne (tgt := 13) hx hb d_AR_copyOf2_3 (by decide) (fun c_3 => ?_) (fun c_3 => ?_)
  · exact absurd rfl c_3
  · refine lv_iload_n hx hb d_AR_copyOf2_6 rfl (lv_at hl 1 rfl) ?_
    refine va_newq (N' := (n + n / 2)) hx hb hown (hg _ g_441) hN.2.2.2 hK hP hD hS hA (nI_pos (by omega)) (nI_clamp (by omega)) (by omega) (show 0 + 1 ≤ 1 by omega) (show 0 + (n + n / 2) ≤ 22 by omega) d_AR_copyOf2_7 (fun q_7 cA9 H hK hP hD hS => ?_)
    rw [ba_uniq hK (i := 4) (j := 3) rfl rfl] at hP hD
    have hK := hK.sub (tys' := TY cI cZ cJ cO) [0, 1, 2, 3] rfl
    refine W.widen (k := 1) (n := 22) (by omega) (by omega) ?_
    have hP : va_P D cls [(ea, .inl (cO, n, .inr (.inr (.inr (.inr f))))), (q_7, .inl (cO, (n + n / 2), .inr (.inr (.inr (.inr (fun _ => none))))))] H := hP
    have hD : va_D A [(ea, .inl (cO, n, .inr (.inr (.inr (.inr f))))), (q_7, .inl (cO, (n + n / 2), .inr (.inr (.inr (.inr (fun _ => none))))))] := hD
    refine lv_goto (tgt := 24) hx hb d_AR_copyOf2_10 (by decide) ?_
    refine lv_astore_n (lv' := [(3, .ref q_7), (0, .ref ea), (1, .int (nI (n + n / 2))), (2, .ref mi)]) hx hb d_AR_copyOf2_24 rfl hl (by decide) rfl (fun ls hl => ?_)
    refine lv_aload_n hx hb d_AR_copyOf2_25 rfl (lv_at hl 1 rfl) ?_
    refine lv_iconst (v := 0) hx hb d_AR_copyOf2_26 (by decide) ?_
    refine lv_aload_n hx hb d_AR_copyOf2_27 rfl (lv_at hl 0 rfl) ?_
    refine lv_iconst (v := 0) hx hb d_AR_copyOf2_28 (by decide) ?_
    refine lv_aload_n hx hb d_AR_copyOf2_29 rfl (lv_at hl 1 rfl) ?_
    refine va_alen (v := nI n) hx hb hK hP 0 3 rfl rfl rfl d_AR_copyOf2_30 ?_
    refine lv_iload_n hx hb d_AR_copyOf2_31 rfl (lv_at hl 2 rfl) ?_
    refine va_mmin hx hb (by rw [hml]; exact hl.1.symm) hown (hg _ g_442) (hg _ g_104) (hg _ g_24) (hg _ g_105) (Nat.le_of_ble_eq_true rfl) (Nat.le_of_ble_eq_true rfl) (Nat.le_of_ble_eq_true rfl) (Nat.le_of_ble_eq_true rfl) d_AR_copyOf2_32 ?_
    refine lv_topi (fun y_1 ey_1 => ?_)
    obtain rfl : y_1 = nI n := ey_1.trans (mn_v (by omega) (by omega))
    refine va_copyq (C := C) hx hb (by rw [hml]; exact hl.1.symm) hown (hg _ g_443) (hg _ g_445) (hg _ g_444) (hg _ g_35) hK hP hD hS 0 1 3 3 rfl rfl rfl rfl (by decide) (by decide) (nI_pos (by omega)) (by rw [c0n (by omega)]; omega) (by rw [c0n (by omega)]; omega) (fun i hi y hy => by rw [nI_clamp (show n < 2 ^ 31 by omega)] at hi; rw [sb_cl0, Nat.zero_add] at hy; exact (hEl y (hfe i hi y hy)).1.kept (hS.2.1 y (hEl y (hfe i hi y hy)).1.lt (hEl y (hfe i hi y hy)).2)) (fun comp c0 e1 e2 => by obtain ⟨c3, c4, f1, f2, f3⟩ := Cond.castable_spec (args := #[]) (hN.1 _ hCO); cases f1.symm.trans e2; cases f2.symm.trans e1; exact f3) (Nat.le_of_ble_eq_true rfl) (by decide) d_AR_copyOf2_35 (fun H locs hP hD hS => ?_)
    rw [nI_clamp (show n < 2 ^ 31 by omega), sb_cl0] at hP hD
    have hP : va_P D cls [(ea, .inl (cO, n, .inr (.inr (.inr (.inr f))))), (q_7, .inl (cO, (n + n / 2), .inr (.inr (.inr (.inr (va_cpy f (fun _ => none) 0 0 n))))))] H := hP
    have hD : va_D A [(ea, .inl (cO, n, .inr (.inr (.inr (.inr f))))), (q_7, .inl (cO, (n + n / 2), .inr (.inr (.inr (.inr (va_cpy f (fun _ => none) 0 0 n))))))] := hD
    refine lv_aload_n hx hb d_AR_copyOf2_38 rfl (lv_at hl 0 rfl) ?_
    exact W.aret hx hb hr (Or.inr ⟨_, rfl⟩) (Or.inr ⟨_, rfl⟩) (fun t9 ht hW => ⟨⟨[(ea, .inl (cO, n, .inr (.inr (.inr (.inr f))))), (q_7, .inl (cO, (n + n / 2), .inr (.inr (.inr (.inr (va_cpy f (fun _ => none) 0 0 n))))))], q_7, rfl, trivial, rfl, by rw [ht]; exact hP, va_K.moved hW.alike hK, hD⟩, hS.F ht⟩) hS.2.2 d_AR_copyOf2_39

set_option maxHeartbeats 4000000 in
set_option maxRecDepth 100000 in
/-- copyOf of places -/
theorem c_AR_copyOf_ok (l : Launch) (D : va_G) (cI cZ cJ cO : ClassId) (sz e0 mi : Nat) (C : String) (hCO : Cond.castable C "java/lang/Object" ∈ NWL) (els : Nat → Prop) (ea n : Nat) (f : Nat → Option Nat) (h2 : 2 ≤ n) (h14 : n ≤ 15) (hfe : ∀ i, i < n → ∀ y, f i = some y → els y) : Met l y_AR_copyOf (wq y_AR_copyOf c_AR_copyOf 2 (some (.array (.object "java/lang/Object")))) ({ frames := 2, cells := 1, slots := 22, locals := 83 }) (lP D (TY cI cZ cJ cO) [(ea, .inl (cO, n, .inr (.inr (.inr (.inr f)))))] [.ref ea, .int (nI (n + n / 2))] sz e0 mi C els) (va_Qr (fun _ : va_W => True) (fun (u : va_W) (ra : Nat) (t : State) => (u = [(ea, .inl (cO, n, .inr (.inr (.inr (.inr f))))), (ra, .inl (cO, (n + n / 2), .inr (.inr (.inr (.inr (va_cpy f (fun _ => none) 0 0 n))))))]) ∧ mB D (TY cI cZ cJ cO) (va_A [(ea, .inl (cO, n, .inr (.inr (.inr (.inr f)))))] sz) u t) (va_A [(ea, .inl (cO, n, .inr (.inr (.inr (.inr f)))))] sz)) 1 22 (va_A [(ea, .inl (cO, n, .inr (.inr (.inr (.inr f)))))] sz) := by
  refine Met.ofW (cc := c_AR_copyOf) (maxL := 2) (ret := (some (.array (.object "java/lang/Object")))) (by decide) rfl ?_
  intro p e s m args below meth c s₁ B hml hv
  obtain ⟨rfl, hsz, hP, hK, hD0, hN, hsP, hEl⟩ := hv
  have hx := B.exec
  have hb := B.bytes
  have hr := B.returns
  have hg := gt_h (atoms_spec (ws := (wq y_AR_copyOf c_AR_copyOf 2 (some (.array (.object "java/lang/Object"))))) B.pre)
  have hown : s.vm.findClass "java/util/Arrays" = some m.cls := findClass_of_methodNamed B.named
  have hlocks := B.notSynchronized
  have hMi := hsP.2.2
  subst hsz
  have hD := hD0.self (sz := s.heap.size)
  generalize hAe : va_A [(ea, .inl (cO, n, .inr (.inr (.inr (.inr f)))))] s.heap.size = A at hD hsP hEl ⊢
  have hA : ∀ q : Nat, s.heap.size ≤ q → A q := fun q h => by rw [← hAe]; exact Or.inr h
  have hS : va_S A s.heap s.heap [] := va_S.rf
  have hl := lv_entry ([.ref ea, .int (nI (n + n / 2))]) (n := 2) (Nat.le_of_ble_eq_true rfl)
  rw [lg_entry_eq]
  generalize (lg_sl ([.ref ea, .int (nI (n + n / 2))]) ++ List.replicate (2 - (lg_sl ([.ref ea, .int (nI (n + n / 2))])).length) Slot.unset).toArray = ls at hl ⊢
  have hl : lv_has ls 2 [(0, .ref ea), (1, .int (nI (n + n / 2)))] := hl
  refine lv_aload_n hx hb d_AR_copyOf_0 rfl (lv_at hl 0 rfl) ?_
  refine lv_iload_n hx hb d_AR_copyOf_1 rfl (lv_at hl 1 rfl) ?_
  refine lv_aload_n hx hb d_AR_copyOf_2 rfl (lv_at hl 0 rfl) ?_
  refine va_getC (C := "[Ljava/lang/Object;") (mi := mi) hx hb (by rw [hml]; exact hl.1.symm) hown (hg _ g_421) (nw_use nw_23 hN) (hg _ g_806) (hg _ g_422) (hg _ g_435) hMi (arr_rc hK hP (q0 := 0) rfl) (Nat.le_of_ble_eq_true rfl) (Nat.le_of_ble_eq_true rfl) d_AR_copyOf_3 ?_
  have hP := hP.sub (ws' := [(ea, .inl (cO, n, .inr (.inr (.inr (.inr f)))))] ++ []) [0] rfl
  have hD := hD.sub (ws' := [(ea, .inl (cO, n, .inr (.inr (.inr (.inr f)))))] ++ []) [0] (by decide) rfl
  refine mcallr (wc := [(ea, .inl (cO, n, .inr (.inr (.inr (.inr f)))))]) (wr := []) (va_runS (As := [.ref ea, .int (nI (n + n / 2)), .ref mi]) (rest := []) ⟨hx, hb, hml, hown, hg⟩ (c_AR_copyOf2_ok l D cI cZ cJ cO s.heap.size e0 mi C hCO els ea n f h2 h14 hfe) (va_cwS 3 hg (gs2 g_436 g_437 g_25 g_438) rfl rfl rfl (by decide +kernel) ⟨Nat.le_of_ble_eq_true rfl, Nat.le_of_ble_eq_true rfl⟩) ⟨lp_blind, fun U hU hW => ⟨rfl, (lPre (els := els) hP hD hK hN hS hA hsP hEl (fun _ h => h)) U hU hW⟩⟩ rfl rfl hl.1 rfl (lv_room (Nat.le_of_ble_eq_true rfl)) d_AR_copyOf_6 ⟨Nat.le_of_ble_eq_true rfl, Nat.le_of_ble_eq_true rfl⟩) hP hD hS hA (fun u_1 r_2 H locs hu_1 hP hD hS => ?_)
  subst hu_1
  have hP : va_P D cls [(ea, .inl (cO, n, .inr (.inr (.inr (.inr f))))), (r_2, .inl (cO, (n + n / 2), .inr (.inr (.inr (.inr (va_cpy f (fun _ => none) 0 0 n))))))] H := hP
  have hD : va_D A [(ea, .inl (cO, n, .inr (.inr (.inr (.inr f))))), (r_2, .inl (cO, (n + n / 2), .inr (.inr (.inr (.inr (va_cpy f (fun _ => none) 0 0 n))))))] := hD
  refine W.widen (k := 1) (n := 22) (by omega) (by omega) ?_
  exact W.aret hx hb hr (Or.inr ⟨_, rfl⟩) (Or.inr ⟨_, rfl⟩) (fun t9 ht hW => ⟨⟨[(ea, .inl (cO, n, .inr (.inr (.inr (.inr f))))), (r_2, .inl (cO, (n + n / 2), .inr (.inr (.inr (.inr (va_cpy f (fun _ => none) 0 0 n))))))], r_2, rfl, trivial, rfl, by rw [ht]; exact hP, va_K.moved hW.alike hK, hD⟩, hS.F ht⟩) hS.2.2 d_AR_copyOf_9

set_option maxHeartbeats 4000000 in
set_option maxRecDepth 100000 in
/-- grow, of a list without places -/
theorem c_A_grow2V_ok (l : Launch) (D : va_G) (cI cZ cJ cO : ClassId) (sz e0 mi : Nat) (C : String) (hCO : Cond.castable C "java/lang/Object" ∈ NWL) (els : Nat → Prop) (la : Nat) (x1 m9 : Int32) (hm : m9.toInt ≤ 10) : Met l y_A_grow2 (wq y_A_grow2 c_A_grow2 4 (some (.array (.object "java/lang/Object")))) ({ frames := 3, cells := 1, slots := 22, locals := 104 }) (lP D (TY cI cZ cJ cO) [(la, .inr (0, [.int x1, .ref e0, .int 0]))] [.ref la, .int m9] sz e0 mi C els) (va_Qr (fun _ : va_W => True) (fun (u : va_W) (ra : Nat) (t : State) => (u = [(la, .inr (0, [.int x1, .ref ra, .int 0])), (ra, .inl (cO, 10, .inr (.inr (.inr (.inr (fun _ => none))))))]) ∧ mB D (TY cI cZ cJ cO) (va_A [(la, .inr (0, [.int x1, .ref e0, .int 0]))] sz) u t) (va_A [(la, .inr (0, [.int x1, .ref e0, .int 0]))] sz)) 1 22 (va_A [(la, .inr (0, [.int x1, .ref e0, .int 0]))] sz) := by
  refine Met.ofW (cc := c_A_grow2) (maxL := 4) (ret := (some (.array (.object "java/lang/Object")))) (by decide) rfl ?_
  intro p e s m args below meth c s₁ B hml hv
  obtain ⟨rfl, hsz, hP, hK, hD0, hN, hsP, hEl⟩ := hv
  have hx := B.exec
  have hb := B.bytes
  have hr := B.returns
  have hg := gt_h (atoms_spec (ws := (wq y_A_grow2 c_A_grow2 4 (some (.array (.object "java/lang/Object"))))) B.pre)
  have hown : s.vm.findClass "java/util/ArrayList" = some m.cls := findClass_of_methodNamed B.named
  have hlocks := B.notSynchronized
  have hMi := hsP.2.2
  subst hsz
  have hD := hD0.self (sz := s.heap.size)
  generalize hAe : va_A [(la, .inr (0, [.int x1, .ref e0, .int 0]))] s.heap.size = A at hD hsP hEl ⊢
  have hA : ∀ q : Nat, s.heap.size ≤ q → A q := fun q h => by rw [← hAe]; exact Or.inr h
  have hS : va_S A s.heap s.heap [] := va_S.rf
  have hl := lv_entry ([.ref la, .int m9]) (n := 4) (Nat.le_of_ble_eq_true rfl)
  rw [lg_entry_eq]
  generalize (lg_sl ([.ref la, .int m9]) ++ List.replicate (4 - (lg_sl ([.ref la, .int m9])).length) Slot.unset).toArray = ls at hl ⊢
  have hl : lv_has ls 4 [(0, .ref la), (1, .int m9)] := hl
  refine lv_aload_n hx hb d_A_grow2_0 rfl (lv_at hl 0 rfl) ?_
  refine va_get (D := D) (ci := 0) (v := .ref e0) (C := Q_A) (T := F_A) (N := 3) hx hb hg in_A hown hK hP 0 rfl rfl 1 (by decide) (hg _ g_62) (fun _ h9 => h9) rfl d_A_grow2_1 ?_
  refine va_tlen (v := 0) hx hb hsP.2.1 hS rfl d_A_grow2_4 ?_
  refine lv_istore_n (lv' := [(2, .int 0), (0, .ref la), (1, .int m9)]) hx hb d_A_grow2_5 rfl hl (by decide) rfl (fun ls hl => ?_)
  refine lv_iload_n hx hb d_A_grow2_6 rfl (lv_at hl 0 rfl) ?_
  refine lv_if_gt (tgt := 20) hx hb d_A_grow2_7 (by decide) (fun c_7 => ?_) (fun c_7 => ?_)
  · exact absurd c_7 (by decide)
  · refine lv_aload_n hx hb d_A_grow2_10 rfl (lv_at hl 1 rfl) ?_
    refine va_get (D := D) (ci := 0) (v := .ref e0) (C := Q_A) (T := F_A) (N := 3) hx hb hg in_A hown hK hP 0 rfl rfl 1 (by decide) (hg _ g_62) (fun _ h9 => h9) rfl d_A_grow2_11 ?_
    refine va_gets (v := .ref e0) hx hb hsP.1 hS hown (hg _ g_60) (fun _ h9 => h9) d_A_grow2_14 ?_
    refine W.eq (g2 := F0 m 17 ls (va_rf (some e0) :: va_rf (some e0) :: [])) rfl ?_
    refine lv_acmp_eq (tgt := 45) hx hb d_A_grow2_17 (by decide) (fun c_17 => ?_) (fun c_17 => ?_)
    · refine lv_aload_n hx hb d_A_grow2_45 rfl (lv_at hl 1 rfl) ?_
      refine lv_bipush (v := 10) hx hb d_A_grow2_46 (by decide) ?_
      refine lv_iload_n hx hb d_A_grow2_48 rfl (lv_at hl 2 rfl) ?_
      refine va_mmax hx hb (by rw [hml]; exact hl.1.symm) hown (hg _ g_446) (hg _ g_107) (hg _ g_24) (hg _ g_108) (Nat.le_of_ble_eq_true rfl) (Nat.le_of_ble_eq_true rfl) (Nat.le_of_ble_eq_true rfl) (Nat.le_of_ble_eq_true rfl) d_A_grow2_49 ?_
      refine lv_topi (fun y_1 ey_1 => ?_)
      obtain rfl : y_1 = 10 := ey_1.trans (i10 hm)
      refine va_newq (N' := 10) hx hb hown (hg _ g_447) hN.2.2.2 hK hP hD hS hA (by decide) (by decide) (by decide) (show 0 + 1 ≤ 1 by omega) (show 0 + 10 ≤ 22 by omega) d_A_grow2_52 (fun q_52 cA9 H hK hP hD hS => ?_)
      rw [ba_uniq hK (i := 4) (j := 3) rfl rfl] at hP hD
      have hK := hK.sub (tys' := TY cI cZ cJ cO) [0, 1, 2, 3] rfl
      refine W.widen (k := 1) (n := 22) (by omega) (by omega) ?_
      have hP : va_P D cls [(la, .inr (0, [.int x1, .ref e0, .int 0])), (q_52, .inl (cO, 10, .inr (.inr (.inr (.inr (fun _ => none))))))] H := hP
      have hD : va_D A [(la, .inr (0, [.int x1, .ref e0, .int 0])), (q_52, .inl (cO, 10, .inr (.inr (.inr (.inr (fun _ => none))))))] := hD
      refine lv_dup_x1 hx hb d_A_grow2_55 rfl rfl ?_
      refine va_put (D := D) (ci := 0) (v := .ref q_52) (ty := .array (.object "java/lang/Object")) (C := Q_A) (T := F_A) (N := 3) hx hb hg in_A tq_A tq_A_ok n_A hown hK hP hD hS 0 rfl rfl 1 (by decide) (hg _ g_62) (fun _ h9 => h9) rfl (by decide +kernel) rfl rfl (Nat.le_of_ble_eq_true rfl) d_A_grow2_56 (fun H locs hP hD hS => ?_)
      have hP : va_P D cls [(la, .inr (0, [.int x1, .ref q_52, .int 0])), (q_52, .inl (cO, 10, .inr (.inr (.inr (.inr (fun _ => none))))))] H := hP
      have hD : va_D A [(la, .inr (0, [.int x1, .ref q_52, .int 0])), (q_52, .inl (cO, 10, .inr (.inr (.inr (.inr (fun _ => none))))))] := hD
      exact W.aret hx hb hr (Or.inr ⟨_, rfl⟩) (Or.inr ⟨_, rfl⟩) (fun t9 ht hW => ⟨⟨[(la, .inr (0, [.int x1, .ref q_52, .int 0])), (q_52, .inl (cO, 10, .inr (.inr (.inr (.inr (fun _ => none))))))], q_52, rfl, trivial, rfl, by rw [ht]; exact hP, va_K.moved hW.alike hK, hD⟩, hS.F ht⟩) hS.2.2 d_A_grow2_59
    · exact absurd rfl c_17

set_option maxHeartbeats 4000000 in
set_option maxRecDepth 100000 in
/-- grow, of a full list -/
theorem c_A_grow2G_ok (l : Launch) (D : va_G) (cI cZ cJ cO : ClassId) (sz e0 mi : Nat) (C : String) (hCO : Cond.castable C "java/lang/Object" ∈ NWL) (els : Nat → Prop) (la : Nat) (x1 : Int32) (ea n : Nat) (f : Nat → Option Nat) (h2 : 2 ≤ n) (h14 : n ≤ 15) (hfe : ∀ i, i < n → ∀ y, f i = some y → els y) : Met l y_A_grow2 (wq y_A_grow2 c_A_grow2 4 (some (.array (.object "java/lang/Object")))) ({ frames := 3, cells := 1, slots := 22, locals := 104 }) (lP D (TY cI cZ cJ cO) [(la, .inr (0, [.int x1, .ref ea, .int (nI n)])), (ea, .inl (cO, n, .inr (.inr (.inr (.inr f)))))] [.ref la, .int (nI n + 1)] sz e0 mi C els) (va_Qr (fun _ : va_W => True) (fun (u : va_W) (ra : Nat) (t : State) => (u = [(la, .inr (0, [.int x1, .ref ra, .int (nI n)])), (ra, .inl (cO, (n + n / 2), .inr (.inr (.inr (.inr (va_cpy f (fun _ => none) 0 0 n))))))]) ∧ mB D (TY cI cZ cJ cO) (va_A [(la, .inr (0, [.int x1, .ref ea, .int (nI n)])), (ea, .inl (cO, n, .inr (.inr (.inr (.inr f)))))] sz) u t) (va_A [(la, .inr (0, [.int x1, .ref ea, .int (nI n)])), (ea, .inl (cO, n, .inr (.inr (.inr (.inr f)))))] sz)) 1 22 (va_A [(la, .inr (0, [.int x1, .ref ea, .int (nI n)])), (ea, .inl (cO, n, .inr (.inr (.inr (.inr f)))))] sz) := by
  refine Met.ofW (cc := c_A_grow2) (maxL := 4) (ret := (some (.array (.object "java/lang/Object")))) (by decide) rfl ?_
  intro p e s m args below meth c s₁ B hml hv
  obtain ⟨rfl, hsz, hP, hK, hD0, hN, hsP, hEl⟩ := hv
  have hx := B.exec
  have hb := B.bytes
  have hr := B.returns
  have hg := gt_h (atoms_spec (ws := (wq y_A_grow2 c_A_grow2 4 (some (.array (.object "java/lang/Object"))))) B.pre)
  have hown : s.vm.findClass "java/util/ArrayList" = some m.cls := findClass_of_methodNamed B.named
  have hlocks := B.notSynchronized
  have hMi := hsP.2.2
  subst hsz
  have hD := hD0.self (sz := s.heap.size)
  generalize hAe : va_A [(la, .inr (0, [.int x1, .ref ea, .int (nI n)])), (ea, .inl (cO, n, .inr (.inr (.inr (.inr f)))))] s.heap.size = A at hD hsP hEl ⊢
  have hA : ∀ q : Nat, s.heap.size ≤ q → A q := fun q h => by rw [← hAe]; exact Or.inr h
  have hS : va_S A s.heap s.heap [] := va_S.rf
  have hl := lv_entry ([.ref la, .int (nI n + 1)]) (n := 4) (Nat.le_of_ble_eq_true rfl)
  rw [lg_entry_eq]
  generalize (lg_sl ([.ref la, .int (nI n + 1)]) ++ List.replicate (4 - (lg_sl ([.ref la, .int (nI n + 1)])).length) Slot.unset).toArray = ls at hl ⊢
  have hl : lv_has ls 4 [(0, .ref la), (1, .int (nI n + 1))] := hl
  refine lv_aload_n hx hb d_A_grow2_0 rfl (lv_at hl 0 rfl) ?_
  refine va_get (D := D) (ci := 0) (v := .ref ea) (C := Q_A) (T := F_A) (N := 3) hx hb hg in_A hown hK hP 0 rfl rfl 1 (by decide) (hg _ g_62) (fun _ h9 => h9) rfl d_A_grow2_1 ?_
  refine va_alen (v := nI n) hx hb hK hP 1 3 rfl rfl rfl d_A_grow2_4 ?_
  refine lv_istore_n (lv' := [(2, .int (nI n)), (0, .ref la), (1, .int (nI n + 1))]) hx hb d_A_grow2_5 rfl hl (by decide) rfl (fun ls hl => ?_)
  refine lv_iload_n hx hb d_A_grow2_6 rfl (lv_at hl 0 rfl) ?_
  refine lv_if_gt (tgt := 20) hx hb d_A_grow2_7 (by decide) (fun c_7 => ?_) (fun c_7 => ?_)
  · have h30 : n ≤ 30 := by omega
    refine lv_iload_n hx hb d_A_grow2_20 rfl (lv_at hl 0 rfl) ?_
    refine lv_iload_n hx hb d_A_grow2_21 rfl (lv_at hl 2 rfl) ?_
    refine lv_iload_n hx hb d_A_grow2_22 rfl (lv_at hl 0 rfl) ?_
    refine lv_isub hx hb d_A_grow2_23 ?_
    refine lv_iload_n hx hb d_A_grow2_24 rfl (lv_at hl 0 rfl) ?_
    refine lv_iconst (v := 1) hx hb d_A_grow2_25 (by decide) ?_
    refine lv_ishr hx hb d_A_grow2_26 ?_
    refine vp_callSi (va_Run.run (va_runS (As := [.int (nI n), .int ((nI n + 1) - (nI n)), .int ((nI n) >>> (1 &&& 31))]) (rest := []) ⟨hx, hb, hml, hown, hg⟩ (c_AS_newLength_ok l D cI cZ cJ cO n h2 h30) (va_cwS 3 hg (gs2 g_410 g_411 g_34 g_412) rfl rfl rfl (by decide +kernel) ⟨Nat.le_of_ble_eq_true rfl, Nat.le_of_ble_eq_true rfl⟩) (pS ba_nil hK hN) rfl rfl hl.1 rfl (lv_room (Nat.le_of_ble_eq_true rfl)) d_A_grow2_27 ⟨Nat.zero_le _, Nat.zero_le _⟩)) (fun r_1 hr_1 => ?_)
    subst hr_1
    refine lv_istore_n (lv' := [(3, .int (nI (n + n / 2))), (2, .int (nI n)), (0, .ref la), (1, .int (nI n + 1))]) hx hb d_A_grow2_30 rfl hl (by decide) rfl (fun ls hl => ?_)
    refine lv_aload_n hx hb d_A_grow2_31 rfl (lv_at hl 2 rfl) ?_
    refine lv_aload_n hx hb d_A_grow2_32 rfl (lv_at hl 2 rfl) ?_
    refine va_get (D := D) (ci := 0) (v := .ref ea) (C := Q_A) (T := F_A) (N := 3) hx hb hg in_A hown hK hP 0 rfl rfl 1 (by decide) (hg _ g_62) (fun _ h9 => h9) rfl d_A_grow2_33 ?_
    refine lv_iload_n hx hb d_A_grow2_36 rfl (lv_at hl 0 rfl) ?_
    have hP := hP.sub (ws' := [(ea, .inl (cO, n, .inr (.inr (.inr (.inr f)))))] ++ [(la, .inr (0, [.int x1, .ref ea, .int (nI n)]))]) [1, 0] rfl
    have hD := hD.sub (ws' := [(ea, .inl (cO, n, .inr (.inr (.inr (.inr f)))))] ++ [(la, .inr (0, [.int x1, .ref ea, .int (nI n)]))]) [1, 0] (by decide) rfl
    refine mcallr (wc := [(ea, .inl (cO, n, .inr (.inr (.inr (.inr f)))))]) (wr := [(la, .inr (0, [.int x1, .ref ea, .int (nI n)]))]) (va_runS (As := [.ref ea, .int (nI (n + n / 2))]) (rest := [.ref la]) ⟨hx, hb, hml, hown, hg⟩ (c_AR_copyOf_ok l D cI cZ cJ cO s.heap.size e0 mi C hCO els ea n f h2 h14 hfe) (va_cwS 2 hg (gs2 g_418 g_419 g_25 g_420) rfl rfl rfl (by decide +kernel) ⟨Nat.le_of_ble_eq_true rfl, Nat.le_of_ble_eq_true rfl⟩) ⟨lp_blind, fun U hU hW => ⟨rfl, (lPre (els := els) hP hD hK hN hS hA hsP hEl (fun _ h => h)) U hU hW⟩⟩ rfl rfl hl.1 rfl (lv_room (Nat.le_of_ble_eq_true rfl)) d_A_grow2_37 ⟨Nat.le_of_ble_eq_true rfl, Nat.le_of_ble_eq_true rfl⟩) hP hD hS hA (fun u_2 r_3 H locs hu_2 hP hD hS => ?_)
    subst hu_2
    have hP : va_P D cls [(ea, .inl (cO, n, .inr (.inr (.inr (.inr f))))), (r_3, .inl (cO, (n + n / 2), .inr (.inr (.inr (.inr (va_cpy f (fun _ => none) 0 0 n)))))), (la, .inr (0, [.int x1, .ref ea, .int (nI n)]))] H := hP
    have hD : va_D A [(ea, .inl (cO, n, .inr (.inr (.inr (.inr f))))), (r_3, .inl (cO, (n + n / 2), .inr (.inr (.inr (.inr (va_cpy f (fun _ => none) 0 0 n)))))), (la, .inr (0, [.int x1, .ref ea, .int (nI n)]))] := hD
    refine W.widen (k := 1) (n := 22) (by omega) (by omega) ?_
    refine lv_dup_x1 hx hb d_A_grow2_40 rfl rfl ?_
    refine va_put (D := D) (ci := 0) (v := .ref r_3) (ty := .array (.object "java/lang/Object")) (C := Q_A) (T := F_A) (N := 3) hx hb hg in_A tq_A tq_A_ok n_A hown hK hP hD hS 2 rfl rfl 1 (by decide) (hg _ g_62) (fun _ h9 => h9) rfl (by decide +kernel) rfl rfl (Nat.le_of_ble_eq_true rfl) d_A_grow2_41 (fun H locs hP hD hS => ?_)
    have hP : va_P D cls [(ea, .inl (cO, n, .inr (.inr (.inr (.inr f))))), (r_3, .inl (cO, (n + n / 2), .inr (.inr (.inr (.inr (va_cpy f (fun _ => none) 0 0 n)))))), (la, .inr (0, [.int x1, .ref r_3, .int (nI n)]))] H := hP
    have hD : va_D A [(ea, .inl (cO, n, .inr (.inr (.inr (.inr f))))), (r_3, .inl (cO, (n + n / 2), .inr (.inr (.inr (.inr (va_cpy f (fun _ => none) 0 0 n)))))), (la, .inr (0, [.int x1, .ref r_3, .int (nI n)]))] := hD
    have hP := hP.sub (ws' := [(la, .inr (0, [.int x1, .ref r_3, .int (nI n)])), (r_3, .inl (cO, (n + n / 2), .inr (.inr (.inr (.inr (va_cpy f (fun _ => none) 0 0 n))))))]) [2, 1] rfl
    have hD := hD.sub (ws' := [(la, .inr (0, [.int x1, .ref r_3, .int (nI n)])), (r_3, .inl (cO, (n + n / 2), .inr (.inr (.inr (.inr (va_cpy f (fun _ => none) 0 0 n))))))]) [2, 1] (by decide) rfl
    exact W.aret hx hb hr (Or.inr ⟨_, rfl⟩) (Or.inr ⟨_, rfl⟩) (fun t9 ht hW => ⟨⟨[(la, .inr (0, [.int x1, .ref r_3, .int (nI n)])), (r_3, .inl (cO, (n + n / 2), .inr (.inr (.inr (.inr (va_cpy f (fun _ => none) 0 0 n))))))], r_3, rfl, trivial, rfl, by rw [ht]; exact hP, va_K.moved hW.alike hK, hD⟩, hS.F ht⟩) hS.2.2 d_A_grow2_44
  · exact absurd (show nI 0 < nI n from nI_lt (by omega) (by omega)) c_7

set_option maxHeartbeats 4000000 in
set_option maxRecDepth 100000 in
theorem c_A_growV_ok (l : Launch) (D : va_G) (cI cZ cJ cO : ClassId) (sz e0 mi : Nat) (C : String) (hCO : Cond.castable C "java/lang/Object" ∈ NWL) (els : Nat → Prop) (la : Nat) (x1 : Int32) : Met l y_A_grow (wq y_A_grow c_A_grow 1 (some (.array (.object "java/lang/Object")))) ({ frames := 4, cells := 1, slots := 22, locals := 127 }) (lP D (TY cI cZ cJ cO) [(la, .inr (0, [.int x1, .ref e0, .int 0]))] [.ref la] sz e0 mi C els) (va_Qr (fun _ : va_W => True) (fun (u : va_W) (ra : Nat) (t : State) => (u = [(la, .inr (0, [.int x1, .ref ra, .int 0])), (ra, .inl (cO, 10, .inr (.inr (.inr (.inr (fun _ => none))))))]) ∧ mB D (TY cI cZ cJ cO) (va_A [(la, .inr (0, [.int x1, .ref e0, .int 0]))] sz) u t) (va_A [(la, .inr (0, [.int x1, .ref e0, .int 0]))] sz)) 1 22 (va_A [(la, .inr (0, [.int x1, .ref e0, .int 0]))] sz) := by
  refine Met.ofW (cc := c_A_grow) (maxL := 1) (ret := (some (.array (.object "java/lang/Object")))) (by decide) rfl ?_
  intro p e s m args below meth c s₁ B hml hv
  obtain ⟨rfl, hsz, hP, hK, hD0, hN, hsP, hEl⟩ := hv
  have hx := B.exec
  have hb := B.bytes
  have hr := B.returns
  have hg := gt_h (atoms_spec (ws := (wq y_A_grow c_A_grow 1 (some (.array (.object "java/lang/Object"))))) B.pre)
  have hown : s.vm.findClass "java/util/ArrayList" = some m.cls := findClass_of_methodNamed B.named
  have hlocks := B.notSynchronized
  have hMi := hsP.2.2
  subst hsz
  have hD := hD0.self (sz := s.heap.size)
  generalize hAe : va_A [(la, .inr (0, [.int x1, .ref e0, .int 0]))] s.heap.size = A at hD hsP hEl ⊢
  have hA : ∀ q : Nat, s.heap.size ≤ q → A q := fun q h => by rw [← hAe]; exact Or.inr h
  have hS : va_S A s.heap s.heap [] := va_S.rf
  have hl := lv_entry ([.ref la]) (n := 1) (Nat.le_of_ble_eq_true rfl)
  rw [lg_entry_eq]
  generalize (lg_sl ([.ref la]) ++ List.replicate (1 - (lg_sl ([.ref la])).length) Slot.unset).toArray = ls at hl ⊢
  have hl : lv_has ls 1 [(0, .ref la)] := hl
  refine lv_aload_n hx hb d_A_grow_0 rfl (lv_at hl 0 rfl) ?_
  refine lv_aload_n hx hb d_A_grow_1 rfl (lv_at hl 0 rfl) ?_
  refine va_get (D := D) (ci := 0) (v := .int 0) (C := Q_A) (T := F_A) (N := 3) hx hb hg in_A hown hK hP 0 rfl rfl 2 (by decide) (hg _ g_63) (fun _ h9 => h9) rfl d_A_grow_2 ?_
  refine lv_iconst (v := 1) hx hb d_A_grow_5 (by decide) ?_
  refine lv_iadd hx hb d_A_grow_6 ?_
  have hP := hP.sub (ws' := [(la, .inr (0, [.int x1, .ref e0, .int 0]))] ++ []) [0] rfl
  have hD := hD.sub (ws' := [(la, .inr (0, [.int x1, .ref e0, .int 0]))] ++ []) [0] (by decide) rfl
  refine mcallr (wc := [(la, .inr (0, [.int x1, .ref e0, .int 0]))]) (wr := []) (va_runV (As := [.int (0 + 1)]) (rest := []) ⟨hx, hb, hml, hown, hg⟩ (c_A_grow2V_ok l D cI cZ cJ cO s.heap.size e0 mi C hCO els la x1 (0 + 1) (by decide)) (cwV 1 hg (gv g_406 g_408 g_6 g_21 g_409) rfl rfl rfl (by decide +kernel) ⟨Nat.le_of_ble_eq_true rfl, Nat.le_of_ble_eq_true rfl⟩) ⟨lp_blind, va_recv hK (ba_Pl hP) (ci := 0) (q0 := 0) rfl rfl, fun U hU hW => ⟨rfl, (lPre (els := els) hP hD hK hN hS hA hsP hEl (fun _ h => h)) U hU hW⟩⟩ rfl rfl hl.1 rfl (lv_room (Nat.le_of_ble_eq_true rfl)) d_A_grow_7 ⟨Nat.le_of_ble_eq_true rfl, Nat.le_of_ble_eq_true rfl⟩) hP hD hS hA (fun u_1 r_2 H locs hu_1 hP hD hS => ?_)
  subst hu_1
  have hP : va_P D cls [(la, .inr (0, [.int x1, .ref r_2, .int 0])), (r_2, .inl (cO, 10, .inr (.inr (.inr (.inr (fun _ => none))))))] H := hP
  have hD : va_D A [(la, .inr (0, [.int x1, .ref r_2, .int 0])), (r_2, .inl (cO, 10, .inr (.inr (.inr (.inr (fun _ => none))))))] := hD
  refine W.widen (k := 1) (n := 22) (by omega) (by omega) ?_
  exact W.aret hx hb hr (Or.inr ⟨_, rfl⟩) (Or.inr ⟨_, rfl⟩) (fun t9 ht hW => ⟨⟨[(la, .inr (0, [.int x1, .ref r_2, .int 0])), (r_2, .inl (cO, 10, .inr (.inr (.inr (.inr (fun _ => none))))))], r_2, rfl, trivial, rfl, by rw [ht]; exact hP, va_K.moved hW.alike hK, hD⟩, hS.F ht⟩) hS.2.2 d_A_grow_10

set_option maxHeartbeats 4000000 in
set_option maxRecDepth 100000 in
theorem c_A_growG_ok (l : Launch) (D : va_G) (cI cZ cJ cO : ClassId) (sz e0 mi : Nat) (C : String) (hCO : Cond.castable C "java/lang/Object" ∈ NWL) (els : Nat → Prop) (la : Nat) (x1 : Int32) (ea n : Nat) (f : Nat → Option Nat) (h2 : 2 ≤ n) (h14 : n ≤ 15) (hfe : ∀ i, i < n → ∀ y, f i = some y → els y) : Met l y_A_grow (wq y_A_grow c_A_grow 1 (some (.array (.object "java/lang/Object")))) ({ frames := 4, cells := 1, slots := 22, locals := 127 }) (lP D (TY cI cZ cJ cO) [(la, .inr (0, [.int x1, .ref ea, .int (nI n)])), (ea, .inl (cO, n, .inr (.inr (.inr (.inr f)))))] [.ref la] sz e0 mi C els) (va_Qr (fun _ : va_W => True) (fun (u : va_W) (ra : Nat) (t : State) => (u = [(la, .inr (0, [.int x1, .ref ra, .int (nI n)])), (ra, .inl (cO, (n + n / 2), .inr (.inr (.inr (.inr (va_cpy f (fun _ => none) 0 0 n))))))]) ∧ mB D (TY cI cZ cJ cO) (va_A [(la, .inr (0, [.int x1, .ref ea, .int (nI n)])), (ea, .inl (cO, n, .inr (.inr (.inr (.inr f)))))] sz) u t) (va_A [(la, .inr (0, [.int x1, .ref ea, .int (nI n)])), (ea, .inl (cO, n, .inr (.inr (.inr (.inr f)))))] sz)) 1 22 (va_A [(la, .inr (0, [.int x1, .ref ea, .int (nI n)])), (ea, .inl (cO, n, .inr (.inr (.inr (.inr f)))))] sz) := by
  refine Met.ofW (cc := c_A_grow) (maxL := 1) (ret := (some (.array (.object "java/lang/Object")))) (by decide) rfl ?_
  intro p e s m args below meth c s₁ B hml hv
  obtain ⟨rfl, hsz, hP, hK, hD0, hN, hsP, hEl⟩ := hv
  have hx := B.exec
  have hb := B.bytes
  have hr := B.returns
  have hg := gt_h (atoms_spec (ws := (wq y_A_grow c_A_grow 1 (some (.array (.object "java/lang/Object"))))) B.pre)
  have hown : s.vm.findClass "java/util/ArrayList" = some m.cls := findClass_of_methodNamed B.named
  have hlocks := B.notSynchronized
  have hMi := hsP.2.2
  subst hsz
  have hD := hD0.self (sz := s.heap.size)
  generalize hAe : va_A [(la, .inr (0, [.int x1, .ref ea, .int (nI n)])), (ea, .inl (cO, n, .inr (.inr (.inr (.inr f)))))] s.heap.size = A at hD hsP hEl ⊢
  have hA : ∀ q : Nat, s.heap.size ≤ q → A q := fun q h => by rw [← hAe]; exact Or.inr h
  have hS : va_S A s.heap s.heap [] := va_S.rf
  have hl := lv_entry ([.ref la]) (n := 1) (Nat.le_of_ble_eq_true rfl)
  rw [lg_entry_eq]
  generalize (lg_sl ([.ref la]) ++ List.replicate (1 - (lg_sl ([.ref la])).length) Slot.unset).toArray = ls at hl ⊢
  have hl : lv_has ls 1 [(0, .ref la)] := hl
  refine lv_aload_n hx hb d_A_grow_0 rfl (lv_at hl 0 rfl) ?_
  refine lv_aload_n hx hb d_A_grow_1 rfl (lv_at hl 0 rfl) ?_
  refine va_get (D := D) (ci := 0) (v := .int (nI n)) (C := Q_A) (T := F_A) (N := 3) hx hb hg in_A hown hK hP 0 rfl rfl 2 (by decide) (hg _ g_63) (fun _ h9 => h9) rfl d_A_grow_2 ?_
  refine lv_iconst (v := 1) hx hb d_A_grow_5 (by decide) ?_
  refine lv_iadd hx hb d_A_grow_6 ?_
  have hP := hP.sub (ws' := [(la, .inr (0, [.int x1, .ref ea, .int (nI n)])), (ea, .inl (cO, n, .inr (.inr (.inr (.inr f)))))] ++ []) [0, 1] rfl
  have hD := hD.sub (ws' := [(la, .inr (0, [.int x1, .ref ea, .int (nI n)])), (ea, .inl (cO, n, .inr (.inr (.inr (.inr f)))))] ++ []) [0, 1] (by decide) rfl
  refine mcallr (wc := [(la, .inr (0, [.int x1, .ref ea, .int (nI n)])), (ea, .inl (cO, n, .inr (.inr (.inr (.inr f)))))]) (wr := []) (va_runV (As := [.int ((nI n) + 1)]) (rest := []) ⟨hx, hb, hml, hown, hg⟩ (c_A_grow2G_ok l D cI cZ cJ cO s.heap.size e0 mi C hCO els la x1 ea n f h2 h14 hfe) (cwV 1 hg (gv g_406 g_408 g_6 g_21 g_409) rfl rfl rfl (by decide +kernel) ⟨Nat.le_of_ble_eq_true rfl, Nat.le_of_ble_eq_true rfl⟩) ⟨lp_blind, va_recv hK (ba_Pl hP) (ci := 0) (q0 := 0) rfl rfl, fun U hU hW => ⟨rfl, (lPre (els := els) hP hD hK hN hS hA hsP hEl (fun _ h => h)) U hU hW⟩⟩ rfl rfl hl.1 rfl (lv_room (Nat.le_of_ble_eq_true rfl)) d_A_grow_7 ⟨Nat.le_of_ble_eq_true rfl, Nat.le_of_ble_eq_true rfl⟩) hP hD hS hA (fun u_1 r_2 H locs hu_1 hP hD hS => ?_)
  subst hu_1
  have hP : va_P D cls [(la, .inr (0, [.int x1, .ref r_2, .int (nI n)])), (r_2, .inl (cO, (n + n / 2), .inr (.inr (.inr (.inr (va_cpy f (fun _ => none) 0 0 n))))))] H := hP
  have hD : va_D A [(la, .inr (0, [.int x1, .ref r_2, .int (nI n)])), (r_2, .inl (cO, (n + n / 2), .inr (.inr (.inr (.inr (va_cpy f (fun _ => none) 0 0 n))))))] := hD
  refine W.widen (k := 1) (n := 22) (by omega) (by omega) ?_
  exact W.aret hx hb hr (Or.inr ⟨_, rfl⟩) (Or.inr ⟨_, rfl⟩) (fun t9 ht hW => ⟨⟨[(la, .inr (0, [.int x1, .ref r_2, .int (nI n)])), (r_2, .inl (cO, (n + n / 2), .inr (.inr (.inr (.inr (va_cpy f (fun _ => none) 0 0 n))))))], r_2, rfl, trivial, rfl, by rw [ht]; exact hP, va_K.moved hW.alike hK, hD⟩, hS.F ht⟩) hS.2.2 d_A_grow_10

set_option maxHeartbeats 4000000 in
set_option maxRecDepth 100000 in
theorem c_A_add2V_ok (l : Launch) (D : va_G) (cI cZ cJ cO : ClassId) (sz e0 mi : Nat) (C : String) (hCO : Cond.castable C "java/lang/Object" ∈ NWL) (els : Nat → Prop) (la : Nat) (x1 : Int32) (q : Nat) (hq : els q) : Met l y_A_add2 (wq y_A_add2 c_A_add2 4 none) ({ frames := 5, cells := 1, slots := 22, locals := 147 }) (lP D (TY cI cZ cJ cO) [(la, .inr (0, [.int x1, .ref e0, .int 0]))] [.ref la, .ref q, .ref e0, .int 0] sz e0 mi C els) (va_Qv (fun (u : va_W) => ∃ (ea1 cap1 : Nat) (f1 : Nat → Option Nat), u = [(la, .inr (0, [.int x1, .ref ea1, .int (nI (0 + 1))])), (ea1, .inl (cO, cap1, .inr (.inr (.inr (.inr f1)))))] ∧ 0 + 1 ≤ cap1 ∧ cap1 = 10 ∧ (∀ i, i < 0 → f1 i = (fun _ => none) i) ∧ f1 0 = some q) (mB D (TY cI cZ cJ cO) (va_A [(la, .inr (0, [.int x1, .ref e0, .int 0]))] sz)) (va_A [(la, .inr (0, [.int x1, .ref e0, .int 0]))] sz)) 1 22 (va_A [(la, .inr (0, [.int x1, .ref e0, .int 0]))] sz) := by
  refine Met.ofW (cc := c_A_add2) (maxL := 4) (ret := none) (by decide) rfl ?_
  intro p e s m args below meth c s₁ B hml hv
  obtain ⟨rfl, hsz, hP, hK, hD0, hN, hsP, hEl⟩ := hv
  have hx := B.exec
  have hb := B.bytes
  have hr := B.returns
  have hg := gt_h (atoms_spec (ws := (wq y_A_add2 c_A_add2 4 none)) B.pre)
  have hown : s.vm.findClass "java/util/ArrayList" = some m.cls := findClass_of_methodNamed B.named
  have hlocks := B.notSynchronized
  have hMi := hsP.2.2
  subst hsz
  have hD := hD0.self (sz := s.heap.size)
  generalize hAe : va_A [(la, .inr (0, [.int x1, .ref e0, .int 0]))] s.heap.size = A at hD hsP hEl ⊢
  have hA : ∀ q : Nat, s.heap.size ≤ q → A q := fun q h => by rw [← hAe]; exact Or.inr h
  have hS : va_S A s.heap s.heap [] := va_S.rf
  have hl := lv_entry ([.ref la, .ref q, .ref e0, .int 0]) (n := 4) (Nat.le_of_ble_eq_true rfl)
  rw [lg_entry_eq]
  generalize (lg_sl ([.ref la, .ref q, .ref e0, .int 0]) ++ List.replicate (4 - (lg_sl ([.ref la, .ref q, .ref e0, .int 0])).length) Slot.unset).toArray = ls at hl ⊢
  have hl : lv_has ls 4 [(0, .ref la), (1, .ref q), (2, .ref e0), (3, .int 0)] := hl
  refine lv_iload_n hx hb d_A_add2_0 rfl (lv_at hl 3 rfl) ?_
  refine lv_aload_n hx hb d_A_add2_1 rfl (lv_at hl 2 rfl) ?_
  refine va_tlen (v := 0) hx hb hsP.2.1 hS rfl d_A_add2_2 ?_
  refine lv_icmp_ne (tgt := 11) hx hb d_A_add2_3 (by decide) (fun c_3 => ?_) (fun c_3 => ?_)
  · exact absurd c_3 (by decide)
  · refine lv_aload_n hx hb d_A_add2_6 rfl (lv_at hl 0 rfl) ?_
    have hP := hP.sub (ws' := [(la, .inr (0, [.int x1, .ref e0, .int 0]))] ++ []) [0] rfl
    have hD := hD.sub (ws' := [(la, .inr (0, [.int x1, .ref e0, .int 0]))] ++ []) [0] (by decide) rfl
    refine mcallr (wc := [(la, .inr (0, [.int x1, .ref e0, .int 0]))]) (wr := []) (va_runV (As := []) (rest := []) ⟨hx, hb, hml, hown, hg⟩ (c_A_growV_ok l D cI cZ cJ cO s.heap.size e0 mi C hCO els la x1) (cwV 0 hg (gv g_402 g_404 g_5 g_21 g_405) rfl rfl rfl (by decide +kernel) ⟨Nat.le_of_ble_eq_true rfl, Nat.le_of_ble_eq_true rfl⟩) ⟨lp_blind, va_recv hK (ba_Pl hP) (ci := 0) (q0 := 0) rfl rfl, fun U hU hW => ⟨rfl, (lPre (els := els) hP hD hK hN hS hA hsP hEl (fun _ h => h)) U hU hW⟩⟩ rfl rfl hl.1 rfl (lv_room (Nat.le_of_ble_eq_true rfl)) d_A_add2_7 ⟨Nat.le_of_ble_eq_true rfl, Nat.le_of_ble_eq_true rfl⟩) hP hD hS hA (fun u_1 r_2 H locs hu_1 hP hD hS => ?_)
    subst hu_1
    have hP : va_P D cls [(la, .inr (0, [.int x1, .ref r_2, .int 0])), (r_2, .inl (cO, 10, .inr (.inr (.inr (.inr (fun _ => none))))))] H := hP
    have hD : va_D A [(la, .inr (0, [.int x1, .ref r_2, .int 0])), (r_2, .inl (cO, 10, .inr (.inr (.inr (.inr (fun _ => none))))))] := hD
    refine W.widen (k := 1) (n := 22) (by omega) (by omega) ?_
    refine lv_astore_n (lv' := [(2, .ref r_2), (0, .ref la), (1, .ref q), (3, .int 0)]) hx hb d_A_add2_10 rfl hl (by decide) rfl (fun ls hl => ?_)
    refine lv_aload_n hx hb d_A_add2_11 rfl (lv_at hl 0 rfl) ?_
    refine lv_iload_n hx hb d_A_add2_12 rfl (lv_at hl 3 rfl) ?_
    refine lv_aload_n hx hb d_A_add2_13 rfl (lv_at hl 2 rfl) ?_
    refine va_astqM hx hb hK hP hD hS 1 3 rfl rfl (va_any_of hN hCO ((hEl q hq).1.kept (hS.2.1 q (hEl q hq).1.lt (hEl q hq).2))) (by unfold vp_in; decide) d_A_add2_14 (fun H locs hP hD hS => ?_)
    rw [sb_cl0] at hP hD
    have hP : va_P D cls [(la, .inr (0, [.int x1, .ref r_2, .int 0])), (r_2, .inl (cO, 10, .inr (.inr (.inr (.inr (va_up (fun _ => none) 0 (some q)))))))] H := hP
    have hD : va_D A [(la, .inr (0, [.int x1, .ref r_2, .int 0])), (r_2, .inl (cO, 10, .inr (.inr (.inr (.inr (va_up (fun _ => none) 0 (some q)))))))] := hD
    refine lv_aload_n hx hb d_A_add2_15 rfl (lv_at hl 1 rfl) ?_
    refine lv_iload_n hx hb d_A_add2_16 rfl (lv_at hl 3 rfl) ?_
    refine lv_iconst (v := 1) hx hb d_A_add2_17 (by decide) ?_
    refine lv_iadd hx hb d_A_add2_18 ?_
    refine va_put (D := D) (ci := 0) (v := .int (0 + 1)) (ty := .int) (C := Q_A) (T := F_A) (N := 3) hx hb hg in_A tq_A tq_A_ok n_A hown hK hP hD hS 0 rfl rfl 2 (by decide) (hg _ g_63) (fun _ h9 => h9) rfl (by decide +kernel) rfl rfl (Nat.le_of_ble_eq_true rfl) d_A_add2_19 (fun H locs hP hD hS => ?_)
    have hP : va_P D cls [(la, .inr (0, [.int x1, .ref r_2, .int (0 + 1)])), (r_2, .inl (cO, 10, .inr (.inr (.inr (.inr (va_up (fun _ => none) 0 (some q)))))))] H := hP
    have hD : va_D A [(la, .inr (0, [.int x1, .ref r_2, .int (0 + 1)])), (r_2, .inl (cO, 10, .inr (.inr (.inr (.inr (va_up (fun _ => none) 0 (some q)))))))] := hD
    exact W.vret hx hb hr (fun t9 ht hW => ⟨⟨[(la, .inr (0, [.int x1, .ref r_2, .int (0 + 1)])), (r_2, .inl (cO, 10, .inr (.inr (.inr (.inr (va_up (fun _ => none) 0 (some q)))))))], rfl, ⟨r_2, 10, (va_up (fun _ => none) 0 (some q)), rfl, by omega, by omega, fun i hi => absurd hi (Nat.not_lt_zero i), va_up_self _ _ _⟩, by rw [ht]; exact hP, va_K.moved hW.alike hK, hD⟩, hS.F ht⟩) hS.2.2 d_A_add2_22

set_option maxHeartbeats 4000000 in
set_option maxRecDepth 100000 in
theorem c_A_add2N_ok (l : Launch) (D : va_G) (cI cZ cJ cO : ClassId) (sz e0 mi : Nat) (C : String) (hCO : Cond.castable C "java/lang/Object" ∈ NWL) (els : Nat → Prop) (la : Nat) (x1 : Int32) (ea c9 n : Nat) (f : Nat → Option Nat) (hc9 : c9 < n) (hn22 : n ≤ 22) (q : Nat) (hq : els q) : Met l y_A_add2 (wq y_A_add2 c_A_add2 4 none) ({ frames := 5, cells := 1, slots := 22, locals := 147 }) (lP D (TY cI cZ cJ cO) [(la, .inr (0, [.int x1, .ref ea, .int (nI c9)])), (ea, .inl (cO, n, .inr (.inr (.inr (.inr f)))))] [.ref la, .ref q, .ref ea, .int (nI c9)] sz e0 mi C els) (va_Qv (fun (u : va_W) => ∃ (ea1 cap1 : Nat) (f1 : Nat → Option Nat), u = [(la, .inr (0, [.int x1, .ref ea1, .int (nI (c9 + 1))])), (ea1, .inl (cO, cap1, .inr (.inr (.inr (.inr f1)))))] ∧ c9 + 1 ≤ cap1 ∧ cap1 = n ∧ (∀ i, i < c9 → f1 i = f i) ∧ f1 c9 = some q) (mB D (TY cI cZ cJ cO) (va_A [(la, .inr (0, [.int x1, .ref ea, .int (nI c9)])), (ea, .inl (cO, n, .inr (.inr (.inr (.inr f)))))] sz)) (va_A [(la, .inr (0, [.int x1, .ref ea, .int (nI c9)])), (ea, .inl (cO, n, .inr (.inr (.inr (.inr f)))))] sz)) 1 22 (va_A [(la, .inr (0, [.int x1, .ref ea, .int (nI c9)])), (ea, .inl (cO, n, .inr (.inr (.inr (.inr f)))))] sz) := by
  refine Met.ofW (cc := c_A_add2) (maxL := 4) (ret := none) (by decide) rfl ?_
  intro p e s m args below meth c s₁ B hml hv
  obtain ⟨rfl, hsz, hP, hK, hD0, hN, hsP, hEl⟩ := hv
  have hx := B.exec
  have hb := B.bytes
  have hr := B.returns
  have hg := gt_h (atoms_spec (ws := (wq y_A_add2 c_A_add2 4 none)) B.pre)
  have hown : s.vm.findClass "java/util/ArrayList" = some m.cls := findClass_of_methodNamed B.named
  have hlocks := B.notSynchronized
  have hMi := hsP.2.2
  subst hsz
  have hD := hD0.self (sz := s.heap.size)
  generalize hAe : va_A [(la, .inr (0, [.int x1, .ref ea, .int (nI c9)])), (ea, .inl (cO, n, .inr (.inr (.inr (.inr f)))))] s.heap.size = A at hD hsP hEl ⊢
  have hA : ∀ q : Nat, s.heap.size ≤ q → A q := fun q h => by rw [← hAe]; exact Or.inr h
  have hS : va_S A s.heap s.heap [] := va_S.rf
  have hl := lv_entry ([.ref la, .ref q, .ref ea, .int (nI c9)]) (n := 4) (Nat.le_of_ble_eq_true rfl)
  rw [lg_entry_eq]
  generalize (lg_sl ([.ref la, .ref q, .ref ea, .int (nI c9)]) ++ List.replicate (4 - (lg_sl ([.ref la, .ref q, .ref ea, .int (nI c9)])).length) Slot.unset).toArray = ls at hl ⊢
  have hl : lv_has ls 4 [(0, .ref la), (1, .ref q), (2, .ref ea), (3, .int (nI c9))] := hl
  refine lv_iload_n hx hb d_A_add2_0 rfl (lv_at hl 3 rfl) ?_
  refine lv_aload_n hx hb d_A_add2_1 rfl (lv_at hl 2 rfl) ?_
  refine va_alen (v := nI n) hx hb hK hP 1 3 rfl rfl rfl d_A_add2_2 ?_
  refine lv_icmp_ne (tgt := 11) hx hb d_A_add2_3 (by decide) (fun c_3 => ?_) (fun c_3 => ?_)
  · refine lv_aload_n hx hb d_A_add2_11 rfl (lv_at hl 2 rfl) ?_
    refine lv_iload_n hx hb d_A_add2_12 rfl (lv_at hl 3 rfl) ?_
    refine lv_aload_n hx hb d_A_add2_13 rfl (lv_at hl 1 rfl) ?_
    refine va_astqM hx hb hK hP hD hS 1 3 rfl rfl (va_any_of hN hCO ((hEl q hq).1.kept (hS.2.1 q (hEl q hq).1.lt (hEl q hq).2))) (vp_in_nI hc9 (by omega)) d_A_add2_14 (fun H locs hP hD hS => ?_)
    rw [nI_clamp (show c9 < 2 ^ 31 by omega)] at hP hD
    have hP : va_P D cls [(la, .inr (0, [.int x1, .ref ea, .int (nI c9)])), (ea, .inl (cO, n, .inr (.inr (.inr (.inr (va_up f c9 (some q)))))))] H := hP
    have hD : va_D A [(la, .inr (0, [.int x1, .ref ea, .int (nI c9)])), (ea, .inl (cO, n, .inr (.inr (.inr (.inr (va_up f c9 (some q)))))))] := hD
    refine lv_aload_n hx hb d_A_add2_15 rfl (lv_at hl 0 rfl) ?_
    refine lv_iload_n hx hb d_A_add2_16 rfl (lv_at hl 3 rfl) ?_
    refine lv_iconst (v := 1) hx hb d_A_add2_17 (by decide) ?_
    refine lv_iadd hx hb d_A_add2_18 ?_
    refine va_put (D := D) (ci := 0) (v := .int ((nI c9) + 1)) (ty := .int) (C := Q_A) (T := F_A) (N := 3) hx hb hg in_A tq_A tq_A_ok n_A hown hK hP hD hS 0 rfl rfl 2 (by decide) (hg _ g_63) (fun _ h9 => h9) rfl (by decide +kernel) rfl rfl (Nat.le_of_ble_eq_true rfl) d_A_add2_19 (fun H locs hP hD hS => ?_)
    have hP : va_P D cls [(la, .inr (0, [.int x1, .ref ea, .int ((nI c9) + 1)])), (ea, .inl (cO, n, .inr (.inr (.inr (.inr (va_up f c9 (some q)))))))] H := hP
    have hD : va_D A [(la, .inr (0, [.int x1, .ref ea, .int ((nI c9) + 1)])), (ea, .inl (cO, n, .inr (.inr (.inr (.inr (va_up f c9 (some q)))))))] := hD
    refine W.widen (k := 1) (n := 22) (by omega) (by omega) ?_
    exact W.vret hx hb hr (fun t9 ht hW => ⟨⟨[(la, .inr (0, [.int x1, .ref ea, .int ((nI c9) + 1)])), (ea, .inl (cO, n, .inr (.inr (.inr (.inr (va_up f c9 (some q)))))))], rfl, ⟨ea, n, (va_up f c9 (some q)), by rw [← nI_1], by omega, by omega, fun i hi => va_up_ne _ _ (by omega), va_up_self _ _ _⟩, by rw [ht]; exact hP, va_K.moved hW.alike hK, hD⟩, hS.F ht⟩) hS.2.2 d_A_add2_22
  · exact absurd ((nI_eq (by omega) (by omega)).mp c_3) (by omega)

set_option maxHeartbeats 4000000 in
set_option maxRecDepth 100000 in
theorem c_A_add2G_ok (l : Launch) (D : va_G) (cI cZ cJ cO : ClassId) (sz e0 mi : Nat) (C : String) (hCO : Cond.castable C "java/lang/Object" ∈ NWL) (els : Nat → Prop) (la : Nat) (x1 : Int32) (ea n : Nat) (f : Nat → Option Nat) (h2 : 2 ≤ n) (h14 : n ≤ 15) (hfe : ∀ i, i < n → ∀ y, f i = some y → els y) (q : Nat) (hq : els q) : Met l y_A_add2 (wq y_A_add2 c_A_add2 4 none) ({ frames := 5, cells := 1, slots := 22, locals := 147 }) (lP D (TY cI cZ cJ cO) [(la, .inr (0, [.int x1, .ref ea, .int (nI n)])), (ea, .inl (cO, n, .inr (.inr (.inr (.inr f)))))] [.ref la, .ref q, .ref ea, .int (nI n)] sz e0 mi C els) (va_Qv (fun (u : va_W) => ∃ (ea1 cap1 : Nat) (f1 : Nat → Option Nat), u = [(la, .inr (0, [.int x1, .ref ea1, .int (nI (n + 1))])), (ea1, .inl (cO, cap1, .inr (.inr (.inr (.inr f1)))))] ∧ n + 1 ≤ cap1 ∧ cap1 = n + n / 2 ∧ (∀ i, i < n → f1 i = f i) ∧ f1 n = some q) (mB D (TY cI cZ cJ cO) (va_A [(la, .inr (0, [.int x1, .ref ea, .int (nI n)])), (ea, .inl (cO, n, .inr (.inr (.inr (.inr f)))))] sz)) (va_A [(la, .inr (0, [.int x1, .ref ea, .int (nI n)])), (ea, .inl (cO, n, .inr (.inr (.inr (.inr f)))))] sz)) 1 22 (va_A [(la, .inr (0, [.int x1, .ref ea, .int (nI n)])), (ea, .inl (cO, n, .inr (.inr (.inr (.inr f)))))] sz) := by
  refine Met.ofW (cc := c_A_add2) (maxL := 4) (ret := none) (by decide) rfl ?_
  intro p e s m args below meth c s₁ B hml hv
  obtain ⟨rfl, hsz, hP, hK, hD0, hN, hsP, hEl⟩ := hv
  have hx := B.exec
  have hb := B.bytes
  have hr := B.returns
  have hg := gt_h (atoms_spec (ws := (wq y_A_add2 c_A_add2 4 none)) B.pre)
  have hown : s.vm.findClass "java/util/ArrayList" = some m.cls := findClass_of_methodNamed B.named
  have hlocks := B.notSynchronized
  have hMi := hsP.2.2
  subst hsz
  have hD := hD0.self (sz := s.heap.size)
  generalize hAe : va_A [(la, .inr (0, [.int x1, .ref ea, .int (nI n)])), (ea, .inl (cO, n, .inr (.inr (.inr (.inr f)))))] s.heap.size = A at hD hsP hEl ⊢
  have hA : ∀ q : Nat, s.heap.size ≤ q → A q := fun q h => by rw [← hAe]; exact Or.inr h
  have hS : va_S A s.heap s.heap [] := va_S.rf
  have hl := lv_entry ([.ref la, .ref q, .ref ea, .int (nI n)]) (n := 4) (Nat.le_of_ble_eq_true rfl)
  rw [lg_entry_eq]
  generalize (lg_sl ([.ref la, .ref q, .ref ea, .int (nI n)]) ++ List.replicate (4 - (lg_sl ([.ref la, .ref q, .ref ea, .int (nI n)])).length) Slot.unset).toArray = ls at hl ⊢
  have hl : lv_has ls 4 [(0, .ref la), (1, .ref q), (2, .ref ea), (3, .int (nI n))] := hl
  refine lv_iload_n hx hb d_A_add2_0 rfl (lv_at hl 3 rfl) ?_
  refine lv_aload_n hx hb d_A_add2_1 rfl (lv_at hl 2 rfl) ?_
  refine va_alen (v := nI n) hx hb hK hP 1 3 rfl rfl rfl d_A_add2_2 ?_
  refine lv_icmp_ne (tgt := 11) hx hb d_A_add2_3 (by decide) (fun c_3 => ?_) (fun c_3 => ?_)
  · exact absurd rfl c_3
  · refine lv_aload_n hx hb d_A_add2_6 rfl (lv_at hl 0 rfl) ?_
    have hP := hP.sub (ws' := [(la, .inr (0, [.int x1, .ref ea, .int (nI n)])), (ea, .inl (cO, n, .inr (.inr (.inr (.inr f)))))] ++ []) [0, 1] rfl
    have hD := hD.sub (ws' := [(la, .inr (0, [.int x1, .ref ea, .int (nI n)])), (ea, .inl (cO, n, .inr (.inr (.inr (.inr f)))))] ++ []) [0, 1] (by decide) rfl
    refine mcallr (wc := [(la, .inr (0, [.int x1, .ref ea, .int (nI n)])), (ea, .inl (cO, n, .inr (.inr (.inr (.inr f)))))]) (wr := []) (va_runV (As := []) (rest := []) ⟨hx, hb, hml, hown, hg⟩ (c_A_growG_ok l D cI cZ cJ cO s.heap.size e0 mi C hCO els la x1 ea n f h2 h14 hfe) (cwV 0 hg (gv g_402 g_404 g_5 g_21 g_405) rfl rfl rfl (by decide +kernel) ⟨Nat.le_of_ble_eq_true rfl, Nat.le_of_ble_eq_true rfl⟩) ⟨lp_blind, va_recv hK (ba_Pl hP) (ci := 0) (q0 := 0) rfl rfl, fun U hU hW => ⟨rfl, (lPre (els := els) hP hD hK hN hS hA hsP hEl (fun _ h => h)) U hU hW⟩⟩ rfl rfl hl.1 rfl (lv_room (Nat.le_of_ble_eq_true rfl)) d_A_add2_7 ⟨Nat.le_of_ble_eq_true rfl, Nat.le_of_ble_eq_true rfl⟩) hP hD hS hA (fun u_1 r_2 H locs hu_1 hP hD hS => ?_)
    subst hu_1
    have hP : va_P D cls [(la, .inr (0, [.int x1, .ref r_2, .int (nI n)])), (r_2, .inl (cO, (n + n / 2), .inr (.inr (.inr (.inr (va_cpy f (fun _ => none) 0 0 n))))))] H := hP
    have hD : va_D A [(la, .inr (0, [.int x1, .ref r_2, .int (nI n)])), (r_2, .inl (cO, (n + n / 2), .inr (.inr (.inr (.inr (va_cpy f (fun _ => none) 0 0 n))))))] := hD
    refine W.widen (k := 1) (n := 22) (by omega) (by omega) ?_
    refine lv_astore_n (lv' := [(2, .ref r_2), (0, .ref la), (1, .ref q), (3, .int (nI n))]) hx hb d_A_add2_10 rfl hl (by decide) rfl (fun ls hl => ?_)
    refine lv_aload_n hx hb d_A_add2_11 rfl (lv_at hl 0 rfl) ?_
    refine lv_iload_n hx hb d_A_add2_12 rfl (lv_at hl 3 rfl) ?_
    refine lv_aload_n hx hb d_A_add2_13 rfl (lv_at hl 2 rfl) ?_
    refine va_astqM hx hb hK hP hD hS 1 3 rfl rfl (va_any_of hN hCO ((hEl q hq).1.kept (hS.2.1 q (hEl q hq).1.lt (hEl q hq).2))) (vp_in_nI (by omega) (by omega)) d_A_add2_14 (fun H locs hP hD hS => ?_)
    rw [nI_clamp (show n < 2 ^ 31 by omega)] at hP hD
    have hP : va_P D cls [(la, .inr (0, [.int x1, .ref r_2, .int (nI n)])), (r_2, .inl (cO, (n + n / 2), .inr (.inr (.inr (.inr (va_up (va_cpy f (fun _ => none) 0 0 n) n (some q)))))))] H := hP
    have hD : va_D A [(la, .inr (0, [.int x1, .ref r_2, .int (nI n)])), (r_2, .inl (cO, (n + n / 2), .inr (.inr (.inr (.inr (va_up (va_cpy f (fun _ => none) 0 0 n) n (some q)))))))] := hD
    refine lv_aload_n hx hb d_A_add2_15 rfl (lv_at hl 1 rfl) ?_
    refine lv_iload_n hx hb d_A_add2_16 rfl (lv_at hl 3 rfl) ?_
    refine lv_iconst (v := 1) hx hb d_A_add2_17 (by decide) ?_
    refine lv_iadd hx hb d_A_add2_18 ?_
    refine va_put (D := D) (ci := 0) (v := .int ((nI n) + 1)) (ty := .int) (C := Q_A) (T := F_A) (N := 3) hx hb hg in_A tq_A tq_A_ok n_A hown hK hP hD hS 0 rfl rfl 2 (by decide) (hg _ g_63) (fun _ h9 => h9) rfl (by decide +kernel) rfl rfl (Nat.le_of_ble_eq_true rfl) d_A_add2_19 (fun H locs hP hD hS => ?_)
    have hP : va_P D cls [(la, .inr (0, [.int x1, .ref r_2, .int ((nI n) + 1)])), (r_2, .inl (cO, (n + n / 2), .inr (.inr (.inr (.inr (va_up (va_cpy f (fun _ => none) 0 0 n) n (some q)))))))] H := hP
    have hD : va_D A [(la, .inr (0, [.int x1, .ref r_2, .int ((nI n) + 1)])), (r_2, .inl (cO, (n + n / 2), .inr (.inr (.inr (.inr (va_up (va_cpy f (fun _ => none) 0 0 n) n (some q)))))))] := hD
    exact W.vret hx hb hr (fun t9 ht hW => ⟨⟨[(la, .inr (0, [.int x1, .ref r_2, .int ((nI n) + 1)])), (r_2, .inl (cO, (n + n / 2), .inr (.inr (.inr (.inr (va_up (va_cpy f (fun _ => none) 0 0 n) n (some q)))))))], rfl, ⟨r_2, (n + n / 2), (va_up (va_cpy f (fun _ => none) 0 0 n) n (some q)), by rw [← nI_1], by omega, by omega, fun i hi => by rw [va_up_ne _ _ (by omega)]; exact cpy_f hi, va_up_self _ _ _⟩, by rw [ht]; exact hP, va_K.moved hW.alike hK, hD⟩, hS.F ht⟩) hS.2.2 d_A_add2_22

set_option maxHeartbeats 4000000 in
set_option maxRecDepth 100000 in
/-- add, the first -/
theorem c_A_addV_ok (l : Launch) (D : va_G) (cI cZ cJ cO : ClassId) (sz e0 mi : Nat) (C : String) (hCO : Cond.castable C "java/lang/Object" ∈ NWL) (els : Nat → Prop) (la : Nat) (x1 : Int32) (q : Nat) (hq : els q) : Met l y_A_add (wq y_A_add c_A_add 2 (some .boolean)) ({ frames := 6, cells := 1, slots := 22, locals := 170 }) (lP D (TY cI cZ cJ cO) [(la, .inr (0, [.int x1, .ref e0, .int 0]))] [.ref la, .ref q] sz e0 mi C els) (va_Qi (fun (r : Int32) (u : va_W) => r = 1 ∧ ∃ (ea1 cap1 : Nat) (f1 : Nat → Option Nat), u = [(la, .inr (0, [.int (x1 + 1), .ref ea1, .int (nI (0 + 1))])), (ea1, .inl (cO, cap1, .inr (.inr (.inr (.inr f1)))))] ∧ 0 + 1 ≤ cap1 ∧ cap1 = 10 ∧ (∀ i, i < 0 → f1 i = (fun _ => none) i) ∧ f1 0 = some q) (mB D (TY cI cZ cJ cO) (va_A [(la, .inr (0, [.int x1, .ref e0, .int 0]))] sz)) (va_A [(la, .inr (0, [.int x1, .ref e0, .int 0]))] sz)) 1 22 (va_A [(la, .inr (0, [.int x1, .ref e0, .int 0]))] sz) := by
  refine Met.ofW (cc := c_A_add) (maxL := 2) (ret := (some .boolean)) (by decide) rfl ?_
  intro p e s m args below meth c s₁ B hml hv
  obtain ⟨rfl, hsz, hP, hK, hD0, hN, hsP, hEl⟩ := hv
  have hx := B.exec
  have hb := B.bytes
  have hr := B.returns
  have hg := gt_h (atoms_spec (ws := (wq y_A_add c_A_add 2 (some .boolean))) B.pre)
  have hown : s.vm.findClass "java/util/ArrayList" = some m.cls := findClass_of_methodNamed B.named
  have hlocks := B.notSynchronized
  have hMi := hsP.2.2
  subst hsz
  have hD := hD0.self (sz := s.heap.size)
  generalize hAe : va_A [(la, .inr (0, [.int x1, .ref e0, .int 0]))] s.heap.size = A at hD hsP hEl ⊢
  have hA : ∀ q : Nat, s.heap.size ≤ q → A q := fun q h => by rw [← hAe]; exact Or.inr h
  have hS : va_S A s.heap s.heap [] := va_S.rf
  have hl := lv_entry ([.ref la, .ref q]) (n := 2) (Nat.le_of_ble_eq_true rfl)
  rw [lg_entry_eq]
  generalize (lg_sl ([.ref la, .ref q]) ++ List.replicate (2 - (lg_sl ([.ref la, .ref q])).length) Slot.unset).toArray = ls at hl ⊢
  have hl : lv_has ls 2 [(0, .ref la), (1, .ref q)] := hl
  refine lv_aload_n hx hb d_A_add_0 rfl (lv_at hl 0 rfl) ?_
  refine lv_dup hx hb d_A_add_1 rfl ?_
  refine va_get (D := D) (ci := 0) (v := .int x1) (C := Q_A) (T := F_A) (N := 3) hx hb hg in_A hown hK hP 0 rfl rfl 0 (by decide) (hg _ g_65) (fun x9 h9 => u_same (hg _ g_66) x9 h9) rfl d_A_add_2 ?_
  refine lv_iconst (v := 1) hx hb d_A_add_5 (by decide) ?_
  refine lv_iadd hx hb d_A_add_6 ?_
  refine va_put (D := D) (ci := 0) (v := .int (x1 + 1)) (ty := .int) (C := Q_A) (T := F_A) (N := 3) hx hb hg in_A tq_A tq_A_ok n_A hown hK hP hD hS 0 rfl rfl 0 (by decide) (hg _ g_65) (fun x9 h9 => u_same (hg _ g_66) x9 h9) rfl (by decide +kernel) rfl rfl (Nat.le_of_ble_eq_true rfl) d_A_add_7 (fun H locs hP hD hS => ?_)
  have hP : va_P D cls [(la, .inr (0, [.int (x1 + 1), .ref e0, .int 0]))] H := hP
  have hD : va_D A [(la, .inr (0, [.int (x1 + 1), .ref e0, .int 0]))] := hD
  refine lv_aload_n hx hb d_A_add_10 rfl (lv_at hl 0 rfl) ?_
  refine lv_aload_n hx hb d_A_add_11 rfl (lv_at hl 1 rfl) ?_
  refine lv_aload_n hx hb d_A_add_12 rfl (lv_at hl 0 rfl) ?_
  refine va_get (D := D) (ci := 0) (v := .ref e0) (C := Q_A) (T := F_A) (N := 3) hx hb hg in_A hown hK hP 0 rfl rfl 1 (by decide) (hg _ g_62) (fun _ h9 => h9) rfl d_A_add_13 ?_
  refine lv_aload_n hx hb d_A_add_16 rfl (lv_at hl 0 rfl) ?_
  refine va_get (D := D) (ci := 0) (v := .int 0) (C := Q_A) (T := F_A) (N := 3) hx hb hg in_A hown hK hP 0 rfl rfl 2 (by decide) (hg _ g_63) (fun _ h9 => h9) rfl d_A_add_17 ?_
  have hP := hP.sub (ws' := [(la, .inr (0, [.int (x1 + 1), .ref e0, .int 0]))] ++ []) [0] rfl
  have hD := hD.sub (ws' := [(la, .inr (0, [.int (x1 + 1), .ref e0, .int 0]))] ++ []) [0] (by decide) rfl
  refine mcallv (wc := [(la, .inr (0, [.int (x1 + 1), .ref e0, .int 0]))]) (wr := []) (va_runV (As := [.ref q, .ref e0, .int 0]) (rest := []) ⟨hx, hb, hml, hown, hg⟩ (c_A_add2V_ok l D cI cZ cJ cO H.size e0 mi C hCO els la (x1 + 1) q hq) (cwV 3 hg (gv g_398 g_400 g_4 g_21 g_401) rfl rfl rfl (by decide +kernel) ⟨Nat.le_of_ble_eq_true rfl, Nat.le_of_ble_eq_true rfl⟩) ⟨lp_blind, va_recv hK (ba_Pl hP) (ci := 0) (q0 := 0) rfl rfl, fun U hU hW => ⟨rfl, (lPre (els := els) hP hD hK hN hS hA hsP hEl (fun _ h => h)) U hU hW⟩⟩ rfl rfl hl.1 rfl (lv_room (Nat.le_of_ble_eq_true rfl)) d_A_add_20 ⟨Nat.le_of_ble_eq_true rfl, Nat.le_of_ble_eq_true rfl⟩) hP hD hS hA (fun u_1 H locs hu_1 hP hD hS => ?_)
  obtain ⟨ea1, cap1, f1, rfl, hcp1, hcp2, hf1, hf2⟩ := hu_1
  have hP : va_P D cls [(la, .inr (0, [.int (x1 + 1), .ref ea1, .int (nI (0 + 1))])), (ea1, .inl (cO, cap1, .inr (.inr (.inr (.inr f1)))))] H := hP
  have hD : va_D A [(la, .inr (0, [.int (x1 + 1), .ref ea1, .int (nI (0 + 1))])), (ea1, .inl (cO, cap1, .inr (.inr (.inr (.inr f1)))))] := hD
  refine W.widen (k := 1) (n := 22) (by omega) (by omega) ?_
  refine lv_iconst (v := 1) hx hb d_A_add_23 (by decide) ?_
  exact W.zret hx hb hr (by decide) (fun t9 ht hW => ⟨⟨_, [(la, .inr (0, [.int (x1 + 1), .ref ea1, .int (nI (0 + 1))])), (ea1, .inl (cO, cap1, .inr (.inr (.inr (.inr f1)))))], rfl, ⟨rfl, ea1, cap1, f1, rfl, hcp1, hcp2, hf1, hf2⟩, by rw [ht]; exact hP, va_K.moved hW.alike hK, hD⟩, hS.F ht⟩) hS.2.2 d_A_add_24

set_option maxHeartbeats 4000000 in
set_option maxRecDepth 100000 in
/-- add, room is there -/
theorem c_A_addN_ok (l : Launch) (D : va_G) (cI cZ cJ cO : ClassId) (sz e0 mi : Nat) (C : String) (hCO : Cond.castable C "java/lang/Object" ∈ NWL) (els : Nat → Prop) (la : Nat) (x1 : Int32) (ea c9 n : Nat) (f : Nat → Option Nat) (hc9 : c9 < n) (hn22 : n ≤ 22) (q : Nat) (hq : els q) : Met l y_A_add (wq y_A_add c_A_add 2 (some .boolean)) ({ frames := 6, cells := 1, slots := 22, locals := 170 }) (lP D (TY cI cZ cJ cO) [(la, .inr (0, [.int x1, .ref ea, .int (nI c9)])), (ea, .inl (cO, n, .inr (.inr (.inr (.inr f)))))] [.ref la, .ref q] sz e0 mi C els) (va_Qi (fun (r : Int32) (u : va_W) => r = 1 ∧ ∃ (ea1 cap1 : Nat) (f1 : Nat → Option Nat), u = [(la, .inr (0, [.int (x1 + 1), .ref ea1, .int (nI (c9 + 1))])), (ea1, .inl (cO, cap1, .inr (.inr (.inr (.inr f1)))))] ∧ c9 + 1 ≤ cap1 ∧ cap1 = n ∧ (∀ i, i < c9 → f1 i = f i) ∧ f1 c9 = some q) (mB D (TY cI cZ cJ cO) (va_A [(la, .inr (0, [.int x1, .ref ea, .int (nI c9)])), (ea, .inl (cO, n, .inr (.inr (.inr (.inr f)))))] sz)) (va_A [(la, .inr (0, [.int x1, .ref ea, .int (nI c9)])), (ea, .inl (cO, n, .inr (.inr (.inr (.inr f)))))] sz)) 1 22 (va_A [(la, .inr (0, [.int x1, .ref ea, .int (nI c9)])), (ea, .inl (cO, n, .inr (.inr (.inr (.inr f)))))] sz) := by
  refine Met.ofW (cc := c_A_add) (maxL := 2) (ret := (some .boolean)) (by decide) rfl ?_
  intro p e s m args below meth c s₁ B hml hv
  obtain ⟨rfl, hsz, hP, hK, hD0, hN, hsP, hEl⟩ := hv
  have hx := B.exec
  have hb := B.bytes
  have hr := B.returns
  have hg := gt_h (atoms_spec (ws := (wq y_A_add c_A_add 2 (some .boolean))) B.pre)
  have hown : s.vm.findClass "java/util/ArrayList" = some m.cls := findClass_of_methodNamed B.named
  have hlocks := B.notSynchronized
  have hMi := hsP.2.2
  subst hsz
  have hD := hD0.self (sz := s.heap.size)
  generalize hAe : va_A [(la, .inr (0, [.int x1, .ref ea, .int (nI c9)])), (ea, .inl (cO, n, .inr (.inr (.inr (.inr f)))))] s.heap.size = A at hD hsP hEl ⊢
  have hA : ∀ q : Nat, s.heap.size ≤ q → A q := fun q h => by rw [← hAe]; exact Or.inr h
  have hS : va_S A s.heap s.heap [] := va_S.rf
  have hl := lv_entry ([.ref la, .ref q]) (n := 2) (Nat.le_of_ble_eq_true rfl)
  rw [lg_entry_eq]
  generalize (lg_sl ([.ref la, .ref q]) ++ List.replicate (2 - (lg_sl ([.ref la, .ref q])).length) Slot.unset).toArray = ls at hl ⊢
  have hl : lv_has ls 2 [(0, .ref la), (1, .ref q)] := hl
  refine lv_aload_n hx hb d_A_add_0 rfl (lv_at hl 0 rfl) ?_
  refine lv_dup hx hb d_A_add_1 rfl ?_
  refine va_get (D := D) (ci := 0) (v := .int x1) (C := Q_A) (T := F_A) (N := 3) hx hb hg in_A hown hK hP 0 rfl rfl 0 (by decide) (hg _ g_65) (fun x9 h9 => u_same (hg _ g_66) x9 h9) rfl d_A_add_2 ?_
  refine lv_iconst (v := 1) hx hb d_A_add_5 (by decide) ?_
  refine lv_iadd hx hb d_A_add_6 ?_
  refine va_put (D := D) (ci := 0) (v := .int (x1 + 1)) (ty := .int) (C := Q_A) (T := F_A) (N := 3) hx hb hg in_A tq_A tq_A_ok n_A hown hK hP hD hS 0 rfl rfl 0 (by decide) (hg _ g_65) (fun x9 h9 => u_same (hg _ g_66) x9 h9) rfl (by decide +kernel) rfl rfl (Nat.le_of_ble_eq_true rfl) d_A_add_7 (fun H locs hP hD hS => ?_)
  have hP : va_P D cls [(la, .inr (0, [.int (x1 + 1), .ref ea, .int (nI c9)])), (ea, .inl (cO, n, .inr (.inr (.inr (.inr f)))))] H := hP
  have hD : va_D A [(la, .inr (0, [.int (x1 + 1), .ref ea, .int (nI c9)])), (ea, .inl (cO, n, .inr (.inr (.inr (.inr f)))))] := hD
  refine lv_aload_n hx hb d_A_add_10 rfl (lv_at hl 0 rfl) ?_
  refine lv_aload_n hx hb d_A_add_11 rfl (lv_at hl 1 rfl) ?_
  refine lv_aload_n hx hb d_A_add_12 rfl (lv_at hl 0 rfl) ?_
  refine va_get (D := D) (ci := 0) (v := .ref ea) (C := Q_A) (T := F_A) (N := 3) hx hb hg in_A hown hK hP 0 rfl rfl 1 (by decide) (hg _ g_62) (fun _ h9 => h9) rfl d_A_add_13 ?_
  refine lv_aload_n hx hb d_A_add_16 rfl (lv_at hl 0 rfl) ?_
  refine va_get (D := D) (ci := 0) (v := .int (nI c9)) (C := Q_A) (T := F_A) (N := 3) hx hb hg in_A hown hK hP 0 rfl rfl 2 (by decide) (hg _ g_63) (fun _ h9 => h9) rfl d_A_add_17 ?_
  have hP := hP.sub (ws' := [(la, .inr (0, [.int (x1 + 1), .ref ea, .int (nI c9)])), (ea, .inl (cO, n, .inr (.inr (.inr (.inr f)))))] ++ []) [0, 1] rfl
  have hD := hD.sub (ws' := [(la, .inr (0, [.int (x1 + 1), .ref ea, .int (nI c9)])), (ea, .inl (cO, n, .inr (.inr (.inr (.inr f)))))] ++ []) [0, 1] (by decide) rfl
  refine mcallv (wc := [(la, .inr (0, [.int (x1 + 1), .ref ea, .int (nI c9)])), (ea, .inl (cO, n, .inr (.inr (.inr (.inr f)))))]) (wr := []) (va_runV (As := [.ref q, .ref ea, .int (nI c9)]) (rest := []) ⟨hx, hb, hml, hown, hg⟩ (c_A_add2N_ok l D cI cZ cJ cO H.size e0 mi C hCO els la (x1 + 1) ea c9 n f hc9 hn22 q hq) (cwV 3 hg (gv g_398 g_400 g_4 g_21 g_401) rfl rfl rfl (by decide +kernel) ⟨Nat.le_of_ble_eq_true rfl, Nat.le_of_ble_eq_true rfl⟩) ⟨lp_blind, va_recv hK (ba_Pl hP) (ci := 0) (q0 := 0) rfl rfl, fun U hU hW => ⟨rfl, (lPre (els := els) hP hD hK hN hS hA hsP hEl (fun _ h => h)) U hU hW⟩⟩ rfl rfl hl.1 rfl (lv_room (Nat.le_of_ble_eq_true rfl)) d_A_add_20 ⟨Nat.le_of_ble_eq_true rfl, Nat.le_of_ble_eq_true rfl⟩) hP hD hS hA (fun u_1 H locs hu_1 hP hD hS => ?_)
  obtain ⟨ea1, cap1, f1, rfl, hcp1, hcp2, hf1, hf2⟩ := hu_1
  have hP : va_P D cls [(la, .inr (0, [.int (x1 + 1), .ref ea1, .int (nI (c9 + 1))])), (ea1, .inl (cO, cap1, .inr (.inr (.inr (.inr f1)))))] H := hP
  have hD : va_D A [(la, .inr (0, [.int (x1 + 1), .ref ea1, .int (nI (c9 + 1))])), (ea1, .inl (cO, cap1, .inr (.inr (.inr (.inr f1)))))] := hD
  refine W.widen (k := 1) (n := 22) (by omega) (by omega) ?_
  refine lv_iconst (v := 1) hx hb d_A_add_23 (by decide) ?_
  exact W.zret hx hb hr (by decide) (fun t9 ht hW => ⟨⟨_, [(la, .inr (0, [.int (x1 + 1), .ref ea1, .int (nI (c9 + 1))])), (ea1, .inl (cO, cap1, .inr (.inr (.inr (.inr f1)))))], rfl, ⟨rfl, ea1, cap1, f1, rfl, hcp1, hcp2, hf1, hf2⟩, by rw [ht]; exact hP, va_K.moved hW.alike hK, hD⟩, hS.F ht⟩) hS.2.2 d_A_add_24

set_option maxHeartbeats 4000000 in
set_option maxRecDepth 100000 in
/-- add, the list is full -/
theorem c_A_addG_ok (l : Launch) (D : va_G) (cI cZ cJ cO : ClassId) (sz e0 mi : Nat) (C : String) (hCO : Cond.castable C "java/lang/Object" ∈ NWL) (els : Nat → Prop) (la : Nat) (x1 : Int32) (ea n : Nat) (f : Nat → Option Nat) (h2 : 2 ≤ n) (h14 : n ≤ 15) (hfe : ∀ i, i < n → ∀ y, f i = some y → els y) (q : Nat) (hq : els q) : Met l y_A_add (wq y_A_add c_A_add 2 (some .boolean)) ({ frames := 6, cells := 1, slots := 22, locals := 170 }) (lP D (TY cI cZ cJ cO) [(la, .inr (0, [.int x1, .ref ea, .int (nI n)])), (ea, .inl (cO, n, .inr (.inr (.inr (.inr f)))))] [.ref la, .ref q] sz e0 mi C els) (va_Qi (fun (r : Int32) (u : va_W) => r = 1 ∧ ∃ (ea1 cap1 : Nat) (f1 : Nat → Option Nat), u = [(la, .inr (0, [.int (x1 + 1), .ref ea1, .int (nI (n + 1))])), (ea1, .inl (cO, cap1, .inr (.inr (.inr (.inr f1)))))] ∧ n + 1 ≤ cap1 ∧ cap1 = n + n / 2 ∧ (∀ i, i < n → f1 i = f i) ∧ f1 n = some q) (mB D (TY cI cZ cJ cO) (va_A [(la, .inr (0, [.int x1, .ref ea, .int (nI n)])), (ea, .inl (cO, n, .inr (.inr (.inr (.inr f)))))] sz)) (va_A [(la, .inr (0, [.int x1, .ref ea, .int (nI n)])), (ea, .inl (cO, n, .inr (.inr (.inr (.inr f)))))] sz)) 1 22 (va_A [(la, .inr (0, [.int x1, .ref ea, .int (nI n)])), (ea, .inl (cO, n, .inr (.inr (.inr (.inr f)))))] sz) := by
  refine Met.ofW (cc := c_A_add) (maxL := 2) (ret := (some .boolean)) (by decide) rfl ?_
  intro p e s m args below meth c s₁ B hml hv
  obtain ⟨rfl, hsz, hP, hK, hD0, hN, hsP, hEl⟩ := hv
  have hx := B.exec
  have hb := B.bytes
  have hr := B.returns
  have hg := gt_h (atoms_spec (ws := (wq y_A_add c_A_add 2 (some .boolean))) B.pre)
  have hown : s.vm.findClass "java/util/ArrayList" = some m.cls := findClass_of_methodNamed B.named
  have hlocks := B.notSynchronized
  have hMi := hsP.2.2
  subst hsz
  have hD := hD0.self (sz := s.heap.size)
  generalize hAe : va_A [(la, .inr (0, [.int x1, .ref ea, .int (nI n)])), (ea, .inl (cO, n, .inr (.inr (.inr (.inr f)))))] s.heap.size = A at hD hsP hEl ⊢
  have hA : ∀ q : Nat, s.heap.size ≤ q → A q := fun q h => by rw [← hAe]; exact Or.inr h
  have hS : va_S A s.heap s.heap [] := va_S.rf
  have hl := lv_entry ([.ref la, .ref q]) (n := 2) (Nat.le_of_ble_eq_true rfl)
  rw [lg_entry_eq]
  generalize (lg_sl ([.ref la, .ref q]) ++ List.replicate (2 - (lg_sl ([.ref la, .ref q])).length) Slot.unset).toArray = ls at hl ⊢
  have hl : lv_has ls 2 [(0, .ref la), (1, .ref q)] := hl
  refine lv_aload_n hx hb d_A_add_0 rfl (lv_at hl 0 rfl) ?_
  refine lv_dup hx hb d_A_add_1 rfl ?_
  refine va_get (D := D) (ci := 0) (v := .int x1) (C := Q_A) (T := F_A) (N := 3) hx hb hg in_A hown hK hP 0 rfl rfl 0 (by decide) (hg _ g_65) (fun x9 h9 => u_same (hg _ g_66) x9 h9) rfl d_A_add_2 ?_
  refine lv_iconst (v := 1) hx hb d_A_add_5 (by decide) ?_
  refine lv_iadd hx hb d_A_add_6 ?_
  refine va_put (D := D) (ci := 0) (v := .int (x1 + 1)) (ty := .int) (C := Q_A) (T := F_A) (N := 3) hx hb hg in_A tq_A tq_A_ok n_A hown hK hP hD hS 0 rfl rfl 0 (by decide) (hg _ g_65) (fun x9 h9 => u_same (hg _ g_66) x9 h9) rfl (by decide +kernel) rfl rfl (Nat.le_of_ble_eq_true rfl) d_A_add_7 (fun H locs hP hD hS => ?_)
  have hP : va_P D cls [(la, .inr (0, [.int (x1 + 1), .ref ea, .int (nI n)])), (ea, .inl (cO, n, .inr (.inr (.inr (.inr f)))))] H := hP
  have hD : va_D A [(la, .inr (0, [.int (x1 + 1), .ref ea, .int (nI n)])), (ea, .inl (cO, n, .inr (.inr (.inr (.inr f)))))] := hD
  refine lv_aload_n hx hb d_A_add_10 rfl (lv_at hl 0 rfl) ?_
  refine lv_aload_n hx hb d_A_add_11 rfl (lv_at hl 1 rfl) ?_
  refine lv_aload_n hx hb d_A_add_12 rfl (lv_at hl 0 rfl) ?_
  refine va_get (D := D) (ci := 0) (v := .ref ea) (C := Q_A) (T := F_A) (N := 3) hx hb hg in_A hown hK hP 0 rfl rfl 1 (by decide) (hg _ g_62) (fun _ h9 => h9) rfl d_A_add_13 ?_
  refine lv_aload_n hx hb d_A_add_16 rfl (lv_at hl 0 rfl) ?_
  refine va_get (D := D) (ci := 0) (v := .int (nI n)) (C := Q_A) (T := F_A) (N := 3) hx hb hg in_A hown hK hP 0 rfl rfl 2 (by decide) (hg _ g_63) (fun _ h9 => h9) rfl d_A_add_17 ?_
  have hP := hP.sub (ws' := [(la, .inr (0, [.int (x1 + 1), .ref ea, .int (nI n)])), (ea, .inl (cO, n, .inr (.inr (.inr (.inr f)))))] ++ []) [0, 1] rfl
  have hD := hD.sub (ws' := [(la, .inr (0, [.int (x1 + 1), .ref ea, .int (nI n)])), (ea, .inl (cO, n, .inr (.inr (.inr (.inr f)))))] ++ []) [0, 1] (by decide) rfl
  refine mcallv (wc := [(la, .inr (0, [.int (x1 + 1), .ref ea, .int (nI n)])), (ea, .inl (cO, n, .inr (.inr (.inr (.inr f)))))]) (wr := []) (va_runV (As := [.ref q, .ref ea, .int (nI n)]) (rest := []) ⟨hx, hb, hml, hown, hg⟩ (c_A_add2G_ok l D cI cZ cJ cO H.size e0 mi C hCO els la (x1 + 1) ea n f h2 h14 hfe q hq) (cwV 3 hg (gv g_398 g_400 g_4 g_21 g_401) rfl rfl rfl (by decide +kernel) ⟨Nat.le_of_ble_eq_true rfl, Nat.le_of_ble_eq_true rfl⟩) ⟨lp_blind, va_recv hK (ba_Pl hP) (ci := 0) (q0 := 0) rfl rfl, fun U hU hW => ⟨rfl, (lPre (els := els) hP hD hK hN hS hA hsP hEl (fun _ h => h)) U hU hW⟩⟩ rfl rfl hl.1 rfl (lv_room (Nat.le_of_ble_eq_true rfl)) d_A_add_20 ⟨Nat.le_of_ble_eq_true rfl, Nat.le_of_ble_eq_true rfl⟩) hP hD hS hA (fun u_1 H locs hu_1 hP hD hS => ?_)
  obtain ⟨ea1, cap1, f1, rfl, hcp1, hcp2, hf1, hf2⟩ := hu_1
  have hP : va_P D cls [(la, .inr (0, [.int (x1 + 1), .ref ea1, .int (nI (n + 1))])), (ea1, .inl (cO, cap1, .inr (.inr (.inr (.inr f1)))))] H := hP
  have hD : va_D A [(la, .inr (0, [.int (x1 + 1), .ref ea1, .int (nI (n + 1))])), (ea1, .inl (cO, cap1, .inr (.inr (.inr (.inr f1)))))] := hD
  refine W.widen (k := 1) (n := 22) (by omega) (by omega) ?_
  refine lv_iconst (v := 1) hx hb d_A_add_23 (by decide) ?_
  exact W.zret hx hb hr (by decide) (fun t9 ht hW => ⟨⟨_, [(la, .inr (0, [.int (x1 + 1), .ref ea1, .int (nI (n + 1))])), (ea1, .inl (cO, cap1, .inr (.inr (.inr (.inr f1)))))], rfl, ⟨rfl, ea1, cap1, f1, rfl, hcp1, hcp2, hf1, hf2⟩, by rw [ht]; exact hP, va_K.moved hW.alike hK, hD⟩, hS.F ht⟩) hS.2.2 d_A_add_24
