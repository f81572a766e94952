
/-- shape -/
def cSha (s : Int32) (ns : Nat) : Int32 := if iw s 2 16 then (if nI ns = 8 then 2 else 0) else 1
theorem ch_1 {s : Int32} {ns : Nat} (h : bI (iw s 2 16) = 0) : cSha s ns = 1 := by rw [cSha, bI_eq0 h]; rfl
theorem ch_2 {s : Int32} {ns : Nat} (h : ¬ bI (iw s 2 16) = 0) (h1 : nI ns = 8) : cSha s ns = 2 := by rw [cSha, bI_ne0 h, if_pos h1]; rfl
theorem ch_0 {s : Int32} {ns : Nat} (h : ¬ bI (iw s 2 16) = 0) (h1 : ¬ nI ns = 8) : cSha s ns = 0 := by rw [cSha, bI_ne0 h, if_neg h1]; rfl
def crL (cr : Nat → Int32) (ns : Nat) : Nat → Nat → Int32
  | 0 => cr
  | j + 1 => upd (crL cr ns j) (16 * ns + j) 128
theorem s16 {ns j : Nat} (h : ns < 2 ^ 20) : (16 : Int32) * nI ns + nI j = nI (16 * ns + j) := by rw [show (16 : Int32) = nI 16 from rfl, pk_mul, nI_add]
theorem v128 {ns j : Nat} (h : ns < 8) (hj : j < 16) : vp_in ((16 : Int32) * nI ns + nI j) 128 := by rw [s16 (by omega)]; exact vp_in_nI (by omega) (by decide)
theorem c128 {ns j : Nat} (h : ns < 8) (hj : j < 16) : ((16 : Int32) * nI ns + nI j).toNatClampNeg = 16 * ns + j := by rw [s16 (by omega)]; exact nI_clamp (by omega)
theorem ns8 {ns : Nat} (h : ns ≤ 8) (h1 : ¬ nI ns = 8) : ns < 8 := by
  rcases Nat.lt_or_ge ns 8 with q | q
  · exact q
  · exact absurd (by rw [show ns = 8 by omega]; rfl) h1
theorem nn16 {nn : Nat} (h : nn ≤ 16) (h1 : ¬ nI nn = 16) : nn < 16 := by
  rcases Nat.lt_or_ge nn 16 with q | q
  · exact q
  · exact absurd (by rw [show nn = 16 by omega]; rfl) h1
theorem i16 {j : Nat} (hj : j ≤ 16) (c : ¬ (16 : Int32) ≤ nI j) : j < 16 := by
  rcases Nat.lt_or_ge j 16 with q | q
  · exact q
  · exact absurd (show nI 16 ≤ nI j from nI_le q (by omega)) c
theorem o16 {j : Nat} (hj : j ≤ 16) (c : (16 : Int32) ≤ nI j) : j = 16 := by
  have := (nI_leI (a := 16) (b := j) (by omega) (by omega)).mp c
  omega
theorem nI_1m (j : Nat) : nI j + 1 - 1 = nI j := by rw [nI_1]; exact nI_pred j
/-- carve -/
def cCar (s k v : Int32) (ns : Nat) (sl : Nat → Int32) : Int32 := if iw s 0 (nI ns - 1) then (if iw k 0 (sl s.toNatClampNeg - 1) then (if iw v 0 255 then 0 else 2) else 1) else 1
theorem cc_1 {s k v : Int32} {ns : Nat} {sl : Nat → Int32} (h : bI (iw s 0 (nI ns - 1)) = 0) : cCar s k v ns sl = 1 := by rw [cCar, bI_eq0 h]; rfl
theorem cc_2 {s k v : Int32} {ns : Nat} {sl : Nat → Int32} (h1 : bI (iw k 0 (sl s.toNatClampNeg - 1)) = 0) : cCar s k v ns sl = 1 := by rw [cCar, bI_eq0 h1]; cases iw s 0 (nI ns - 1) <;> rfl
theorem cc_3 {s k v : Int32} {ns : Nat} {sl : Nat → Int32} (h : ¬ bI (iw s 0 (nI ns - 1)) = 0) (h1 : ¬ bI (iw k 0 (sl s.toNatClampNeg - 1)) = 0) (h2 : bI (iw v 0 255) = 0) : cCar s k v ns sl = 2 := by rw [cCar, bI_ne0 h, bI_ne0 h1, bI_eq0 h2]; rfl
theorem cc_0 {s k v : Int32} {ns : Nat} {sl : Nat → Int32} (h : ¬ bI (iw s 0 (nI ns - 1)) = 0) (h1 : ¬ bI (iw k 0 (sl s.toNatClampNeg - 1)) = 0) (h2 : ¬ bI (iw v 0 255) = 0) : cCar s k v ns sl = 0 := by rw [cCar, bI_ne0 h, bI_ne0 h1, bI_ne0 h2]; rfl
def crC (cr : Nat → Int32) (s k v : Int32) (ns : Nat) (sl : Nat → Int32) : Nat → Int32 := if cCar s k v ns sl = 0 then upd cr (16 * s.toNatClampNeg + k.toNatClampNeg) v else cr
theorem nm_ti {m : Nat} (h : m ≤ 64) : (nI m - 1).toInt = (m : Int) - 1 := sub_ti (a := m) (b := 1) (by omega) (by omega)
theorem iwN {m : Nat} {s : Int32} (hm : m ≤ 64) (h : ¬ bI (iw s 0 (nI m - 1)) = 0) : ∃ S : Nat, S < m ∧ s = nI S := by
  have h := bI_ne0 h
  simp only [iw, Bool.and_eq_true, decide_eq_true_eq, nm_ti hm, i0] at h
  exact ⟨s.toInt.toNat, by omega, nat_of (by omega)⟩
theorem iwL {k x : Int32} (hx : 2 ≤ x.toInt ∧ x.toInt ≤ 16) (h : ¬ bI (iw k 0 (x - 1)) = 0) : ∃ K : Nat, K < 16 ∧ (K : Int) < x.toInt ∧ k = nI K := by
  have h := bI_ne0 h
  have e : (x - 1).toInt = x.toInt - 1 := by rw [Int32.toInt_sub, i1, Int.bmod_eq_of_le (by omega) (by omega)]
  simp only [iw, Bool.and_eq_true, decide_eq_true_eq, e, i0] at h
  exact ⟨k.toInt.toNat, by omega, by omega, nat_of (by omega)⟩
/-- kind -/
def cKin (k : Int32) (nn : Nat) : Int32 := if iw k 0 1000 then (if nI nn = 16 then 2 else 0) else 1
theorem ck_1 {k : Int32} {nn : Nat} (h : bI (iw k 0 1000) = 0) : cKin k nn = 1 := by rw [cKin, bI_eq0 h]; rfl
theorem ck_2 {k : Int32} {nn : Nat} (h : ¬ bI (iw k 0 1000) = 0) (h1 : nI nn = 16) : cKin k nn = 2 := by rw [cKin, bI_ne0 h, if_pos h1]; rfl
theorem ck_0 {k : Int32} {nn : Nat} (h : ¬ bI (iw k 0 1000) = 0) (h1 : ¬ nI nn = 16) : cKin k nn = 0 := by rw [cKin, bI_ne0 h, if_neg h1]; rfl
/-- question -/
def cQue (q a b : Int32) (nn : Nat) : Int32 := if iw a 0 (nI nn - 1) then (if iw b 0 (nI nn - 1) then (if iw q 0 15 then (if nI nn = 16 then 3 else 0) else 2) else 1) else 1
theorem cq_1 {q a b : Int32} {nn : Nat} (h : bI (iw a 0 (nI nn - 1)) = 0) : cQue q a b nn = 1 := by rw [cQue, bI_eq0 h]; rfl
theorem cq_2 {q a b : Int32} {nn : Nat} (h : bI (iw b 0 (nI nn - 1)) = 0) : cQue q a b nn = 1 := by rw [cQue, bI_eq0 h]; cases iw a 0 (nI nn - 1) <;> rfl
theorem cq_3 {q a b : Int32} {nn : Nat} (h : ¬ bI (iw a 0 (nI nn - 1)) = 0) (h1 : ¬ bI (iw b 0 (nI nn - 1)) = 0) (h2 : bI (iw q 0 15) = 0) : cQue q a b nn = 2 := by rw [cQue, bI_ne0 h, bI_ne0 h1, bI_eq0 h2]; rfl
theorem cq_4 {q a b : Int32} {nn : Nat} (h : ¬ bI (iw a 0 (nI nn - 1)) = 0) (h1 : ¬ bI (iw b 0 (nI nn - 1)) = 0) (h2 : ¬ bI (iw q 0 15) = 0) (h3 : nI nn = 16) : cQue q a b nn = 3 := by rw [cQue, bI_ne0 h, bI_ne0 h1, bI_ne0 h2, if_pos h3]; rfl
theorem cq_0 {q a b : Int32} {nn : Nat} (h : ¬ bI (iw a 0 (nI nn - 1)) = 0) (h1 : ¬ bI (iw b 0 (nI nn - 1)) = 0) (h2 : ¬ bI (iw q 0 15) = 0) (h3 : ¬ nI nn = 16) : cQue q a b nn = 0 := by rw [cQue, bI_ne0 h, bI_ne0 h1, bI_ne0 h2, if_neg h3]; rfl
theorem v16 {m : Nat} (h : m < 16) : vp_in (nI m) 16 := vp_in_nI h (by decide)
theorem v8 {m : Nat} (h : m < 8) : vp_in (nI m) 8 := vp_in_nI h (by decide)
/-- ask -/
def cAsk (b k : Int32) (nn : Nat) : Int32 := if iw b 0 65535 then (if iw k 0 65535 then (if nI nn = 0 then 2 else 0) else 1) else 1
theorem ca_1 {b k : Int32} {nn : Nat} (h : bI (iw b 0 65535) = 0) : cAsk b k nn = 1 := by rw [cAsk, bI_eq0 h]; rfl
theorem ca_2 {b k : Int32} {nn : Nat} (h : bI (iw k 0 65535) = 0) : cAsk b k nn = 1 := by rw [cAsk, bI_eq0 h]; cases iw b 0 65535 <;> rfl
theorem ca_3 {b k : Int32} {nn : Nat} (h : ¬ bI (iw b 0 65535) = 0) (h1 : ¬ bI (iw k 0 65535) = 0) (h2 : nI nn = 0) : cAsk b k nn = 2 := by rw [cAsk, bI_ne0 h, bI_ne0 h1, if_pos h2]; rfl
theorem ca_0 {b k : Int32} {nn : Nat} (h : ¬ bI (iw b 0 65535) = 0) (h1 : ¬ bI (iw k 0 65535) = 0) (h2 : ¬ nI nn = 0) : cAsk b k nn = 0 := by rw [cAsk, bI_ne0 h, bI_ne0 h1, if_neg h2]; rfl
/-- ASKED from the node a on -/
def qa (ak no ye : Nat → Int32) (b k : Int32) : Nat → Nat → Int32
  | 0, _ => 0
  | f + 1, a => if 0 ≤ ak a then ak a else if (k >>> ((-1 - ak a) &&& 31)) &&& 1 = 0 then -2 - (-1 - ak a) else qa ak no ye b k f (if (b >>> ((-1 - ak a) &&& 31)) &&& 1 = 1 then ye a else no a).toNatClampNeg
/-- the nodes of the reference are well made -/
def nOK (nn : Nat) (ak no ye : Nat → Int32) : Prop := ∀ i, i < nn → ¬ 0 ≤ ak i → (∃ x, x < i ∧ no i = nI x) ∧ (∃ x, x < i ∧ ye i = nI x)
theorem nn0 {nn : Nat} (h : nn ≤ 16) (h1 : ¬ nI nn = 0) : 1 ≤ nn := by
  rcases Nat.lt_or_ge nn 1 with q | q
  · exact absurd (by rw [show nn = 0 by omega]; rfl) h1
  · exact q
theorem nnm {nn : Nat} (h : 1 ≤ nn) : nI nn - 1 = nI (nn - 1) := by
  have := nI_pred (nn - 1)
  rw [Nat.sub_add_cancel h] at this; exact this

set_option maxHeartbeats 4000000 in
set_option maxRecDepth 100000 in
/-- the reference: shape(s) -/
theorem c_T_shape_ok (l : Launch) (D : va_G) (cI cZ cJ cO : ClassId) (sz : Nat) (o dT gT la ca aa na ya ta : Nat) (n ns nn nr : Nat) (d g sl cr ak no ye tl : Nat → Int32) (th be bp bm : Int32) (bo : Int64) (h4 : 4 ≤ n) (h64 : n ≤ 64) (hd : dOK n d) (s9 : Int32) (hns : ns ≤ 8) : Met l y_T_shape (wq y_T_shape c_T_shape 3 (some .int)) ({ frames := 1, cells := 0, slots := 0, locals := 25 }) (mP D (TY cI cZ cJ cO) [(o, .inr (7, [.int th, .int (nI n), .ref dT, .ref gT, .int (nI ns), .ref la, .ref ca, .int (nI nn), .ref aa, .ref na, .ref ya, .int (nI nr), .ref ta, .int be, .int bp, .long bo, .int bm])), (dT, .inl (cI, 64, .inl d)), (gT, .inl (cZ, 64, .inl g)), (la, .inl (cI, 8, .inl sl)), (ca, .inl (cI, 128, .inl cr)), (aa, .inl (cI, 16, .inl ak)), (na, .inl (cI, 16, .inl no)), (ya, .inl (cI, 16, .inl ye)), (ta, .inl (cI, 48, .inl tl))] [.ref o, .int s9] sz) (va_Qi (fun (r : Int32) (u : va_W) => ((cSha s9 ns = 0 ∧ u = [(o, .inr (7, [.int 0, .int (nI n), .ref dT, .ref gT, .int (nI (ns + 1)), .ref la, .ref ca, .int (nI nn), .ref aa, .ref na, .ref ya, .int (nI nr), .ref ta, .int be, .int bp, .long bo, .int bm])), (dT, .inl (cI, 64, .inl d)), (gT, .inl (cZ, 64, .inl g)), (la, .inl (cI, 8, .inl (upd sl ns s9))), (ca, .inl (cI, 128, .inl (crL cr ns 16))), (aa, .inl (cI, 16, .inl ak)), (na, .inl (cI, 16, .inl no)), (ya, .inl (cI, 16, .inl ye)), (ta, .inl (cI, 48, .inl tl))] ∧ r = nI ns) ∨ (¬ cSha s9 ns = 0 ∧ u = [(o, .inr (7, [.int (cSha s9 ns), .int (nI n), .ref dT, .ref gT, .int (nI ns), .ref la, .ref ca, .int (nI nn), .ref aa, .ref na, .ref ya, .int (nI nr), .ref ta, .int be, .int bp, .long bo, .int bm])), (dT, .inl (cI, 64, .inl d)), (gT, .inl (cZ, 64, .inl g)), (la, .inl (cI, 8, .inl sl)), (ca, .inl (cI, 128, .inl cr)), (aa, .inl (cI, 16, .inl ak)), (na, .inl (cI, 16, .inl no)), (ya, .inl (cI, 16, .inl ye)), (ta, .inl (cI, 48, .inl tl))]))) (mB D (TY cI cZ cJ cO) (va_A [(o, .inr (7, [.int th, .int (nI n), .ref dT, .ref gT, .int (nI ns), .ref la, .ref ca, .int (nI nn), .ref aa, .ref na, .ref ya, .int (nI nr), .ref ta, .int be, .int bp, .long bo, .int bm])), (dT, .inl (cI, 64, .inl d)), (gT, .inl (cZ, 64, .inl g)), (la, .inl (cI, 8, .inl sl)), (ca, .inl (cI, 128, .inl cr)), (aa, .inl (cI, 16, .inl ak)), (na, .inl (cI, 16, .inl no)), (ya, .inl (cI, 16, .inl ye)), (ta, .inl (cI, 48, .inl tl))] sz)) (va_A [(o, .inr (7, [.int th, .int (nI n), .ref dT, .ref gT, .int (nI ns), .ref la, .ref ca, .int (nI nn), .ref aa, .ref na, .ref ya, .int (nI nr), .ref ta, .int be, .int bp, .long bo, .int bm])), (dT, .inl (cI, 64, .inl d)), (gT, .inl (cZ, 64, .inl g)), (la, .inl (cI, 8, .inl sl)), (ca, .inl (cI, 128, .inl cr)), (aa, .inl (cI, 16, .inl ak)), (na, .inl (cI, 16, .inl no)), (ya, .inl (cI, 16, .inl ye)), (ta, .inl (cI, 48, .inl tl))] sz)) 0 0 (va_A [(o, .inr (7, [.int th, .int (nI n), .ref dT, .ref gT, .int (nI ns), .ref la, .ref ca, .int (nI nn), .ref aa, .ref na, .ref ya, .int (nI nr), .ref ta, .int be, .int bp, .long bo, .int bm])), (dT, .inl (cI, 64, .inl d)), (gT, .inl (cZ, 64, .inl g)), (la, .inl (cI, 8, .inl sl)), (ca, .inl (cI, 128, .inl cr)), (aa, .inl (cI, 16, .inl ak)), (na, .inl (cI, 16, .inl no)), (ya, .inl (cI, 16, .inl ye)), (ta, .inl (cI, 48, .inl tl))] sz) := by
  refine Met.ofW (cc := c_T_shape) (maxL := 3) (ret := (some .int)) (by decide) rfl ?_
  intro p e s m args below meth c s₁ B hml hv
  obtain ⟨rfl, hsz, hP, hK, hD0, hN⟩ := hv
  have hx := B.exec
  have hb := B.bytes
  have hr := B.returns
  have hg := gt_h (atoms_spec (ws := (wq y_T_shape c_T_shape 3 (some .int))) B.pre)
  have hown : s.vm.findClass "RubbingMirrorsModel" = some m.cls := findClass_of_methodNamed B.named
  have hlocks := B.notSynchronized
  subst hsz
  have hD := hD0.self (sz := s.heap.size)
  generalize hAe : va_A [(o, .inr (7, [.int th, .int (nI n), .ref dT, .ref gT, .int (nI ns), .ref la, .ref ca, .int (nI nn), .ref aa, .ref na, .ref ya, .int (nI nr), .ref ta, .int be, .int bp, .long bo, .int bm])), (dT, .inl (cI, 64, .inl d)), (gT, .inl (cZ, 64, .inl g)), (la, .inl (cI, 8, .inl sl)), (ca, .inl (cI, 128, .inl cr)), (aa, .inl (cI, 16, .inl ak)), (na, .inl (cI, 16, .inl no)), (ya, .inl (cI, 16, .inl ye)), (ta, .inl (cI, 48, .inl tl))] s.heap.size = A at hD ⊢
  have hA : ∀ q : Nat, s.heap.size ≤ q → A q := fun q h => by rw [← hAe]; exact Or.inr h
  have hS : va_S A s.heap s.heap [] := va_S.rf
  have hl := lv_entry ([.ref o, .int s9]) (n := 3) (Nat.le_of_ble_eq_true rfl)
  rw [lg_entry_eq]
  generalize (lg_sl ([.ref o, .int s9]) ++ List.replicate (3 - (lg_sl ([.ref o, .int s9])).length) Slot.unset).toArray = ls at hl ⊢
  have hl : lv_has ls 3 [(0, .ref o), (1, .int s9)] := hl
  refine lv_aload_n hx hb d_T_shape_0 rfl (lv_at hl 0 rfl) ?_
  refine lv_iload_n hx hb d_T_shape_1 rfl (lv_at hl 1 rfl) ?_
  refine lv_i2l (v := s9.toInt64) hx hb d_T_shape_2 rfl ?_
  refine lv_ldc2 (v := 2) hx hb hown (hg _ g_728) d_T_shape_3 ?_
  refine lv_ldc2 (v := 16) hx hb hown (hg _ g_757) d_T_shape_6 ?_
  refine vp_callSi (va_Run.run (va_runS (As := [.long s9.toInt64, .long 2, .long 16]) (rest := [.ref o]) ⟨hx, hb, hml, hown, hg⟩ (c_T_isIn_ok l D cI cZ cJ cO s9.toInt64 2 16) (va_cwS 3 hg (gs2 g_703 g_704 g_26 g_705) rfl rfl rfl (by decide +kernel) ⟨Nat.le_of_ble_eq_true rfl, Nat.le_of_ble_eq_true rfl⟩) (pS ba_nil hK hN) rfl rfl hl.1 rfl (lv_room (Nat.le_of_ble_eq_true rfl)) d_T_shape_9 ⟨Nat.zero_le _, Nat.zero_le _⟩)) (fun r_1 hr_1 => ?_)
  subst hr_1
  rw [lw_c (v := s9) (lo := 2) (hi := 16) (by decide) (by decide)]
  refine lv_if_ne (tgt := 19) hx hb d_T_shape_12 (by decide) (fun c_12 => ?_) (fun c_12 => ?_)
  · refine lv_aload_n hx hb d_T_shape_19 rfl (lv_at hl 0 rfl) ?_
    refine va_get (D := D) (ci := 7) (v := .int (nI ns)) (C := Q_T) (T := F_T) (N := 17) hx hb hg in_T hown hK hP 0 rfl rfl 4 (by decide) (hg _ g_643) (fun _ h9 => h9) rfl d_T_shape_20 ?_
    refine lv_bipush (v := 8) hx hb d_T_shape_23 (by decide) ?_
    refine lv_icmp_ne (tgt := 32) hx hb d_T_shape_25 (by decide) (fun c_25 => ?_) (fun c_25 => ?_)
    · refine lv_iconst (v := 0) hx hb d_T_shape_32 (by decide) ?_
      refine va_put (D := D) (ci := 7) (v := .int 0) (ty := .int) (C := Q_T) (T := F_T) (N := 17) hx hb hg in_T tq_T tq_T_ok n_T hown hK hP hD hS 0 rfl rfl 0 (by decide) (hg _ g_639) (fun _ h9 => h9) rfl (by decide +kernel) rfl rfl (Nat.le_of_ble_eq_true rfl) d_T_shape_33 (fun H locs hP hD hS => ?_)
      have hP : va_P D cls [(o, .inr (7, [.int 0, .int (nI n), .ref dT, .ref gT, .int (nI ns), .ref la, .ref ca, .int (nI nn), .ref aa, .ref na, .ref ya, .int (nI nr), .ref ta, .int be, .int bp, .long bo, .int bm])), (dT, .inl (cI, 64, .inl d)), (gT, .inl (cZ, 64, .inl g)), (la, .inl (cI, 8, .inl sl)), (ca, .inl (cI, 128, .inl cr)), (aa, .inl (cI, 16, .inl ak)), (na, .inl (cI, 16, .inl no)), (ya, .inl (cI, 16, .inl ye)), (ta, .inl (cI, 48, .inl tl))] H := hP
      have hD : va_D A [(o, .inr (7, [.int 0, .int (nI n), .ref dT, .ref gT, .int (nI ns), .ref la, .ref ca, .int (nI nn), .ref aa, .ref na, .ref ya, .int (nI nr), .ref ta, .int be, .int bp, .long bo, .int bm])), (dT, .inl (cI, 64, .inl d)), (gT, .inl (cZ, 64, .inl g)), (la, .inl (cI, 8, .inl sl)), (ca, .inl (cI, 128, .inl cr)), (aa, .inl (cI, 16, .inl ak)), (na, .inl (cI, 16, .inl no)), (ya, .inl (cI, 16, .inl ye)), (ta, .inl (cI, 48, .inl tl))] := hD
      refine lv_aload_n hx hb d_T_shape_36 rfl (lv_at hl 0 rfl) ?_
      refine va_get (D := D) (ci := 7) (v := .int 0) (C := Q_T) (T := F_T) (N := 17) hx hb hg in_T hown hK hP 0 rfl rfl 0 (by decide) (hg _ g_639) (fun _ h9 => h9) rfl d_T_shape_37 ?_
      refine lv_if_le (tgt := 45) hx hb d_T_shape_40 (by decide) (fun c_40 => ?_) (fun c_40 => ?_)
      · refine lv_aload_n hx hb d_T_shape_45 rfl (lv_at hl 0 rfl) ?_
        refine va_get (D := D) (ci := 7) (v := .ref la) (C := Q_T) (T := F_T) (N := 17) hx hb hg in_T hown hK hP 0 rfl rfl 5 (by decide) (hg _ g_644) (fun _ h9 => h9) rfl d_T_shape_46 ?_
        refine lv_aload_n hx hb d_T_shape_49 rfl (lv_at hl 0 rfl) ?_
        refine va_get (D := D) (ci := 7) (v := .int (nI ns)) (C := Q_T) (T := F_T) (N := 17) hx hb hg in_T hown hK hP 0 rfl rfl 4 (by decide) (hg _ g_643) (fun _ h9 => h9) rfl d_T_shape_50 ?_
        refine lv_iload_n hx hb d_T_shape_53 rfl (lv_at hl 1 rfl) ?_
        refine va_iast hx hb hK hP hD hS 3 0 rfl rfl (v8 (ns8 hns c_25)) d_T_shape_54 (fun H locs hP hD hS => ?_)
        have hns8 := ns8 hns c_25
        rw [nI_clamp (show ns < 2 ^ 31 by omega)] at hP hD
        have hP : va_P D cls [(o, .inr (7, [.int 0, .int (nI n), .ref dT, .ref gT, .int (nI ns), .ref la, .ref ca, .int (nI nn), .ref aa, .ref na, .ref ya, .int (nI nr), .ref ta, .int be, .int bp, .long bo, .int bm])), (dT, .inl (cI, 64, .inl d)), (gT, .inl (cZ, 64, .inl g)), (la, .inl (cI, 8, .inl (upd sl ns s9))), (ca, .inl (cI, 128, .inl cr)), (aa, .inl (cI, 16, .inl ak)), (na, .inl (cI, 16, .inl no)), (ya, .inl (cI, 16, .inl ye)), (ta, .inl (cI, 48, .inl tl))] H := hP
        have hD : va_D A [(o, .inr (7, [.int 0, .int (nI n), .ref dT, .ref gT, .int (nI ns), .ref la, .ref ca, .int (nI nn), .ref aa, .ref na, .ref ya, .int (nI nr), .ref ta, .int be, .int bp, .long bo, .int bm])), (dT, .inl (cI, 64, .inl d)), (gT, .inl (cZ, 64, .inl g)), (la, .inl (cI, 8, .inl (upd sl ns s9))), (ca, .inl (cI, 128, .inl cr)), (aa, .inl (cI, 16, .inl ak)), (na, .inl (cI, 16, .inl no)), (ya, .inl (cI, 16, .inl ye)), (ta, .inl (cI, 48, .inl tl))] := hD
        refine lv_iconst (v := 0) hx hb d_T_shape_55 (by decide) ?_
        refine lv_istore_n (lv' := [(2, .int 0), (0, .ref o), (1, .int s9)]) hx hb d_T_shape_56 rfl hl (by decide) rfl (fun ls hl => ?_)
        have loop_57 : ∀ (f57 : Nat) (j : Nat) (x2 : Int32) (H : Heap) (locs : List Loc) (ls : Array Slot), (j ≤ 16 ∧ 16 < j + f57 ∧ x2 = nI j) → va_P D cls [(o, .inr (7, [.int 0, .int (nI n), .ref dT, .ref gT, .int (nI ns), .ref la, .ref ca, .int (nI nn), .ref aa, .ref na, .ref ya, .int (nI nr), .ref ta, .int be, .int bp, .long bo, .int bm])), (dT, .inl (cI, 64, .inl d)), (gT, .inl (cZ, 64, .inl g)), (la, .inl (cI, 8, .inl (upd sl ns s9))), (ca, .inl (cI, 128, .inl (crL cr ns j))), (aa, .inl (cI, 16, .inl ak)), (na, .inl (cI, 16, .inl no)), (ya, .inl (cI, 16, .inl ye)), (ta, .inl (cI, 48, .inl tl))] H → va_D A [(o, .inr (7, [.int 0, .int (nI n), .ref dT, .ref gT, .int (nI ns), .ref la, .ref ca, .int (nI nn), .ref aa, .ref na, .ref ya, .int (nI nr), .ref ta, .int be, .int bp, .long bo, .int bm])), (dT, .inl (cI, 64, .inl d)), (gT, .inl (cZ, 64, .inl g)), (la, .inl (cI, 8, .inl (upd sl ns s9))), (ca, .inl (cI, 128, .inl (crL cr ns j))), (aa, .inl (cI, 16, .inl ak)), (na, .inl (cI, 16, .inl no)), (ya, .inl (cI, 16, .inl ye)), (ta, .inl (cI, 48, .inl tl))] → va_S A s.heap H locs → lv_has ls 3 [(0, .ref o), (1, .int s9), (2, .int x2)] → W p l e (headSpec (wq y_T_shape c_T_shape 3 (some .int)) ({ frames := 1, cells := 0, slots := 0, locals := 25 })).room s m ([.ref o, .int s9] : List Value).toArray below meth c H locs 0 0 (MQ below (va_Qi (fun (r : Int32) (u : va_W) => ((cSha s9 ns = 0 ∧ u = [(o, .inr (7, [.int 0, .int (nI n), .ref dT, .ref gT, .int (nI (ns + 1)), .ref la, .ref ca, .int (nI nn), .ref aa, .ref na, .ref ya, .int (nI nr), .ref ta, .int be, .int bp, .long bo, .int bm])), (dT, .inl (cI, 64, .inl d)), (gT, .inl (cZ, 64, .inl g)), (la, .inl (cI, 8, .inl (upd sl ns s9))), (ca, .inl (cI, 128, .inl (crL cr ns 16))), (aa, .inl (cI, 16, .inl ak)), (na, .inl (cI, 16, .inl no)), (ya, .inl (cI, 16, .inl ye)), (ta, .inl (cI, 48, .inl tl))] ∧ r = nI ns) ∨ (¬ cSha s9 ns = 0 ∧ u = [(o, .inr (7, [.int (cSha s9 ns), .int (nI n), .ref dT, .ref gT, .int (nI ns), .ref la, .ref ca, .int (nI nn), .ref aa, .ref na, .ref ya, .int (nI nr), .ref ta, .int be, .int bp, .long bo, .int bm])), (dT, .inl (cI, 64, .inl d)), (gT, .inl (cZ, 64, .inl g)), (la, .inl (cI, 8, .inl sl)), (ca, .inl (cI, 128, .inl cr)), (aa, .inl (cI, 16, .inl ak)), (na, .inl (cI, 16, .inl no)), (ya, .inl (cI, 16, .inl ye)), (ta, .inl (cI, 48, .inl tl))]))) (mB D (TY cI cZ cJ cO) A) A) ([.ref o, .int s9] : List Value).toArray s 0 0 A) (F0 m 57 ls []) := by
          intro f57
          induction f57 with
          | zero =>
            intro j x2 H locs ls hI hP hD hS hl
            obtain ⟨hj1, hj2, rfl⟩ := hI
            omega
          | succ f57 ih57 =>
            intro j x2 H locs ls hI hP hD hS hl
            obtain ⟨hj1, hj2, rfl⟩ := hI
            refine lv_iload_n hx hb d_T_shape_57 rfl (lv_at hl 2 rfl) ?_
            refine lv_bipush (v := 16) hx hb d_T_shape_58 (by decide) ?_
            refine lv_icmp_ge (tgt := 86) hx hb d_T_shape_60 (by decide) (fun c_60 => ?_) (fun c_60 => ?_)
            · obtain rfl := o16 hj1 c_60
              refine lv_aload_n hx hb d_T_shape_86 rfl (lv_at hl 0 rfl) ?_
              refine lv_dup hx hb d_T_shape_87 rfl ?_
              refine va_get (D := D) (ci := 7) (v := .int (nI ns)) (C := Q_T) (T := F_T) (N := 17) hx hb hg in_T hown hK hP 0 rfl rfl 4 (by decide) (hg _ g_643) (fun _ h9 => h9) rfl d_T_shape_88 ?_
              refine lv_iconst (v := 1) hx hb d_T_shape_91 (by decide) ?_
              refine lv_iadd hx hb d_T_shape_92 ?_
              refine va_put (D := D) (ci := 7) (v := .int ((nI ns) + 1)) (ty := .int) (C := Q_T) (T := F_T) (N := 17) hx hb hg in_T tq_T tq_T_ok n_T hown hK hP hD hS 0 rfl rfl 4 (by decide) (hg _ g_643) (fun _ h9 => h9) rfl (by decide +kernel) rfl rfl (Nat.le_of_ble_eq_true rfl) d_T_shape_93 (fun H locs hP hD hS => ?_)
              have hP : va_P D cls [(o, .inr (7, [.int 0, .int (nI n), .ref dT, .ref gT, .int ((nI ns) + 1), .ref la, .ref ca, .int (nI nn), .ref aa, .ref na, .ref ya, .int (nI nr), .ref ta, .int be, .int bp, .long bo, .int bm])), (dT, .inl (cI, 64, .inl d)), (gT, .inl (cZ, 64, .inl g)), (la, .inl (cI, 8, .inl (upd sl ns s9))), (ca, .inl (cI, 128, .inl (crL cr ns 16))), (aa, .inl (cI, 16, .inl ak)), (na, .inl (cI, 16, .inl no)), (ya, .inl (cI, 16, .inl ye)), (ta, .inl (cI, 48, .inl tl))] H := hP
              have hD : va_D A [(o, .inr (7, [.int 0, .int (nI n), .ref dT, .ref gT, .int ((nI ns) + 1), .ref la, .ref ca, .int (nI nn), .ref aa, .ref na, .ref ya, .int (nI nr), .ref ta, .int be, .int bp, .long bo, .int bm])), (dT, .inl (cI, 64, .inl d)), (gT, .inl (cZ, 64, .inl g)), (la, .inl (cI, 8, .inl (upd sl ns s9))), (ca, .inl (cI, 128, .inl (crL cr ns 16))), (aa, .inl (cI, 16, .inl ak)), (na, .inl (cI, 16, .inl no)), (ya, .inl (cI, 16, .inl ye)), (ta, .inl (cI, 48, .inl tl))] := hD
              refine lv_aload_n hx hb d_T_shape_96 rfl (lv_at hl 0 rfl) ?_
              refine va_get (D := D) (ci := 7) (v := .int ((nI ns) + 1)) (C := Q_T) (T := F_T) (N := 17) hx hb hg in_T hown hK hP 0 rfl rfl 4 (by decide) (hg _ g_643) (fun _ h9 => h9) rfl d_T_shape_97 ?_
              refine lv_iconst (v := 1) hx hb d_T_shape_100 (by decide) ?_
              refine lv_isub hx hb d_T_shape_101 ?_
              exact W.iret hx hb hr (fun t9 ht hW => ⟨⟨_, [(o, .inr (7, [.int 0, .int (nI n), .ref dT, .ref gT, .int ((nI ns) + 1), .ref la, .ref ca, .int (nI nn), .ref aa, .ref na, .ref ya, .int (nI nr), .ref ta, .int be, .int bp, .long bo, .int bm])), (dT, .inl (cI, 64, .inl d)), (gT, .inl (cZ, 64, .inl g)), (la, .inl (cI, 8, .inl (upd sl ns s9))), (ca, .inl (cI, 128, .inl (crL cr ns 16))), (aa, .inl (cI, 16, .inl ak)), (na, .inl (cI, 16, .inl no)), (ya, .inl (cI, 16, .inl ye)), (ta, .inl (cI, 48, .inl tl))], rfl, Or.inl ⟨ch_0 c_12 c_25, by rw [← nI_1], nI_1m ns⟩, by rw [ht]; exact hP, va_K.moved hW.alike hK, hD⟩, hS.F ht⟩) hS.2.2 d_T_shape_102
            · refine lv_aload_n hx hb d_T_shape_63 rfl (lv_at hl 0 rfl) ?_
              refine va_get (D := D) (ci := 7) (v := .ref ca) (C := Q_T) (T := F_T) (N := 17) hx hb hg in_T hown hK hP 0 rfl rfl 6 (by decide) (hg _ g_645) (fun _ h9 => h9) rfl d_T_shape_64 ?_
              refine lv_bipush (v := 16) hx hb d_T_shape_67 (by decide) ?_
              refine lv_aload_n hx hb d_T_shape_69 rfl (lv_at hl 0 rfl) ?_
              refine va_get (D := D) (ci := 7) (v := .int (nI ns)) (C := Q_T) (T := F_T) (N := 17) hx hb hg in_T hown hK hP 0 rfl rfl 4 (by decide) (hg _ g_643) (fun _ h9 => h9) rfl d_T_shape_70 ?_
              refine lv_imul hx hb d_T_shape_73 ?_
              refine lv_iload_n hx hb d_T_shape_74 rfl (lv_at hl 2 rfl) ?_
              refine lv_iadd hx hb d_T_shape_75 ?_
              refine lv_sipush (v := 128) hx hb d_T_shape_76 (by decide) ?_
              refine va_iast hx hb hK hP hD hS 4 0 rfl rfl (v128 hns8 (i16 hj1 c_60)) d_T_shape_79 (fun H locs hP hD hS => ?_)
              rw [c128 hns8 (i16 hj1 c_60)] at hP hD
              have hP : va_P D cls [(o, .inr (7, [.int 0, .int (nI n), .ref dT, .ref gT, .int (nI ns), .ref la, .ref ca, .int (nI nn), .ref aa, .ref na, .ref ya, .int (nI nr), .ref ta, .int be, .int bp, .long bo, .int bm])), (dT, .inl (cI, 64, .inl d)), (gT, .inl (cZ, 64, .inl g)), (la, .inl (cI, 8, .inl (upd sl ns s9))), (ca, .inl (cI, 128, .inl (crL cr ns (j + 1)))), (aa, .inl (cI, 16, .inl ak)), (na, .inl (cI, 16, .inl no)), (ya, .inl (cI, 16, .inl ye)), (ta, .inl (cI, 48, .inl tl))] H := hP
              have hD : va_D A [(o, .inr (7, [.int 0, .int (nI n), .ref dT, .ref gT, .int (nI ns), .ref la, .ref ca, .int (nI nn), .ref aa, .ref na, .ref ya, .int (nI nr), .ref ta, .int be, .int bp, .long bo, .int bm])), (dT, .inl (cI, 64, .inl d)), (gT, .inl (cZ, 64, .inl g)), (la, .inl (cI, 8, .inl (upd sl ns s9))), (ca, .inl (cI, 128, .inl (crL cr ns (j + 1)))), (aa, .inl (cI, 16, .inl ak)), (na, .inl (cI, 16, .inl no)), (ya, .inl (cI, 16, .inl ye)), (ta, .inl (cI, 48, .inl tl))] := hD
              refine lv_iinc (v := (nI j) + 1) (lv' := [(2, .int ((nI j) + 1)), (0, .ref o), (1, .int s9)]) hx hb d_T_shape_80 hl (k := 2) rfl rfl (by decide) rfl (fun ls hl => ?_)
              refine lv_goto (tgt := 57) hx hb d_T_shape_83 (by decide) ?_
              exact ih57 (j + 1) ((nI j) + 1) _ _ ls (⟨by have := i16 hj1 c_60; omega, by omega, nI_1 j⟩) hP hD hS (lv_sub hl [1, 2, 0] rfl)
        exact loop_57 17 0 0 _ _ ls (⟨by omega, by omega, rfl⟩) hP hD hS (lv_sub hl [1, 2, 0] rfl)
      · exact absurd c_40 (by decide)
    · refine lv_iconst (v := 2) hx hb d_T_shape_28 (by decide) ?_
      refine lv_goto (tgt := 33) hx hb d_T_shape_29 (by decide) ?_
      refine va_put (D := D) (ci := 7) (v := .int 2) (ty := .int) (C := Q_T) (T := F_T) (N := 17) hx hb hg in_T tq_T tq_T_ok n_T hown hK hP hD hS 0 rfl rfl 0 (by decide) (hg _ g_639) (fun _ h9 => h9) rfl (by decide +kernel) rfl rfl (Nat.le_of_ble_eq_true rfl) d_T_shape_33 (fun H locs hP hD hS => ?_)
      have hP : va_P D cls [(o, .inr (7, [.int 2, .int (nI n), .ref dT, .ref gT, .int (nI ns), .ref la, .ref ca, .int (nI nn), .ref aa, .ref na, .ref ya, .int (nI nr), .ref ta, .int be, .int bp, .long bo, .int bm])), (dT, .inl (cI, 64, .inl d)), (gT, .inl (cZ, 64, .inl g)), (la, .inl (cI, 8, .inl sl)), (ca, .inl (cI, 128, .inl cr)), (aa, .inl (cI, 16, .inl ak)), (na, .inl (cI, 16, .inl no)), (ya, .inl (cI, 16, .inl ye)), (ta, .inl (cI, 48, .inl tl))] H := hP
      have hD : va_D A [(o, .inr (7, [.int 2, .int (nI n), .ref dT, .ref gT, .int (nI ns), .ref la, .ref ca, .int (nI nn), .ref aa, .ref na, .ref ya, .int (nI nr), .ref ta, .int be, .int bp, .long bo, .int bm])), (dT, .inl (cI, 64, .inl d)), (gT, .inl (cZ, 64, .inl g)), (la, .inl (cI, 8, .inl sl)), (ca, .inl (cI, 128, .inl cr)), (aa, .inl (cI, 16, .inl ak)), (na, .inl (cI, 16, .inl no)), (ya, .inl (cI, 16, .inl ye)), (ta, .inl (cI, 48, .inl tl))] := hD
      refine lv_aload_n hx hb d_T_shape_36 rfl (lv_at hl 0 rfl) ?_
      refine va_get (D := D) (ci := 7) (v := .int 2) (C := Q_T) (T := F_T) (N := 17) hx hb hg in_T hown hK hP 0 rfl rfl 0 (by decide) (hg _ g_639) (fun _ h9 => h9) rfl d_T_shape_37 ?_
      refine lv_if_le (tgt := 45) hx hb d_T_shape_40 (by decide) (fun c_40 => ?_) (fun c_40 => ?_)
      · exact absurd c_40 (by decide)
      · refine lv_iconst (v := 0) hx hb d_T_shape_43 (by decide) ?_
        exact W.iret hx hb hr (fun t9 ht hW => ⟨⟨_, [(o, .inr (7, [.int 2, .int (nI n), .ref dT, .ref gT, .int (nI ns), .ref la, .ref ca, .int (nI nn), .ref aa, .ref na, .ref ya, .int (nI nr), .ref ta, .int be, .int bp, .long bo, .int bm])), (dT, .inl (cI, 64, .inl d)), (gT, .inl (cZ, 64, .inl g)), (la, .inl (cI, 8, .inl sl)), (ca, .inl (cI, 128, .inl cr)), (aa, .inl (cI, 16, .inl ak)), (na, .inl (cI, 16, .inl no)), (ya, .inl (cI, 16, .inl ye)), (ta, .inl (cI, 48, .inl tl))], rfl, Or.inr ⟨by first | (rw [ch_1 c_12]; decide) | (rw [ch_2 c_12 c_25]; decide), by first | rw [ch_1 c_12] | rw [ch_2 c_12 c_25]⟩, by rw [ht]; exact hP, va_K.moved hW.alike hK, hD⟩, hS.F ht⟩) hS.2.2 d_T_shape_44
  · refine lv_iconst (v := 1) hx hb d_T_shape_15 (by decide) ?_
    refine lv_goto (tgt := 33) hx hb d_T_shape_16 (by decide) ?_
    refine va_put (D := D) (ci := 7) (v := .int 1) (ty := .int) (C := Q_T) (T := F_T) (N := 17) hx hb hg in_T tq_T tq_T_ok n_T hown hK hP hD hS 0 rfl rfl 0 (by decide) (hg _ g_639) (fun _ h9 => h9) rfl (by decide +kernel) rfl rfl (Nat.le_of_ble_eq_true rfl) d_T_shape_33 (fun H locs hP hD hS => ?_)
    have hP : va_P D cls [(o, .inr (7, [.int 1, .int (nI n), .ref dT, .ref gT, .int (nI ns), .ref la, .ref ca, .int (nI nn), .ref aa, .ref na, .ref ya, .int (nI nr), .ref ta, .int be, .int bp, .long bo, .int bm])), (dT, .inl (cI, 64, .inl d)), (gT, .inl (cZ, 64, .inl g)), (la, .inl (cI, 8, .inl sl)), (ca, .inl (cI, 128, .inl cr)), (aa, .inl (cI, 16, .inl ak)), (na, .inl (cI, 16, .inl no)), (ya, .inl (cI, 16, .inl ye)), (ta, .inl (cI, 48, .inl tl))] H := hP
    have hD : va_D A [(o, .inr (7, [.int 1, .int (nI n), .ref dT, .ref gT, .int (nI ns), .ref la, .ref ca, .int (nI nn), .ref aa, .ref na, .ref ya, .int (nI nr), .ref ta, .int be, .int bp, .long bo, .int bm])), (dT, .inl (cI, 64, .inl d)), (gT, .inl (cZ, 64, .inl g)), (la, .inl (cI, 8, .inl sl)), (ca, .inl (cI, 128, .inl cr)), (aa, .inl (cI, 16, .inl ak)), (na, .inl (cI, 16, .inl no)), (ya, .inl (cI, 16, .inl ye)), (ta, .inl (cI, 48, .inl tl))] := hD
    refine lv_aload_n hx hb d_T_shape_36 rfl (lv_at hl 0 rfl) ?_
    refine va_get (D := D) (ci := 7) (v := .int 1) (C := Q_T) (T := F_T) (N := 17) hx hb hg in_T hown hK hP 0 rfl rfl 0 (by decide) (hg _ g_639) (fun _ h9 => h9) rfl d_T_shape_37 ?_
    refine lv_if_le (tgt := 45) hx hb d_T_shape_40 (by decide) (fun c_40 => ?_) (fun c_40 => ?_)
    · exact absurd c_40 (by decide)
    · refine lv_iconst (v := 0) hx hb d_T_shape_43 (by decide) ?_
      exact W.iret hx hb hr (fun t9 ht hW => ⟨⟨_, [(o, .inr (7, [.int 1, .int (nI n), .ref dT, .ref gT, .int (nI ns), .ref la, .ref ca, .int (nI nn), .ref aa, .ref na, .ref ya, .int (nI nr), .ref ta, .int be, .int bp, .long bo, .int bm])), (dT, .inl (cI, 64, .inl d)), (gT, .inl (cZ, 64, .inl g)), (la, .inl (cI, 8, .inl sl)), (ca, .inl (cI, 128, .inl cr)), (aa, .inl (cI, 16, .inl ak)), (na, .inl (cI, 16, .inl no)), (ya, .inl (cI, 16, .inl ye)), (ta, .inl (cI, 48, .inl tl))], rfl, Or.inr ⟨by first | (rw [ch_1 c_12]; decide) | (rw [ch_2 c_12 c_25]; decide), by first | rw [ch_1 c_12] | rw [ch_2 c_12 c_25]⟩, by rw [ht]; exact hP, va_K.moved hW.alike hK, hD⟩, hS.F ht⟩) hS.2.2 d_T_shape_44


theorem v8s {m : Nat} {s : Int32} (hm : m ≤ 8) (h : ¬ bI (iw s 0 (nI m - 1)) = 0) : vp_in s 8 := by
  obtain ⟨S, h1, rfl⟩ := iwN (by omega) h
  exact v8 (by omega)

set_option maxHeartbeats 4000000 in
set_option maxRecDepth 100000 in
/-- the reference: carve(s, k, v) -/
theorem c_T_carve_ok (l : Launch) (D : va_G) (cI cZ cJ cO : ClassId) (sz : Nat) (o dT gT la ca aa na ya ta : Nat) (n ns nn nr : Nat) (d g sl cr ak no ye tl : Nat → Int32) (th be bp bm : Int32) (bo : Int64) (h4 : 4 ≤ n) (h64 : n ≤ 64) (hd : dOK n d) (s9 k9 v9 : Int32) (hns : ns ≤ 8) (hsl : ∀ i, i < ns → 2 ≤ (sl i).toInt ∧ (sl i).toInt ≤ 16) : Met l y_T_carve (wq y_T_carve c_T_carve 4 none) ({ frames := 1, cells := 0, slots := 0, locals := 25 }) (mP D (TY cI cZ cJ cO) [(o, .inr (7, [.int th, .int (nI n), .ref dT, .ref gT, .int (nI ns), .ref la, .ref ca, .int (nI nn), .ref aa, .ref na, .ref ya, .int (nI nr), .ref ta, .int be, .int bp, .long bo, .int bm])), (dT, .inl (cI, 64, .inl d)), (gT, .inl (cZ, 64, .inl g)), (la, .inl (cI, 8, .inl sl)), (ca, .inl (cI, 128, .inl cr)), (aa, .inl (cI, 16, .inl ak)), (na, .inl (cI, 16, .inl no)), (ya, .inl (cI, 16, .inl ye)), (ta, .inl (cI, 48, .inl tl))] [.ref o, .int s9, .int k9, .int v9] sz) (va_Qv (fun (u : va_W) => u = [(o, .inr (7, [.int (cCar s9 k9 v9 ns sl), .int (nI n), .ref dT, .ref gT, .int (nI ns), .ref la, .ref ca, .int (nI nn), .ref aa, .ref na, .ref ya, .int (nI nr), .ref ta, .int be, .int bp, .long bo, .int bm])), (dT, .inl (cI, 64, .inl d)), (gT, .inl (cZ, 64, .inl g)), (la, .inl (cI, 8, .inl sl)), (ca, .inl (cI, 128, .inl (crC cr s9 k9 v9 ns sl))), (aa, .inl (cI, 16, .inl ak)), (na, .inl (cI, 16, .inl no)), (ya, .inl (cI, 16, .inl ye)), (ta, .inl (cI, 48, .inl tl))]) (mB D (TY cI cZ cJ cO) (va_A [(o, .inr (7, [.int th, .int (nI n), .ref dT, .ref gT, .int (nI ns), .ref la, .ref ca, .int (nI nn), .ref aa, .ref na, .ref ya, .int (nI nr), .ref ta, .int be, .int bp, .long bo, .int bm])), (dT, .inl (cI, 64, .inl d)), (gT, .inl (cZ, 64, .inl g)), (la, .inl (cI, 8, .inl sl)), (ca, .inl (cI, 128, .inl cr)), (aa, .inl (cI, 16, .inl ak)), (na, .inl (cI, 16, .inl no)), (ya, .inl (cI, 16, .inl ye)), (ta, .inl (cI, 48, .inl tl))] sz)) (va_A [(o, .inr (7, [.int th, .int (nI n), .ref dT, .ref gT, .int (nI ns), .ref la, .ref ca, .int (nI nn), .ref aa, .ref na, .ref ya, .int (nI nr), .ref ta, .int be, .int bp, .long bo, .int bm])), (dT, .inl (cI, 64, .inl d)), (gT, .inl (cZ, 64, .inl g)), (la, .inl (cI, 8, .inl sl)), (ca, .inl (cI, 128, .inl cr)), (aa, .inl (cI, 16, .inl ak)), (na, .inl (cI, 16, .inl no)), (ya, .inl (cI, 16, .inl ye)), (ta, .inl (cI, 48, .inl tl))] sz)) 0 0 (va_A [(o, .inr (7, [.int th, .int (nI n), .ref dT, .ref gT, .int (nI ns), .ref la, .ref ca, .int (nI nn), .ref aa, .ref na, .ref ya, .int (nI nr), .ref ta, .int be, .int bp, .long bo, .int bm])), (dT, .inl (cI, 64, .inl d)), (gT, .inl (cZ, 64, .inl g)), (la, .inl (cI, 8, .inl sl)), (ca, .inl (cI, 128, .inl cr)), (aa, .inl (cI, 16, .inl ak)), (na, .inl (cI, 16, .inl no)), (ya, .inl (cI, 16, .inl ye)), (ta, .inl (cI, 48, .inl tl))] sz) := by
  refine Met.ofW (cc := c_T_carve) (maxL := 4) (ret := none) (by decide) rfl ?_
  intro p e s m args below meth c s₁ B hml hv
  obtain ⟨rfl, hsz, hP, hK, hD0, hN⟩ := hv
  have hx := B.exec
  have hb := B.bytes
  have hr := B.returns
  have hg := gt_h (atoms_spec (ws := (wq y_T_carve c_T_carve 4 none)) B.pre)
  have hown : s.vm.findClass "RubbingMirrorsModel" = some m.cls := findClass_of_methodNamed B.named
  have hlocks := B.notSynchronized
  subst hsz
  have hD := hD0.self (sz := s.heap.size)
  generalize hAe : va_A [(o, .inr (7, [.int th, .int (nI n), .ref dT, .ref gT, .int (nI ns), .ref la, .ref ca, .int (nI nn), .ref aa, .ref na, .ref ya, .int (nI nr), .ref ta, .int be, .int bp, .long bo, .int bm])), (dT, .inl (cI, 64, .inl d)), (gT, .inl (cZ, 64, .inl g)), (la, .inl (cI, 8, .inl sl)), (ca, .inl (cI, 128, .inl cr)), (aa, .inl (cI, 16, .inl ak)), (na, .inl (cI, 16, .inl no)), (ya, .inl (cI, 16, .inl ye)), (ta, .inl (cI, 48, .inl tl))] s.heap.size = A at hD ⊢
  have hA : ∀ q : Nat, s.heap.size ≤ q → A q := fun q h => by rw [← hAe]; exact Or.inr h
  have hS : va_S A s.heap s.heap [] := va_S.rf
  have hl := lv_entry ([.ref o, .int s9, .int k9, .int v9]) (n := 4) (Nat.le_of_ble_eq_true rfl)
  rw [lg_entry_eq]
  generalize (lg_sl ([.ref o, .int s9, .int k9, .int v9]) ++ List.replicate (4 - (lg_sl ([.ref o, .int s9, .int k9, .int v9])).length) Slot.unset).toArray = ls at hl ⊢
  have hl : lv_has ls 4 [(0, .ref o), (1, .int s9), (2, .int k9), (3, .int v9)] := hl
  refine lv_aload_n hx hb d_T_carve_0 rfl (lv_at hl 0 rfl) ?_
  refine lv_iload_n hx hb d_T_carve_1 rfl (lv_at hl 1 rfl) ?_
  refine lv_i2l (v := s9.toInt64) hx hb d_T_carve_2 rfl ?_
  refine lv_lconst (v := 0) hx hb d_T_carve_3 (by decide) ?_
  refine lv_aload_n hx hb d_T_carve_4 rfl (lv_at hl 0 rfl) ?_
  refine va_get (D := D) (ci := 7) (v := .int (nI ns)) (C := Q_T) (T := F_T) (N := 17) hx hb hg in_T hown hK hP 0 rfl rfl 4 (by decide) (hg _ g_643) (fun _ h9 => h9) rfl d_T_carve_5 ?_
  refine lv_iconst (v := 1) hx hb d_T_carve_8 (by decide) ?_
  refine lv_isub hx hb d_T_carve_9 ?_
  refine lv_i2l (v := ((nI ns) - 1).toInt64) hx hb d_T_carve_10 rfl ?_
  refine vp_callSi (va_Run.run (va_runS (As := [.long s9.toInt64, .long 0, .long (((nI ns) - 1).toInt64)]) (rest := [.ref o]) ⟨hx, hb, hml, hown, hg⟩ (c_T_isIn_ok l D cI cZ cJ cO s9.toInt64 0 (((nI ns) - 1).toInt64)) (va_cwS 3 hg (gs2 g_703 g_704 g_26 g_705) rfl rfl rfl (by decide +kernel) ⟨Nat.le_of_ble_eq_true rfl, Nat.le_of_ble_eq_true rfl⟩) (pS ba_nil hK hN) rfl rfl hl.1 rfl (lv_room (Nat.le_of_ble_eq_true rfl)) d_T_carve_11 ⟨Nat.zero_le _, Nat.zero_le _⟩)) (fun r_1 hr_1 => ?_)
  subst hr_1
  rw [lw_c (v := s9) (lo := 0) (hi := ((nI ns) - 1)) (by decide) rfl]
  refine lv_if_eq (tgt := 35) hx hb d_T_carve_14 (by decide) (fun c_14 => ?_) (fun c_14 => ?_)
  · refine lv_iconst (v := 1) hx hb d_T_carve_35 (by decide) ?_
    refine lv_goto (tgt := 56) hx hb d_T_carve_36 (by decide) ?_
    refine va_put (D := D) (ci := 7) (v := .int 1) (ty := .int) (C := Q_T) (T := F_T) (N := 17) hx hb hg in_T tq_T tq_T_ok n_T hown hK hP hD hS 0 rfl rfl 0 (by decide) (hg _ g_639) (fun _ h9 => h9) rfl (by decide +kernel) rfl rfl (Nat.le_of_ble_eq_true rfl) d_T_carve_56 (fun H locs hP hD hS => ?_)
    have hP : va_P D cls [(o, .inr (7, [.int 1, .int (nI n), .ref dT, .ref gT, .int (nI ns), .ref la, .ref ca, .int (nI nn), .ref aa, .ref na, .ref ya, .int (nI nr), .ref ta, .int be, .int bp, .long bo, .int bm])), (dT, .inl (cI, 64, .inl d)), (gT, .inl (cZ, 64, .inl g)), (la, .inl (cI, 8, .inl sl)), (ca, .inl (cI, 128, .inl cr)), (aa, .inl (cI, 16, .inl ak)), (na, .inl (cI, 16, .inl no)), (ya, .inl (cI, 16, .inl ye)), (ta, .inl (cI, 48, .inl tl))] H := hP
    have hD : va_D A [(o, .inr (7, [.int 1, .int (nI n), .ref dT, .ref gT, .int (nI ns), .ref la, .ref ca, .int (nI nn), .ref aa, .ref na, .ref ya, .int (nI nr), .ref ta, .int be, .int bp, .long bo, .int bm])), (dT, .inl (cI, 64, .inl d)), (gT, .inl (cZ, 64, .inl g)), (la, .inl (cI, 8, .inl sl)), (ca, .inl (cI, 128, .inl cr)), (aa, .inl (cI, 16, .inl ak)), (na, .inl (cI, 16, .inl no)), (ya, .inl (cI, 16, .inl ye)), (ta, .inl (cI, 48, .inl tl))] := hD
    refine lv_aload_n hx hb d_T_carve_59 rfl (lv_at hl 0 rfl) ?_
    refine va_get (D := D) (ci := 7) (v := .int 1) (C := Q_T) (T := F_T) (N := 17) hx hb hg in_T hown hK hP 0 rfl rfl 0 (by decide) (hg _ g_639) (fun _ h9 => h9) rfl d_T_carve_60 ?_
    refine lv_if_ne (tgt := 78) hx hb d_T_carve_63 (by decide) (fun c_63 => ?_) (fun c_63 => ?_)
    · exact W.vret hx hb hr (fun t9 ht hW => ⟨⟨[(o, .inr (7, [.int 1, .int (nI n), .ref dT, .ref gT, .int (nI ns), .ref la, .ref ca, .int (nI nn), .ref aa, .ref na, .ref ya, .int (nI nr), .ref ta, .int be, .int bp, .long bo, .int bm])), (dT, .inl (cI, 64, .inl d)), (gT, .inl (cZ, 64, .inl g)), (la, .inl (cI, 8, .inl sl)), (ca, .inl (cI, 128, .inl cr)), (aa, .inl (cI, 16, .inl ak)), (na, .inl (cI, 16, .inl no)), (ya, .inl (cI, 16, .inl ye)), (ta, .inl (cI, 48, .inl tl))], rfl, (by dsimp only; unfold crC; (first | rw [cc_1 c_14] | rw [cc_2 c_32] | rw [cc_3 c_14 c_32 c_48]) <;> rfl), by rw [ht]; exact hP, va_K.moved hW.alike hK, hD⟩, hS.F ht⟩) hS.2.2 d_T_carve_78
    · exact absurd c_63 (by decide)
  · refine lv_iload_n hx hb d_T_carve_17 rfl (lv_at hl 2 rfl) ?_
    refine lv_i2l (v := k9.toInt64) hx hb d_T_carve_18 rfl ?_
    refine lv_lconst (v := 0) hx hb d_T_carve_19 (by decide) ?_
    refine lv_aload_n hx hb d_T_carve_20 rfl (lv_at hl 0 rfl) ?_
    refine va_get (D := D) (ci := 7) (v := .ref la) (C := Q_T) (T := F_T) (N := 17) hx hb hg in_T hown hK hP 0 rfl rfl 5 (by decide) (hg _ g_644) (fun _ h9 => h9) rfl d_T_carve_21 ?_
    refine lv_iload_n hx hb d_T_carve_24 rfl (lv_at hl 1 rfl) ?_
    refine va_iald hx hb hK hP 3 0 rfl rfl (v8s hns c_14) d_T_carve_25 ?_
    refine lv_iconst (v := 1) hx hb d_T_carve_26 (by decide) ?_
    refine lv_isub hx hb d_T_carve_27 ?_
    refine lv_i2l (v := ((sl s9.toNatClampNeg) - 1).toInt64) hx hb d_T_carve_28 rfl ?_
    refine vp_callSi (va_Run.run (va_runS (As := [.long k9.toInt64, .long 0, .long (((sl s9.toNatClampNeg) - 1).toInt64)]) (rest := [.ref o]) ⟨hx, hb, hml, hown, hg⟩ (c_T_isIn_ok l D cI cZ cJ cO k9.toInt64 0 (((sl s9.toNatClampNeg) - 1).toInt64)) (va_cwS 3 hg (gs2 g_703 g_704 g_26 g_705) rfl rfl rfl (by decide +kernel) ⟨Nat.le_of_ble_eq_true rfl, Nat.le_of_ble_eq_true rfl⟩) (pS ba_nil hK hN) rfl rfl hl.1 rfl (lv_room (Nat.le_of_ble_eq_true rfl)) d_T_carve_29 ⟨Nat.zero_le _, Nat.zero_le _⟩)) (fun r_2 hr_2 => ?_)
    subst hr_2
    rw [lw_c (v := k9) (lo := 0) (hi := ((sl s9.toNatClampNeg) - 1)) (by decide) rfl]
    refine lv_if_ne (tgt := 39) hx hb d_T_carve_32 (by decide) (fun c_32 => ?_) (fun c_32 => ?_)
    · refine lv_iload_n hx hb d_T_carve_39 rfl (lv_at hl 3 rfl) ?_
      refine lv_i2l (v := v9.toInt64) hx hb d_T_carve_40 rfl ?_
      refine lv_lconst (v := 0) hx hb d_T_carve_41 (by decide) ?_
      refine lv_ldc2 (v := 255) hx hb hown (hg _ g_707) d_T_carve_42 ?_
      refine vp_callSi (va_Run.run (va_runS (As := [.long v9.toInt64, .long 0, .long 255]) (rest := [.ref o]) ⟨hx, hb, hml, hown, hg⟩ (c_T_isIn_ok l D cI cZ cJ cO v9.toInt64 0 255) (va_cwS 3 hg (gs2 g_703 g_704 g_26 g_705) rfl rfl rfl (by decide +kernel) ⟨Nat.le_of_ble_eq_true rfl, Nat.le_of_ble_eq_true rfl⟩) (pS ba_nil hK hN) rfl rfl hl.1 rfl (lv_room (Nat.le_of_ble_eq_true rfl)) d_T_carve_45 ⟨Nat.zero_le _, Nat.zero_le _⟩)) (fun r_3 hr_3 => ?_)
      subst hr_3
      rw [lw_c (v := v9) (lo := 0) (hi := 255) (by decide) (by decide)]
      refine lv_if_ne (tgt := 55) hx hb d_T_carve_48 (by decide) (fun c_48 => ?_) (fun c_48 => ?_)
      · obtain ⟨S, hS1, rfl⟩ := iwN (by omega) c_14
        obtain ⟨K, hK1, hK2, rfl⟩ := iwL (by rw [nI_clamp (by omega)]; exact hsl S hS1) c_32
        refine lv_iconst (v := 0) hx hb d_T_carve_55 (by decide) ?_
        refine va_put (D := D) (ci := 7) (v := .int 0) (ty := .int) (C := Q_T) (T := F_T) (N := 17) hx hb hg in_T tq_T tq_T_ok n_T hown hK hP hD hS 0 rfl rfl 0 (by decide) (hg _ g_639) (fun _ h9 => h9) rfl (by decide +kernel) rfl rfl (Nat.le_of_ble_eq_true rfl) d_T_carve_56 (fun H locs hP hD hS => ?_)
        have hP : va_P D cls [(o, .inr (7, [.int 0, .int (nI n), .ref dT, .ref gT, .int (nI ns), .ref la, .ref ca, .int (nI nn), .ref aa, .ref na, .ref ya, .int (nI nr), .ref ta, .int be, .int bp, .long bo, .int bm])), (dT, .inl (cI, 64, .inl d)), (gT, .inl (cZ, 64, .inl g)), (la, .inl (cI, 8, .inl sl)), (ca, .inl (cI, 128, .inl cr)), (aa, .inl (cI, 16, .inl ak)), (na, .inl (cI, 16, .inl no)), (ya, .inl (cI, 16, .inl ye)), (ta, .inl (cI, 48, .inl tl))] H := hP
        have hD : va_D A [(o, .inr (7, [.int 0, .int (nI n), .ref dT, .ref gT, .int (nI ns), .ref la, .ref ca, .int (nI nn), .ref aa, .ref na, .ref ya, .int (nI nr), .ref ta, .int be, .int bp, .long bo, .int bm])), (dT, .inl (cI, 64, .inl d)), (gT, .inl (cZ, 64, .inl g)), (la, .inl (cI, 8, .inl sl)), (ca, .inl (cI, 128, .inl cr)), (aa, .inl (cI, 16, .inl ak)), (na, .inl (cI, 16, .inl no)), (ya, .inl (cI, 16, .inl ye)), (ta, .inl (cI, 48, .inl tl))] := hD
        refine lv_aload_n hx hb d_T_carve_59 rfl (lv_at hl 0 rfl) ?_
        refine va_get (D := D) (ci := 7) (v := .int 0) (C := Q_T) (T := F_T) (N := 17) hx hb hg in_T hown hK hP 0 rfl rfl 0 (by decide) (hg _ g_639) (fun _ h9 => h9) rfl d_T_carve_60 ?_
        refine lv_if_ne (tgt := 78) hx hb d_T_carve_63 (by decide) (fun c_63 => ?_) (fun c_63 => ?_)
        · exact absurd c_63 (by decide)
        · refine lv_aload_n hx hb d_T_carve_66 rfl (lv_at hl 0 rfl) ?_
          refine va_get (D := D) (ci := 7) (v := .ref ca) (C := Q_T) (T := F_T) (N := 17) hx hb hg in_T hown hK hP 0 rfl rfl 6 (by decide) (hg _ g_645) (fun _ h9 => h9) rfl d_T_carve_67 ?_
          refine lv_bipush (v := 16) hx hb d_T_carve_70 (by decide) ?_
          refine lv_iload_n hx hb d_T_carve_72 rfl (lv_at hl 1 rfl) ?_
          refine lv_imul hx hb d_T_carve_73 ?_
          refine lv_iload_n hx hb d_T_carve_74 rfl (lv_at hl 2 rfl) ?_
          refine lv_iadd hx hb d_T_carve_75 ?_
          refine lv_iload_n hx hb d_T_carve_76 rfl (lv_at hl 3 rfl) ?_
          refine va_iast hx hb hK hP hD hS 4 0 rfl rfl (v128 (by omega) hK1) d_T_carve_77 (fun H locs hP hD hS => ?_)
          have hP : va_P D cls [(o, .inr (7, [.int 0, .int (nI n), .ref dT, .ref gT, .int (nI ns), .ref la, .ref ca, .int (nI nn), .ref aa, .ref na, .ref ya, .int (nI nr), .ref ta, .int be, .int bp, .long bo, .int bm])), (dT, .inl (cI, 64, .inl d)), (gT, .inl (cZ, 64, .inl g)), (la, .inl (cI, 8, .inl sl)), (ca, .inl (cI, 128, .inl (upd cr ((16 * (nI S)) + (nI K)).toNatClampNeg v9))), (aa, .inl (cI, 16, .inl ak)), (na, .inl (cI, 16, .inl no)), (ya, .inl (cI, 16, .inl ye)), (ta, .inl (cI, 48, .inl tl))] H := hP
          have hD : va_D A [(o, .inr (7, [.int 0, .int (nI n), .ref dT, .ref gT, .int (nI ns), .ref la, .ref ca, .int (nI nn), .ref aa, .ref na, .ref ya, .int (nI nr), .ref ta, .int be, .int bp, .long bo, .int bm])), (dT, .inl (cI, 64, .inl d)), (gT, .inl (cZ, 64, .inl g)), (la, .inl (cI, 8, .inl sl)), (ca, .inl (cI, 128, .inl (upd cr ((16 * (nI S)) + (nI K)).toNatClampNeg v9))), (aa, .inl (cI, 16, .inl ak)), (na, .inl (cI, 16, .inl no)), (ya, .inl (cI, 16, .inl ye)), (ta, .inl (cI, 48, .inl tl))] := hD
          exact W.vret hx hb hr (fun t9 ht hW => ⟨⟨[(o, .inr (7, [.int 0, .int (nI n), .ref dT, .ref gT, .int (nI ns), .ref la, .ref ca, .int (nI nn), .ref aa, .ref na, .ref ya, .int (nI nr), .ref ta, .int be, .int bp, .long bo, .int bm])), (dT, .inl (cI, 64, .inl d)), (gT, .inl (cZ, 64, .inl g)), (la, .inl (cI, 8, .inl sl)), (ca, .inl (cI, 128, .inl (upd cr ((16 * (nI S)) + (nI K)).toNatClampNeg v9))), (aa, .inl (cI, 16, .inl ak)), (na, .inl (cI, 16, .inl no)), (ya, .inl (cI, 16, .inl ye)), (ta, .inl (cI, 48, .inl tl))], rfl, (by dsimp only; unfold crC; rw [cc_0 c_14 c_32 c_48, if_pos rfl, nI_clamp (show S < 2 ^ 31 by omega), nI_clamp (show K < 2 ^ 31 by omega), c128 (show S < 8 by omega) hK1]), by rw [ht]; exact hP, va_K.moved hW.alike hK, hD⟩, hS.F ht⟩) hS.2.2 d_T_carve_78
      · refine lv_iconst (v := 2) hx hb d_T_carve_51 (by decide) ?_
        refine lv_goto (tgt := 56) hx hb d_T_carve_52 (by decide) ?_
        refine va_put (D := D) (ci := 7) (v := .int 2) (ty := .int) (C := Q_T) (T := F_T) (N := 17) hx hb hg in_T tq_T tq_T_ok n_T hown hK hP hD hS 0 rfl rfl 0 (by decide) (hg _ g_639) (fun _ h9 => h9) rfl (by decide +kernel) rfl rfl (Nat.le_of_ble_eq_true rfl) d_T_carve_56 (fun H locs hP hD hS => ?_)
        have hP : va_P D cls [(o, .inr (7, [.int 2, .int (nI n), .ref dT, .ref gT, .int (nI ns), .ref la, .ref ca, .int (nI nn), .ref aa, .ref na, .ref ya, .int (nI nr), .ref ta, .int be, .int bp, .long bo, .int bm])), (dT, .inl (cI, 64, .inl d)), (gT, .inl (cZ, 64, .inl g)), (la, .inl (cI, 8, .inl sl)), (ca, .inl (cI, 128, .inl cr)), (aa, .inl (cI, 16, .inl ak)), (na, .inl (cI, 16, .inl no)), (ya, .inl (cI, 16, .inl ye)), (ta, .inl (cI, 48, .inl tl))] H := hP
        have hD : va_D A [(o, .inr (7, [.int 2, .int (nI n), .ref dT, .ref gT, .int (nI ns), .ref la, .ref ca, .int (nI nn), .ref aa, .ref na, .ref ya, .int (nI nr), .ref ta, .int be, .int bp, .long bo, .int bm])), (dT, .inl (cI, 64, .inl d)), (gT, .inl (cZ, 64, .inl g)), (la, .inl (cI, 8, .inl sl)), (ca, .inl (cI, 128, .inl cr)), (aa, .inl (cI, 16, .inl ak)), (na, .inl (cI, 16, .inl no)), (ya, .inl (cI, 16, .inl ye)), (ta, .inl (cI, 48, .inl tl))] := hD
        refine lv_aload_n hx hb d_T_carve_59 rfl (lv_at hl 0 rfl) ?_
        refine va_get (D := D) (ci := 7) (v := .int 2) (C := Q_T) (T := F_T) (N := 17) hx hb hg in_T hown hK hP 0 rfl rfl 0 (by decide) (hg _ g_639) (fun _ h9 => h9) rfl d_T_carve_60 ?_
        refine lv_if_ne (tgt := 78) hx hb d_T_carve_63 (by decide) (fun c_63 => ?_) (fun c_63 => ?_)
        · exact W.vret hx hb hr (fun t9 ht hW => ⟨⟨[(o, .inr (7, [.int 2, .int (nI n), .ref dT, .ref gT, .int (nI ns), .ref la, .ref ca, .int (nI nn), .ref aa, .ref na, .ref ya, .int (nI nr), .ref ta, .int be, .int bp, .long bo, .int bm])), (dT, .inl (cI, 64, .inl d)), (gT, .inl (cZ, 64, .inl g)), (la, .inl (cI, 8, .inl sl)), (ca, .inl (cI, 128, .inl cr)), (aa, .inl (cI, 16, .inl ak)), (na, .inl (cI, 16, .inl no)), (ya, .inl (cI, 16, .inl ye)), (ta, .inl (cI, 48, .inl tl))], rfl, (by dsimp only; unfold crC; (first | rw [cc_1 c_14] | rw [cc_2 c_32] | rw [cc_3 c_14 c_32 c_48]) <;> rfl), by rw [ht]; exact hP, va_K.moved hW.alike hK, hD⟩, hS.F ht⟩) hS.2.2 d_T_carve_78
        · exact absurd c_63 (by decide)
    · refine lv_iconst (v := 1) hx hb d_T_carve_35 (by decide) ?_
      refine lv_goto (tgt := 56) hx hb d_T_carve_36 (by decide) ?_
      refine va_put (D := D) (ci := 7) (v := .int 1) (ty := .int) (C := Q_T) (T := F_T) (N := 17) hx hb hg in_T tq_T tq_T_ok n_T hown hK hP hD hS 0 rfl rfl 0 (by decide) (hg _ g_639) (fun _ h9 => h9) rfl (by decide +kernel) rfl rfl (Nat.le_of_ble_eq_true rfl) d_T_carve_56 (fun H locs hP hD hS => ?_)
      have hP : va_P D cls [(o, .inr (7, [.int 1, .int (nI n), .ref dT, .ref gT, .int (nI ns), .ref la, .ref ca, .int (nI nn), .ref aa, .ref na, .ref ya, .int (nI nr), .ref ta, .int be, .int bp, .long bo, .int bm])), (dT, .inl (cI, 64, .inl d)), (gT, .inl (cZ, 64, .inl g)), (la, .inl (cI, 8, .inl sl)), (ca, .inl (cI, 128, .inl cr)), (aa, .inl (cI, 16, .inl ak)), (na, .inl (cI, 16, .inl no)), (ya, .inl (cI, 16, .inl ye)), (ta, .inl (cI, 48, .inl tl))] H := hP
      have hD : va_D A [(o, .inr (7, [.int 1, .int (nI n), .ref dT, .ref gT, .int (nI ns), .ref la, .ref ca, .int (nI nn), .ref aa, .ref na, .ref ya, .int (nI nr), .ref ta, .int be, .int bp, .long bo, .int bm])), (dT, .inl (cI, 64, .inl d)), (gT, .inl (cZ, 64, .inl g)), (la, .inl (cI, 8, .inl sl)), (ca, .inl (cI, 128, .inl cr)), (aa, .inl (cI, 16, .inl ak)), (na, .inl (cI, 16, .inl no)), (ya, .inl (cI, 16, .inl ye)), (ta, .inl (cI, 48, .inl tl))] := hD
      refine lv_aload_n hx hb d_T_carve_59 rfl (lv_at hl 0 rfl) ?_
      refine va_get (D := D) (ci := 7) (v := .int 1) (C := Q_T) (T := F_T) (N := 17) hx hb hg in_T hown hK hP 0 rfl rfl 0 (by decide) (hg _ g_639) (fun _ h9 => h9) rfl d_T_carve_60 ?_
      refine lv_if_ne (tgt := 78) hx hb d_T_carve_63 (by decide) (fun c_63 => ?_) (fun c_63 => ?_)
      · exact W.vret hx hb hr (fun t9 ht hW => ⟨⟨[(o, .inr (7, [.int 1, .int (nI n), .ref dT, .ref gT, .int (nI ns), .ref la, .ref ca, .int (nI nn), .ref aa, .ref na, .ref ya, .int (nI nr), .ref ta, .int be, .int bp, .long bo, .int bm])), (dT, .inl (cI, 64, .inl d)), (gT, .inl (cZ, 64, .inl g)), (la, .inl (cI, 8, .inl sl)), (ca, .inl (cI, 128, .inl cr)), (aa, .inl (cI, 16, .inl ak)), (na, .inl (cI, 16, .inl no)), (ya, .inl (cI, 16, .inl ye)), (ta, .inl (cI, 48, .inl tl))], rfl, (by dsimp only; unfold crC; (first | rw [cc_1 c_14] | rw [cc_2 c_32] | rw [cc_3 c_14 c_32 c_48]) <;> rfl), by rw [ht]; exact hP, va_K.moved hW.alike hK, hD⟩, hS.F ht⟩) hS.2.2 d_T_carve_78
      · exact absurd c_63 (by decide)

set_option maxHeartbeats 4000000 in
set_option maxRecDepth 100000 in
/-- the reference: kind(k) -/
theorem c_T_kind_ok (l : Launch) (D : va_G) (cI cZ cJ cO : ClassId) (sz : Nat) (o dT gT la ca aa na ya ta : Nat) (n ns nn nr : Nat) (d g sl cr ak no ye tl : Nat → Int32) (th be bp bm : Int32) (bo : Int64) (h4 : 4 ≤ n) (h64 : n ≤ 64) (hd : dOK n d) (k9 : Int32) (hnn : nn ≤ 16) : Met l y_T_kind (wq y_T_kind c_T_kind 2 (some .int)) ({ frames := 1, cells := 0, slots := 0, locals := 25 }) (mP D (TY cI cZ cJ cO) [(o, .inr (7, [.int th, .int (nI n), .ref dT, .ref gT, .int (nI ns), .ref la, .ref ca, .int (nI nn), .ref aa, .ref na, .ref ya, .int (nI nr), .ref ta, .int be, .int bp, .long bo, .int bm])), (dT, .inl (cI, 64, .inl d)), (gT, .inl (cZ, 64, .inl g)), (la, .inl (cI, 8, .inl sl)), (ca, .inl (cI, 128, .inl cr)), (aa, .inl (cI, 16, .inl ak)), (na, .inl (cI, 16, .inl no)), (ya, .inl (cI, 16, .inl ye)), (ta, .inl (cI, 48, .inl tl))] [.ref o, .int k9] sz) (va_Qi (fun (r : Int32) (u : va_W) => ((cKin k9 nn = 0 ∧ u = [(o, .inr (7, [.int 0, .int (nI n), .ref dT, .ref gT, .int (nI ns), .ref la, .ref ca, .int (nI (nn + 1)), .ref aa, .ref na, .ref ya, .int (nI nr), .ref ta, .int be, .int bp, .long bo, .int bm])), (dT, .inl (cI, 64, .inl d)), (gT, .inl (cZ, 64, .inl g)), (la, .inl (cI, 8, .inl sl)), (ca, .inl (cI, 128, .inl cr)), (aa, .inl (cI, 16, .inl (upd ak nn k9))), (na, .inl (cI, 16, .inl no)), (ya, .inl (cI, 16, .inl ye)), (ta, .inl (cI, 48, .inl tl))] ∧ r = nI nn) ∨ (¬ cKin k9 nn = 0 ∧ u = [(o, .inr (7, [.int (cKin k9 nn), .int (nI n), .ref dT, .ref gT, .int (nI ns), .ref la, .ref ca, .int (nI nn), .ref aa, .ref na, .ref ya, .int (nI nr), .ref ta, .int be, .int bp, .long bo, .int bm])), (dT, .inl (cI, 64, .inl d)), (gT, .inl (cZ, 64, .inl g)), (la, .inl (cI, 8, .inl sl)), (ca, .inl (cI, 128, .inl cr)), (aa, .inl (cI, 16, .inl ak)), (na, .inl (cI, 16, .inl no)), (ya, .inl (cI, 16, .inl ye)), (ta, .inl (cI, 48, .inl tl))]))) (mB D (TY cI cZ cJ cO) (va_A [(o, .inr (7, [.int th, .int (nI n), .ref dT, .ref gT, .int (nI ns), .ref la, .ref ca, .int (nI nn), .ref aa, .ref na, .ref ya, .int (nI nr), .ref ta, .int be, .int bp, .long bo, .int bm])), (dT, .inl (cI, 64, .inl d)), (gT, .inl (cZ, 64, .inl g)), (la, .inl (cI, 8, .inl sl)), (ca, .inl (cI, 128, .inl cr)), (aa, .inl (cI, 16, .inl ak)), (na, .inl (cI, 16, .inl no)), (ya, .inl (cI, 16, .inl ye)), (ta, .inl (cI, 48, .inl tl))] sz)) (va_A [(o, .inr (7, [.int th, .int (nI n), .ref dT, .ref gT, .int (nI ns), .ref la, .ref ca, .int (nI nn), .ref aa, .ref na, .ref ya, .int (nI nr), .ref ta, .int be, .int bp, .long bo, .int bm])), (dT, .inl (cI, 64, .inl d)), (gT, .inl (cZ, 64, .inl g)), (la, .inl (cI, 8, .inl sl)), (ca, .inl (cI, 128, .inl cr)), (aa, .inl (cI, 16, .inl ak)), (na, .inl (cI, 16, .inl no)), (ya, .inl (cI, 16, .inl ye)), (ta, .inl (cI, 48, .inl tl))] sz)) 0 0 (va_A [(o, .inr (7, [.int th, .int (nI n), .ref dT, .ref gT, .int (nI ns), .ref la, .ref ca, .int (nI nn), .ref aa, .ref na, .ref ya, .int (nI nr), .ref ta, .int be, .int bp, .long bo, .int bm])), (dT, .inl (cI, 64, .inl d)), (gT, .inl (cZ, 64, .inl g)), (la, .inl (cI, 8, .inl sl)), (ca, .inl (cI, 128, .inl cr)), (aa, .inl (cI, 16, .inl ak)), (na, .inl (cI, 16, .inl no)), (ya, .inl (cI, 16, .inl ye)), (ta, .inl (cI, 48, .inl tl))] sz) := by
  refine Met.ofW (cc := c_T_kind) (maxL := 2) (ret := (some .int)) (by decide) rfl ?_
  intro p e s m args below meth c s₁ B hml hv
  obtain ⟨rfl, hsz, hP, hK, hD0, hN⟩ := hv
  have hx := B.exec
  have hb := B.bytes
  have hr := B.returns
  have hg := gt_h (atoms_spec (ws := (wq y_T_kind c_T_kind 2 (some .int))) B.pre)
  have hown : s.vm.findClass "RubbingMirrorsModel" = some m.cls := findClass_of_methodNamed B.named
  have hlocks := B.notSynchronized
  subst hsz
  have hD := hD0.self (sz := s.heap.size)
  generalize hAe : va_A [(o, .inr (7, [.int th, .int (nI n), .ref dT, .ref gT, .int (nI ns), .ref la, .ref ca, .int (nI nn), .ref aa, .ref na, .ref ya, .int (nI nr), .ref ta, .int be, .int bp, .long bo, .int bm])), (dT, .inl (cI, 64, .inl d)), (gT, .inl (cZ, 64, .inl g)), (la, .inl (cI, 8, .inl sl)), (ca, .inl (cI, 128, .inl cr)), (aa, .inl (cI, 16, .inl ak)), (na, .inl (cI, 16, .inl no)), (ya, .inl (cI, 16, .inl ye)), (ta, .inl (cI, 48, .inl tl))] s.heap.size = A at hD ⊢
  have hA : ∀ q : Nat, s.heap.size ≤ q → A q := fun q h => by rw [← hAe]; exact Or.inr h
  have hS : va_S A s.heap s.heap [] := va_S.rf
  have hl := lv_entry ([.ref o, .int k9]) (n := 2) (Nat.le_of_ble_eq_true rfl)
  rw [lg_entry_eq]
  generalize (lg_sl ([.ref o, .int k9]) ++ List.replicate (2 - (lg_sl ([.ref o, .int k9])).length) Slot.unset).toArray = ls at hl ⊢
  have hl : lv_has ls 2 [(0, .ref o), (1, .int k9)] := hl
  refine lv_aload_n hx hb d_T_kind_0 rfl (lv_at hl 0 rfl) ?_
  refine lv_iload_n hx hb d_T_kind_1 rfl (lv_at hl 1 rfl) ?_
  refine lv_i2l (v := k9.toInt64) hx hb d_T_kind_2 rfl ?_
  refine lv_lconst (v := 0) hx hb d_T_kind_3 (by decide) ?_
  refine lv_ldc2 (v := 1000) hx hb hown (hg _ g_775) d_T_kind_4 ?_
  refine vp_callSi (va_Run.run (va_runS (As := [.long k9.toInt64, .long 0, .long 1000]) (rest := [.ref o]) ⟨hx, hb, hml, hown, hg⟩ (c_T_isIn_ok l D cI cZ cJ cO k9.toInt64 0 1000) (va_cwS 3 hg (gs2 g_703 g_704 g_26 g_705) rfl rfl rfl (by decide +kernel) ⟨Nat.le_of_ble_eq_true rfl, Nat.le_of_ble_eq_true rfl⟩) (pS ba_nil hK hN) rfl rfl hl.1 rfl (lv_room (Nat.le_of_ble_eq_true rfl)) d_T_kind_7 ⟨Nat.zero_le _, Nat.zero_le _⟩)) (fun r_1 hr_1 => ?_)
  subst hr_1
  rw [lw_c (v := k9) (lo := 0) (hi := 1000) (by decide) (by decide)]
  refine lv_if_ne (tgt := 17) hx hb d_T_kind_10 (by decide) (fun c_10 => ?_) (fun c_10 => ?_)
  · refine lv_aload_n hx hb d_T_kind_17 rfl (lv_at hl 0 rfl) ?_
    refine va_get (D := D) (ci := 7) (v := .int (nI nn)) (C := Q_T) (T := F_T) (N := 17) hx hb hg in_T hown hK hP 0 rfl rfl 7 (by decide) (hg _ g_646) (fun _ h9 => h9) rfl d_T_kind_18 ?_
    refine lv_bipush (v := 16) hx hb d_T_kind_21 (by decide) ?_
    refine lv_icmp_ne (tgt := 30) hx hb d_T_kind_23 (by decide) (fun c_23 => ?_) (fun c_23 => ?_)
    · refine lv_iconst (v := 0) hx hb d_T_kind_30 (by decide) ?_
      refine va_put (D := D) (ci := 7) (v := .int 0) (ty := .int) (C := Q_T) (T := F_T) (N := 17) hx hb hg in_T tq_T tq_T_ok n_T hown hK hP hD hS 0 rfl rfl 0 (by decide) (hg _ g_639) (fun _ h9 => h9) rfl (by decide +kernel) rfl rfl (Nat.le_of_ble_eq_true rfl) d_T_kind_31 (fun H locs hP hD hS => ?_)
      have hP : va_P D cls [(o, .inr (7, [.int 0, .int (nI n), .ref dT, .ref gT, .int (nI ns), .ref la, .ref ca, .int (nI nn), .ref aa, .ref na, .ref ya, .int (nI nr), .ref ta, .int be, .int bp, .long bo, .int bm])), (dT, .inl (cI, 64, .inl d)), (gT, .inl (cZ, 64, .inl g)), (la, .inl (cI, 8, .inl sl)), (ca, .inl (cI, 128, .inl cr)), (aa, .inl (cI, 16, .inl ak)), (na, .inl (cI, 16, .inl no)), (ya, .inl (cI, 16, .inl ye)), (ta, .inl (cI, 48, .inl tl))] H := hP
      have hD : va_D A [(o, .inr (7, [.int 0, .int (nI n), .ref dT, .ref gT, .int (nI ns), .ref la, .ref ca, .int (nI nn), .ref aa, .ref na, .ref ya, .int (nI nr), .ref ta, .int be, .int bp, .long bo, .int bm])), (dT, .inl (cI, 64, .inl d)), (gT, .inl (cZ, 64, .inl g)), (la, .inl (cI, 8, .inl sl)), (ca, .inl (cI, 128, .inl cr)), (aa, .inl (cI, 16, .inl ak)), (na, .inl (cI, 16, .inl no)), (ya, .inl (cI, 16, .inl ye)), (ta, .inl (cI, 48, .inl tl))] := hD
      refine lv_aload_n hx hb d_T_kind_34 rfl (lv_at hl 0 rfl) ?_
      refine va_get (D := D) (ci := 7) (v := .int 0) (C := Q_T) (T := F_T) (N := 17) hx hb hg in_T hown hK hP 0 rfl rfl 0 (by decide) (hg _ g_639) (fun _ h9 => h9) rfl d_T_kind_35 ?_
      refine lv_if_le (tgt := 43) hx hb d_T_kind_38 (by decide) (fun c_38 => ?_) (fun c_38 => ?_)
      · refine lv_aload_n hx hb d_T_kind_43 rfl (lv_at hl 0 rfl) ?_
        refine va_get (D := D) (ci := 7) (v := .ref aa) (C := Q_T) (T := F_T) (N := 17) hx hb hg in_T hown hK hP 0 rfl rfl 8 (by decide) (hg _ g_647) (fun _ h9 => h9) rfl d_T_kind_44 ?_
        refine lv_aload_n hx hb d_T_kind_47 rfl (lv_at hl 0 rfl) ?_
        refine va_get (D := D) (ci := 7) (v := .int (nI nn)) (C := Q_T) (T := F_T) (N := 17) hx hb hg in_T hown hK hP 0 rfl rfl 7 (by decide) (hg _ g_646) (fun _ h9 => h9) rfl d_T_kind_48 ?_
        refine lv_iload_n hx hb d_T_kind_51 rfl (lv_at hl 1 rfl) ?_
        refine va_iast hx hb hK hP hD hS 5 0 rfl rfl (v16 (nn16 hnn c_23)) d_T_kind_52 (fun H locs hP hD hS => ?_)
        rw [nI_clamp (show nn < 2 ^ 31 by omega)] at hP hD
        have hP : va_P D cls [(o, .inr (7, [.int 0, .int (nI n), .ref dT, .ref gT, .int (nI ns), .ref la, .ref ca, .int (nI nn), .ref aa, .ref na, .ref ya, .int (nI nr), .ref ta, .int be, .int bp, .long bo, .int bm])), (dT, .inl (cI, 64, .inl d)), (gT, .inl (cZ, 64, .inl g)), (la, .inl (cI, 8, .inl sl)), (ca, .inl (cI, 128, .inl cr)), (aa, .inl (cI, 16, .inl (upd ak nn k9))), (na, .inl (cI, 16, .inl no)), (ya, .inl (cI, 16, .inl ye)), (ta, .inl (cI, 48, .inl tl))] H := hP
        have hD : va_D A [(o, .inr (7, [.int 0, .int (nI n), .ref dT, .ref gT, .int (nI ns), .ref la, .ref ca, .int (nI nn), .ref aa, .ref na, .ref ya, .int (nI nr), .ref ta, .int be, .int bp, .long bo, .int bm])), (dT, .inl (cI, 64, .inl d)), (gT, .inl (cZ, 64, .inl g)), (la, .inl (cI, 8, .inl sl)), (ca, .inl (cI, 128, .inl cr)), (aa, .inl (cI, 16, .inl (upd ak nn k9))), (na, .inl (cI, 16, .inl no)), (ya, .inl (cI, 16, .inl ye)), (ta, .inl (cI, 48, .inl tl))] := hD
        refine lv_aload_n hx hb d_T_kind_53 rfl (lv_at hl 0 rfl) ?_
        refine lv_dup hx hb d_T_kind_54 rfl ?_
        refine va_get (D := D) (ci := 7) (v := .int (nI nn)) (C := Q_T) (T := F_T) (N := 17) hx hb hg in_T hown hK hP 0 rfl rfl 7 (by decide) (hg _ g_646) (fun _ h9 => h9) rfl d_T_kind_55 ?_
        refine lv_iconst (v := 1) hx hb d_T_kind_58 (by decide) ?_
        refine lv_iadd hx hb d_T_kind_59 ?_
        refine va_put (D := D) (ci := 7) (v := .int ((nI nn) + 1)) (ty := .int) (C := Q_T) (T := F_T) (N := 17) hx hb hg in_T tq_T tq_T_ok n_T hown hK hP hD hS 0 rfl rfl 7 (by decide) (hg _ g_646) (fun _ h9 => h9) rfl (by decide +kernel) rfl rfl (Nat.le_of_ble_eq_true rfl) d_T_kind_60 (fun H locs hP hD hS => ?_)
        have hP : va_P D cls [(o, .inr (7, [.int 0, .int (nI n), .ref dT, .ref gT, .int (nI ns), .ref la, .ref ca, .int ((nI nn) + 1), .ref aa, .ref na, .ref ya, .int (nI nr), .ref ta, .int be, .int bp, .long bo, .int bm])), (dT, .inl (cI, 64, .inl d)), (gT, .inl (cZ, 64, .inl g)), (la, .inl (cI, 8, .inl sl)), (ca, .inl (cI, 128, .inl cr)), (aa, .inl (cI, 16, .inl (upd ak nn k9))), (na, .inl (cI, 16, .inl no)), (ya, .inl (cI, 16, .inl ye)), (ta, .inl (cI, 48, .inl tl))] H := hP
        have hD : va_D A [(o, .inr (7, [.int 0, .int (nI n), .ref dT, .ref gT, .int (nI ns), .ref la, .ref ca, .int ((nI nn) + 1), .ref aa, .ref na, .ref ya, .int (nI nr), .ref ta, .int be, .int bp, .long bo, .int bm])), (dT, .inl (cI, 64, .inl d)), (gT, .inl (cZ, 64, .inl g)), (la, .inl (cI, 8, .inl sl)), (ca, .inl (cI, 128, .inl cr)), (aa, .inl (cI, 16, .inl (upd ak nn k9))), (na, .inl (cI, 16, .inl no)), (ya, .inl (cI, 16, .inl ye)), (ta, .inl (cI, 48, .inl tl))] := hD
        refine lv_aload_n hx hb d_T_kind_63 rfl (lv_at hl 0 rfl) ?_
        refine va_get (D := D) (ci := 7) (v := .int ((nI nn) + 1)) (C := Q_T) (T := F_T) (N := 17) hx hb hg in_T hown hK hP 0 rfl rfl 7 (by decide) (hg _ g_646) (fun _ h9 => h9) rfl d_T_kind_64 ?_
        refine lv_iconst (v := 1) hx hb d_T_kind_67 (by decide) ?_
        refine lv_isub hx hb d_T_kind_68 ?_
        exact W.iret hx hb hr (fun t9 ht hW => ⟨⟨_, [(o, .inr (7, [.int 0, .int (nI n), .ref dT, .ref gT, .int (nI ns), .ref la, .ref ca, .int ((nI nn) + 1), .ref aa, .ref na, .ref ya, .int (nI nr), .ref ta, .int be, .int bp, .long bo, .int bm])), (dT, .inl (cI, 64, .inl d)), (gT, .inl (cZ, 64, .inl g)), (la, .inl (cI, 8, .inl sl)), (ca, .inl (cI, 128, .inl cr)), (aa, .inl (cI, 16, .inl (upd ak nn k9))), (na, .inl (cI, 16, .inl no)), (ya, .inl (cI, 16, .inl ye)), (ta, .inl (cI, 48, .inl tl))], rfl, Or.inl ⟨ck_0 c_10 c_23, by rw [← nI_1], nI_1m nn⟩, by rw [ht]; exact hP, va_K.moved hW.alike hK, hD⟩, hS.F ht⟩) hS.2.2 d_T_kind_69
      · exact absurd c_38 (by decide)
    · refine lv_iconst (v := 2) hx hb d_T_kind_26 (by decide) ?_
      refine lv_goto (tgt := 31) hx hb d_T_kind_27 (by decide) ?_
      refine va_put (D := D) (ci := 7) (v := .int 2) (ty := .int) (C := Q_T) (T := F_T) (N := 17) hx hb hg in_T tq_T tq_T_ok n_T hown hK hP hD hS 0 rfl rfl 0 (by decide) (hg _ g_639) (fun _ h9 => h9) rfl (by decide +kernel) rfl rfl (Nat.le_of_ble_eq_true rfl) d_T_kind_31 (fun H locs hP hD hS => ?_)
      have hP : va_P D cls [(o, .inr (7, [.int 2, .int (nI n), .ref dT, .ref gT, .int (nI ns), .ref la, .ref ca, .int (nI nn), .ref aa, .ref na, .ref ya, .int (nI nr), .ref ta, .int be, .int bp, .long bo, .int bm])), (dT, .inl (cI, 64, .inl d)), (gT, .inl (cZ, 64, .inl g)), (la, .inl (cI, 8, .inl sl)), (ca, .inl (cI, 128, .inl cr)), (aa, .inl (cI, 16, .inl ak)), (na, .inl (cI, 16, .inl no)), (ya, .inl (cI, 16, .inl ye)), (ta, .inl (cI, 48, .inl tl))] H := hP
      have hD : va_D A [(o, .inr (7, [.int 2, .int (nI n), .ref dT, .ref gT, .int (nI ns), .ref la, .ref ca, .int (nI nn), .ref aa, .ref na, .ref ya, .int (nI nr), .ref ta, .int be, .int bp, .long bo, .int bm])), (dT, .inl (cI, 64, .inl d)), (gT, .inl (cZ, 64, .inl g)), (la, .inl (cI, 8, .inl sl)), (ca, .inl (cI, 128, .inl cr)), (aa, .inl (cI, 16, .inl ak)), (na, .inl (cI, 16, .inl no)), (ya, .inl (cI, 16, .inl ye)), (ta, .inl (cI, 48, .inl tl))] := hD
      refine lv_aload_n hx hb d_T_kind_34 rfl (lv_at hl 0 rfl) ?_
      refine va_get (D := D) (ci := 7) (v := .int 2) (C := Q_T) (T := F_T) (N := 17) hx hb hg in_T hown hK hP 0 rfl rfl 0 (by decide) (hg _ g_639) (fun _ h9 => h9) rfl d_T_kind_35 ?_
      refine lv_if_le (tgt := 43) hx hb d_T_kind_38 (by decide) (fun c_38 => ?_) (fun c_38 => ?_)
      · exact absurd c_38 (by decide)
      · refine lv_iconst (v := 0) hx hb d_T_kind_41 (by decide) ?_
        exact W.iret hx hb hr (fun t9 ht hW => ⟨⟨_, [(o, .inr (7, [.int 2, .int (nI n), .ref dT, .ref gT, .int (nI ns), .ref la, .ref ca, .int (nI nn), .ref aa, .ref na, .ref ya, .int (nI nr), .ref ta, .int be, .int bp, .long bo, .int bm])), (dT, .inl (cI, 64, .inl d)), (gT, .inl (cZ, 64, .inl g)), (la, .inl (cI, 8, .inl sl)), (ca, .inl (cI, 128, .inl cr)), (aa, .inl (cI, 16, .inl ak)), (na, .inl (cI, 16, .inl no)), (ya, .inl (cI, 16, .inl ye)), (ta, .inl (cI, 48, .inl tl))], rfl, Or.inr ⟨by first | (rw [ck_1 c_10]; decide) | (rw [ck_2 c_10 c_23]; decide), by first | rw [ck_1 c_10] | rw [ck_2 c_10 c_23]⟩, by rw [ht]; exact hP, va_K.moved hW.alike hK, hD⟩, hS.F ht⟩) hS.2.2 d_T_kind_42
  · refine lv_iconst (v := 1) hx hb d_T_kind_13 (by decide) ?_
    refine lv_goto (tgt := 31) hx hb d_T_kind_14 (by decide) ?_
    refine va_put (D := D) (ci := 7) (v := .int 1) (ty := .int) (C := Q_T) (T := F_T) (N := 17) hx hb hg in_T tq_T tq_T_ok n_T hown hK hP hD hS 0 rfl rfl 0 (by decide) (hg _ g_639) (fun _ h9 => h9) rfl (by decide +kernel) rfl rfl (Nat.le_of_ble_eq_true rfl) d_T_kind_31 (fun H locs hP hD hS => ?_)
    have hP : va_P D cls [(o, .inr (7, [.int 1, .int (nI n), .ref dT, .ref gT, .int (nI ns), .ref la, .ref ca, .int (nI nn), .ref aa, .ref na, .ref ya, .int (nI nr), .ref ta, .int be, .int bp, .long bo, .int bm])), (dT, .inl (cI, 64, .inl d)), (gT, .inl (cZ, 64, .inl g)), (la, .inl (cI, 8, .inl sl)), (ca, .inl (cI, 128, .inl cr)), (aa, .inl (cI, 16, .inl ak)), (na, .inl (cI, 16, .inl no)), (ya, .inl (cI, 16, .inl ye)), (ta, .inl (cI, 48, .inl tl))] H := hP
    have hD : va_D A [(o, .inr (7, [.int 1, .int (nI n), .ref dT, .ref gT, .int (nI ns), .ref la, .ref ca, .int (nI nn), .ref aa, .ref na, .ref ya, .int (nI nr), .ref ta, .int be, .int bp, .long bo, .int bm])), (dT, .inl (cI, 64, .inl d)), (gT, .inl (cZ, 64, .inl g)), (la, .inl (cI, 8, .inl sl)), (ca, .inl (cI, 128, .inl cr)), (aa, .inl (cI, 16, .inl ak)), (na, .inl (cI, 16, .inl no)), (ya, .inl (cI, 16, .inl ye)), (ta, .inl (cI, 48, .inl tl))] := hD
    refine lv_aload_n hx hb d_T_kind_34 rfl (lv_at hl 0 rfl) ?_
    refine va_get (D := D) (ci := 7) (v := .int 1) (C := Q_T) (T := F_T) (N := 17) hx hb hg in_T hown hK hP 0 rfl rfl 0 (by decide) (hg _ g_639) (fun _ h9 => h9) rfl d_T_kind_35 ?_
    refine lv_if_le (tgt := 43) hx hb d_T_kind_38 (by decide) (fun c_38 => ?_) (fun c_38 => ?_)
    · exact absurd c_38 (by decide)
    · refine lv_iconst (v := 0) hx hb d_T_kind_41 (by decide) ?_
      exact W.iret hx hb hr (fun t9 ht hW => ⟨⟨_, [(o, .inr (7, [.int 1, .int (nI n), .ref dT, .ref gT, .int (nI ns), .ref la, .ref ca, .int (nI nn), .ref aa, .ref na, .ref ya, .int (nI nr), .ref ta, .int be, .int bp, .long bo, .int bm])), (dT, .inl (cI, 64, .inl d)), (gT, .inl (cZ, 64, .inl g)), (la, .inl (cI, 8, .inl sl)), (ca, .inl (cI, 128, .inl cr)), (aa, .inl (cI, 16, .inl ak)), (na, .inl (cI, 16, .inl no)), (ya, .inl (cI, 16, .inl ye)), (ta, .inl (cI, 48, .inl tl))], rfl, Or.inr ⟨by first | (rw [ck_1 c_10]; decide) | (rw [ck_2 c_10 c_23]; decide), by first | rw [ck_1 c_10] | rw [ck_2 c_10 c_23]⟩, by rw [ht]; exact hP, va_K.moved hW.alike hK, hD⟩, hS.F ht⟩) hS.2.2 d_T_kind_42

set_option maxHeartbeats 4000000 in
set_option maxRecDepth 100000 in
/-- the reference: question(q, a, b) -/
theorem c_T_question_ok (l : Launch) (D : va_G) (cI cZ cJ cO : ClassId) (sz : Nat) (o dT gT la ca aa na ya ta : Nat) (n ns nn nr : Nat) (d g sl cr ak no ye tl : Nat → Int32) (th be bp bm : Int32) (bo : Int64) (h4 : 4 ≤ n) (h64 : n ≤ 64) (hd : dOK n d) (q9 a9 b9 : Int32) (hnn : nn ≤ 16) : Met l y_T_question (wq y_T_question c_T_question 4 (some .int)) ({ frames := 1, cells := 0, slots := 0, locals := 25 }) (mP D (TY cI cZ cJ cO) [(o, .inr (7, [.int th, .int (nI n), .ref dT, .ref gT, .int (nI ns), .ref la, .ref ca, .int (nI nn), .ref aa, .ref na, .ref ya, .int (nI nr), .ref ta, .int be, .int bp, .long bo, .int bm])), (dT, .inl (cI, 64, .inl d)), (gT, .inl (cZ, 64, .inl g)), (la, .inl (cI, 8, .inl sl)), (ca, .inl (cI, 128, .inl cr)), (aa, .inl (cI, 16, .inl ak)), (na, .inl (cI, 16, .inl no)), (ya, .inl (cI, 16, .inl ye)), (ta, .inl (cI, 48, .inl tl))] [.ref o, .int q9, .int a9, .int b9] sz) (va_Qi (fun (r : Int32) (u : va_W) => ((cQue q9 a9 b9 nn = 0 ∧ u = [(o, .inr (7, [.int 0, .int (nI n), .ref dT, .ref gT, .int (nI ns), .ref la, .ref ca, .int (nI (nn + 1)), .ref aa, .ref na, .ref ya, .int (nI nr), .ref ta, .int be, .int bp, .long bo, .int bm])), (dT, .inl (cI, 64, .inl d)), (gT, .inl (cZ, 64, .inl g)), (la, .inl (cI, 8, .inl sl)), (ca, .inl (cI, 128, .inl cr)), (aa, .inl (cI, 16, .inl (upd ak nn (-1 - q9)))), (na, .inl (cI, 16, .inl (upd no nn a9))), (ya, .inl (cI, 16, .inl (upd ye nn b9))), (ta, .inl (cI, 48, .inl tl))] ∧ r = nI nn) ∨ (¬ cQue q9 a9 b9 nn = 0 ∧ u = [(o, .inr (7, [.int (cQue q9 a9 b9 nn), .int (nI n), .ref dT, .ref gT, .int (nI ns), .ref la, .ref ca, .int (nI nn), .ref aa, .ref na, .ref ya, .int (nI nr), .ref ta, .int be, .int bp, .long bo, .int bm])), (dT, .inl (cI, 64, .inl d)), (gT, .inl (cZ, 64, .inl g)), (la, .inl (cI, 8, .inl sl)), (ca, .inl (cI, 128, .inl cr)), (aa, .inl (cI, 16, .inl ak)), (na, .inl (cI, 16, .inl no)), (ya, .inl (cI, 16, .inl ye)), (ta, .inl (cI, 48, .inl tl))]))) (mB D (TY cI cZ cJ cO) (va_A [(o, .inr (7, [.int th, .int (nI n), .ref dT, .ref gT, .int (nI ns), .ref la, .ref ca, .int (nI nn), .ref aa, .ref na, .ref ya, .int (nI nr), .ref ta, .int be, .int bp, .long bo, .int bm])), (dT, .inl (cI, 64, .inl d)), (gT, .inl (cZ, 64, .inl g)), (la, .inl (cI, 8, .inl sl)), (ca, .inl (cI, 128, .inl cr)), (aa, .inl (cI, 16, .inl ak)), (na, .inl (cI, 16, .inl no)), (ya, .inl (cI, 16, .inl ye)), (ta, .inl (cI, 48, .inl tl))] sz)) (va_A [(o, .inr (7, [.int th, .int (nI n), .ref dT, .ref gT, .int (nI ns), .ref la, .ref ca, .int (nI nn), .ref aa, .ref na, .ref ya, .int (nI nr), .ref ta, .int be, .int bp, .long bo, .int bm])), (dT, .inl (cI, 64, .inl d)), (gT, .inl (cZ, 64, .inl g)), (la, .inl (cI, 8, .inl sl)), (ca, .inl (cI, 128, .inl cr)), (aa, .inl (cI, 16, .inl ak)), (na, .inl (cI, 16, .inl no)), (ya, .inl (cI, 16, .inl ye)), (ta, .inl (cI, 48, .inl tl))] sz)) 0 0 (va_A [(o, .inr (7, [.int th, .int (nI n), .ref dT, .ref gT, .int (nI ns), .ref la, .ref ca, .int (nI nn), .ref aa, .ref na, .ref ya, .int (nI nr), .ref ta, .int be, .int bp, .long bo, .int bm])), (dT, .inl (cI, 64, .inl d)), (gT, .inl (cZ, 64, .inl g)), (la, .inl (cI, 8, .inl sl)), (ca, .inl (cI, 128, .inl cr)), (aa, .inl (cI, 16, .inl ak)), (na, .inl (cI, 16, .inl no)), (ya, .inl (cI, 16, .inl ye)), (ta, .inl (cI, 48, .inl tl))] sz) := by
  refine Met.ofW (cc := c_T_question) (maxL := 4) (ret := (some .int)) (by decide) rfl ?_
  intro p e s m args below meth c s₁ B hml hv
  obtain ⟨rfl, hsz, hP, hK, hD0, hN⟩ := hv
  have hx := B.exec
  have hb := B.bytes
  have hr := B.returns
  have hg := gt_h (atoms_spec (ws := (wq y_T_question c_T_question 4 (some .int))) B.pre)
  have hown : s.vm.findClass "RubbingMirrorsModel" = some m.cls := findClass_of_methodNamed B.named
  have hlocks := B.notSynchronized
  subst hsz
  have hD := hD0.self (sz := s.heap.size)
  generalize hAe : va_A [(o, .inr (7, [.int th, .int (nI n), .ref dT, .ref gT, .int (nI ns), .ref la, .ref ca, .int (nI nn), .ref aa, .ref na, .ref ya, .int (nI nr), .ref ta, .int be, .int bp, .long bo, .int bm])), (dT, .inl (cI, 64, .inl d)), (gT, .inl (cZ, 64, .inl g)), (la, .inl (cI, 8, .inl sl)), (ca, .inl (cI, 128, .inl cr)), (aa, .inl (cI, 16, .inl ak)), (na, .inl (cI, 16, .inl no)), (ya, .inl (cI, 16, .inl ye)), (ta, .inl (cI, 48, .inl tl))] s.heap.size = A at hD ⊢
  have hA : ∀ q : Nat, s.heap.size ≤ q → A q := fun q h => by rw [← hAe]; exact Or.inr h
  have hS : va_S A s.heap s.heap [] := va_S.rf
  have hl := lv_entry ([.ref o, .int q9, .int a9, .int b9]) (n := 4) (Nat.le_of_ble_eq_true rfl)
  rw [lg_entry_eq]
  generalize (lg_sl ([.ref o, .int q9, .int a9, .int b9]) ++ List.replicate (4 - (lg_sl ([.ref o, .int q9, .int a9, .int b9])).length) Slot.unset).toArray = ls at hl ⊢
  have hl : lv_has ls 4 [(0, .ref o), (1, .int q9), (2, .int a9), (3, .int b9)] := hl
  refine lv_aload_n hx hb d_T_question_0 rfl (lv_at hl 0 rfl) ?_
  refine lv_iload_n hx hb d_T_question_1 rfl (lv_at hl 2 rfl) ?_
  refine lv_i2l (v := a9.toInt64) hx hb d_T_question_2 rfl ?_
  refine lv_lconst (v := 0) hx hb d_T_question_3 (by decide) ?_
  refine lv_aload_n hx hb d_T_question_4 rfl (lv_at hl 0 rfl) ?_
  refine va_get (D := D) (ci := 7) (v := .int (nI nn)) (C := Q_T) (T := F_T) (N := 17) hx hb hg in_T hown hK hP 0 rfl rfl 7 (by decide) (hg _ g_646) (fun _ h9 => h9) rfl d_T_question_5 ?_
  refine lv_iconst (v := 1) hx hb d_T_question_8 (by decide) ?_
  refine lv_isub hx hb d_T_question_9 ?_
  refine lv_i2l (v := ((nI nn) - 1).toInt64) hx hb d_T_question_10 rfl ?_
  refine vp_callSi (va_Run.run (va_runS (As := [.long a9.toInt64, .long 0, .long (((nI nn) - 1).toInt64)]) (rest := [.ref o]) ⟨hx, hb, hml, hown, hg⟩ (c_T_isIn_ok l D cI cZ cJ cO a9.toInt64 0 (((nI nn) - 1).toInt64)) (va_cwS 3 hg (gs2 g_703 g_704 g_26 g_705) rfl rfl rfl (by decide +kernel) ⟨Nat.le_of_ble_eq_true rfl, Nat.le_of_ble_eq_true rfl⟩) (pS ba_nil hK hN) rfl rfl hl.1 rfl (lv_room (Nat.le_of_ble_eq_true rfl)) d_T_question_11 ⟨Nat.zero_le _, Nat.zero_le _⟩)) (fun r_1 hr_1 => ?_)
  subst hr_1
  rw [lw_c (v := a9) (lo := 0) (hi := ((nI nn) - 1)) (by decide) rfl]
  refine lv_if_eq (tgt := 33) hx hb d_T_question_14 (by decide) (fun c_14 => ?_) (fun c_14 => ?_)
  · refine lv_iconst (v := 1) hx hb d_T_question_33 (by decide) ?_
    refine lv_goto (tgt := 67) hx hb d_T_question_34 (by decide) ?_
    refine va_put (D := D) (ci := 7) (v := .int 1) (ty := .int) (C := Q_T) (T := F_T) (N := 17) hx hb hg in_T tq_T tq_T_ok n_T hown hK hP hD hS 0 rfl rfl 0 (by decide) (hg _ g_639) (fun _ h9 => h9) rfl (by decide +kernel) rfl rfl (Nat.le_of_ble_eq_true rfl) d_T_question_67 (fun H locs hP hD hS => ?_)
    have hP : va_P D cls [(o, .inr (7, [.int 1, .int (nI n), .ref dT, .ref gT, .int (nI ns), .ref la, .ref ca, .int (nI nn), .ref aa, .ref na, .ref ya, .int (nI nr), .ref ta, .int be, .int bp, .long bo, .int bm])), (dT, .inl (cI, 64, .inl d)), (gT, .inl (cZ, 64, .inl g)), (la, .inl (cI, 8, .inl sl)), (ca, .inl (cI, 128, .inl cr)), (aa, .inl (cI, 16, .inl ak)), (na, .inl (cI, 16, .inl no)), (ya, .inl (cI, 16, .inl ye)), (ta, .inl (cI, 48, .inl tl))] H := hP
    have hD : va_D A [(o, .inr (7, [.int 1, .int (nI n), .ref dT, .ref gT, .int (nI ns), .ref la, .ref ca, .int (nI nn), .ref aa, .ref na, .ref ya, .int (nI nr), .ref ta, .int be, .int bp, .long bo, .int bm])), (dT, .inl (cI, 64, .inl d)), (gT, .inl (cZ, 64, .inl g)), (la, .inl (cI, 8, .inl sl)), (ca, .inl (cI, 128, .inl cr)), (aa, .inl (cI, 16, .inl ak)), (na, .inl (cI, 16, .inl no)), (ya, .inl (cI, 16, .inl ye)), (ta, .inl (cI, 48, .inl tl))] := hD
    refine lv_aload_n hx hb d_T_question_70 rfl (lv_at hl 0 rfl) ?_
    refine va_get (D := D) (ci := 7) (v := .int 1) (C := Q_T) (T := F_T) (N := 17) hx hb hg in_T hown hK hP 0 rfl rfl 0 (by decide) (hg _ g_639) (fun _ h9 => h9) rfl d_T_question_71 ?_
    refine lv_if_le (tgt := 79) hx hb d_T_question_74 (by decide) (fun c_74 => ?_) (fun c_74 => ?_)
    · exact absurd c_74 (by decide)
    · refine lv_iconst (v := 0) hx hb d_T_question_77 (by decide) ?_
      exact W.iret hx hb hr (fun t9 ht hW => ⟨⟨_, [(o, .inr (7, [.int 1, .int (nI n), .ref dT, .ref gT, .int (nI ns), .ref la, .ref ca, .int (nI nn), .ref aa, .ref na, .ref ya, .int (nI nr), .ref ta, .int be, .int bp, .long bo, .int bm])), (dT, .inl (cI, 64, .inl d)), (gT, .inl (cZ, 64, .inl g)), (la, .inl (cI, 8, .inl sl)), (ca, .inl (cI, 128, .inl cr)), (aa, .inl (cI, 16, .inl ak)), (na, .inl (cI, 16, .inl no)), (ya, .inl (cI, 16, .inl ye)), (ta, .inl (cI, 48, .inl tl))], rfl, Or.inr ⟨by first | (rw [cq_1 c_14]; decide) | (rw [cq_2 c_30]; decide) | (rw [cq_3 c_14 c_30 c_46]; decide) | (rw [cq_4 c_14 c_30 c_46 c_59]; decide), by first | rw [cq_1 c_14] | rw [cq_2 c_30] | rw [cq_3 c_14 c_30 c_46] | rw [cq_4 c_14 c_30 c_46 c_59]⟩, by rw [ht]; exact hP, va_K.moved hW.alike hK, hD⟩, hS.F ht⟩) hS.2.2 d_T_question_78
  · refine lv_iload_n hx hb d_T_question_17 rfl (lv_at hl 3 rfl) ?_
    refine lv_i2l (v := b9.toInt64) hx hb d_T_question_18 rfl ?_
    refine lv_lconst (v := 0) hx hb d_T_question_19 (by decide) ?_
    refine lv_aload_n hx hb d_T_question_20 rfl (lv_at hl 0 rfl) ?_
    refine va_get (D := D) (ci := 7) (v := .int (nI nn)) (C := Q_T) (T := F_T) (N := 17) hx hb hg in_T hown hK hP 0 rfl rfl 7 (by decide) (hg _ g_646) (fun _ h9 => h9) rfl d_T_question_21 ?_
    refine lv_iconst (v := 1) hx hb d_T_question_24 (by decide) ?_
    refine lv_isub hx hb d_T_question_25 ?_
    refine lv_i2l (v := ((nI nn) - 1).toInt64) hx hb d_T_question_26 rfl ?_
    refine vp_callSi (va_Run.run (va_runS (As := [.long b9.toInt64, .long 0, .long (((nI nn) - 1).toInt64)]) (rest := [.ref o]) ⟨hx, hb, hml, hown, hg⟩ (c_T_isIn_ok l D cI cZ cJ cO b9.toInt64 0 (((nI nn) - 1).toInt64)) (va_cwS 3 hg (gs2 g_703 g_704 g_26 g_705) rfl rfl rfl (by decide +kernel) ⟨Nat.le_of_ble_eq_true rfl, Nat.le_of_ble_eq_true rfl⟩) (pS ba_nil hK hN) rfl rfl hl.1 rfl (lv_room (Nat.le_of_ble_eq_true rfl)) d_T_question_27 ⟨Nat.zero_le _, Nat.zero_le _⟩)) (fun r_2 hr_2 => ?_)
    subst hr_2
    rw [lw_c (v := b9) (lo := 0) (hi := ((nI nn) - 1)) (by decide) rfl]
    refine lv_if_ne (tgt := 37) hx hb d_T_question_30 (by decide) (fun c_30 => ?_) (fun c_30 => ?_)
    · refine lv_iload_n hx hb d_T_question_37 rfl (lv_at hl 1 rfl) ?_
      refine lv_i2l (v := q9.toInt64) hx hb d_T_question_38 rfl ?_
      refine lv_lconst (v := 0) hx hb d_T_question_39 (by decide) ?_
      refine lv_ldc2 (v := 15) hx hb hown (hg _ g_780) d_T_question_40 ?_
      refine vp_callSi (va_Run.run (va_runS (As := [.long q9.toInt64, .long 0, .long 15]) (rest := [.ref o]) ⟨hx, hb, hml, hown, hg⟩ (c_T_isIn_ok l D cI cZ cJ cO q9.toInt64 0 15) (va_cwS 3 hg (gs2 g_703 g_704 g_26 g_705) rfl rfl rfl (by decide +kernel) ⟨Nat.le_of_ble_eq_true rfl, Nat.le_of_ble_eq_true rfl⟩) (pS ba_nil hK hN) rfl rfl hl.1 rfl (lv_room (Nat.le_of_ble_eq_true rfl)) d_T_question_43 ⟨Nat.zero_le _, Nat.zero_le _⟩)) (fun r_3 hr_3 => ?_)
      subst hr_3
      rw [lw_c (v := q9) (lo := 0) (hi := 15) (by decide) (by decide)]
      refine lv_if_ne (tgt := 53) hx hb d_T_question_46 (by decide) (fun c_46 => ?_) (fun c_46 => ?_)
      · refine lv_aload_n hx hb d_T_question_53 rfl (lv_at hl 0 rfl) ?_
        refine va_get (D := D) (ci := 7) (v := .int (nI nn)) (C := Q_T) (T := F_T) (N := 17) hx hb hg in_T hown hK hP 0 rfl rfl 7 (by decide) (hg _ g_646) (fun _ h9 => h9) rfl d_T_question_54 ?_
        refine lv_bipush (v := 16) hx hb d_T_question_57 (by decide) ?_
        refine lv_icmp_ne (tgt := 66) hx hb d_T_question_59 (by decide) (fun c_59 => ?_) (fun c_59 => ?_)
        · refine lv_iconst (v := 0) hx hb d_T_question_66 (by decide) ?_
          refine va_put (D := D) (ci := 7) (v := .int 0) (ty := .int) (C := Q_T) (T := F_T) (N := 17) hx hb hg in_T tq_T tq_T_ok n_T hown hK hP hD hS 0 rfl rfl 0 (by decide) (hg _ g_639) (fun _ h9 => h9) rfl (by decide +kernel) rfl rfl (Nat.le_of_ble_eq_true rfl) d_T_question_67 (fun H locs hP hD hS => ?_)
          have hP : va_P D cls [(o, .inr (7, [.int 0, .int (nI n), .ref dT, .ref gT, .int (nI ns), .ref la, .ref ca, .int (nI nn), .ref aa, .ref na, .ref ya, .int (nI nr), .ref ta, .int be, .int bp, .long bo, .int bm])), (dT, .inl (cI, 64, .inl d)), (gT, .inl (cZ, 64, .inl g)), (la, .inl (cI, 8, .inl sl)), (ca, .inl (cI, 128, .inl cr)), (aa, .inl (cI, 16, .inl ak)), (na, .inl (cI, 16, .inl no)), (ya, .inl (cI, 16, .inl ye)), (ta, .inl (cI, 48, .inl tl))] H := hP
          have hD : va_D A [(o, .inr (7, [.int 0, .int (nI n), .ref dT, .ref gT, .int (nI ns), .ref la, .ref ca, .int (nI nn), .ref aa, .ref na, .ref ya, .int (nI nr), .ref ta, .int be, .int bp, .long bo, .int bm])), (dT, .inl (cI, 64, .inl d)), (gT, .inl (cZ, 64, .inl g)), (la, .inl (cI, 8, .inl sl)), (ca, .inl (cI, 128, .inl cr)), (aa, .inl (cI, 16, .inl ak)), (na, .inl (cI, 16, .inl no)), (ya, .inl (cI, 16, .inl ye)), (ta, .inl (cI, 48, .inl tl))] := hD
          refine lv_aload_n hx hb d_T_question_70 rfl (lv_at hl 0 rfl) ?_
          refine va_get (D := D) (ci := 7) (v := .int 0) (C := Q_T) (T := F_T) (N := 17) hx hb hg in_T hown hK hP 0 rfl rfl 0 (by decide) (hg _ g_639) (fun _ h9 => h9) rfl d_T_question_71 ?_
          refine lv_if_le (tgt := 79) hx hb d_T_question_74 (by decide) (fun c_74 => ?_) (fun c_74 => ?_)
          · refine lv_aload_n hx hb d_T_question_79 rfl (lv_at hl 0 rfl) ?_
            refine va_get (D := D) (ci := 7) (v := .ref aa) (C := Q_T) (T := F_T) (N := 17) hx hb hg in_T hown hK hP 0 rfl rfl 8 (by decide) (hg _ g_647) (fun _ h9 => h9) rfl d_T_question_80 ?_
            refine lv_aload_n hx hb d_T_question_83 rfl (lv_at hl 0 rfl) ?_
            refine va_get (D := D) (ci := 7) (v := .int (nI nn)) (C := Q_T) (T := F_T) (N := 17) hx hb hg in_T hown hK hP 0 rfl rfl 7 (by decide) (hg _ g_646) (fun _ h9 => h9) rfl d_T_question_84 ?_
            refine lv_iconst (v := (-1)) hx hb d_T_question_87 (by decide) ?_
            refine lv_iload_n hx hb d_T_question_88 rfl (lv_at hl 1 rfl) ?_
            refine lv_isub hx hb d_T_question_89 ?_
            refine va_iast hx hb hK hP hD hS 5 0 rfl rfl (v16 (nn16 hnn c_59)) d_T_question_90 (fun H locs hP hD hS => ?_)
            rw [nI_clamp (show nn < 2 ^ 31 by omega)] at hP hD
            have hP : va_P D cls [(o, .inr (7, [.int 0, .int (nI n), .ref dT, .ref gT, .int (nI ns), .ref la, .ref ca, .int (nI nn), .ref aa, .ref na, .ref ya, .int (nI nr), .ref ta, .int be, .int bp, .long bo, .int bm])), (dT, .inl (cI, 64, .inl d)), (gT, .inl (cZ, 64, .inl g)), (la, .inl (cI, 8, .inl sl)), (ca, .inl (cI, 128, .inl cr)), (aa, .inl (cI, 16, .inl (upd ak nn ((-1) - q9)))), (na, .inl (cI, 16, .inl no)), (ya, .inl (cI, 16, .inl ye)), (ta, .inl (cI, 48, .inl tl))] H := hP
            have hD : va_D A [(o, .inr (7, [.int 0, .int (nI n), .ref dT, .ref gT, .int (nI ns), .ref la, .ref ca, .int (nI nn), .ref aa, .ref na, .ref ya, .int (nI nr), .ref ta, .int be, .int bp, .long bo, .int bm])), (dT, .inl (cI, 64, .inl d)), (gT, .inl (cZ, 64, .inl g)), (la, .inl (cI, 8, .inl sl)), (ca, .inl (cI, 128, .inl cr)), (aa, .inl (cI, 16, .inl (upd ak nn ((-1) - q9)))), (na, .inl (cI, 16, .inl no)), (ya, .inl (cI, 16, .inl ye)), (ta, .inl (cI, 48, .inl tl))] := hD
            refine lv_aload_n hx hb d_T_question_91 rfl (lv_at hl 0 rfl) ?_
            refine va_get (D := D) (ci := 7) (v := .ref na) (C := Q_T) (T := F_T) (N := 17) hx hb hg in_T hown hK hP 0 rfl rfl 9 (by decide) (hg _ g_648) (fun _ h9 => h9) rfl d_T_question_92 ?_
            refine lv_aload_n hx hb d_T_question_95 rfl (lv_at hl 0 rfl) ?_
            refine va_get (D := D) (ci := 7) (v := .int (nI nn)) (C := Q_T) (T := F_T) (N := 17) hx hb hg in_T hown hK hP 0 rfl rfl 7 (by decide) (hg _ g_646) (fun _ h9 => h9) rfl d_T_question_96 ?_
            refine lv_iload_n hx hb d_T_question_99 rfl (lv_at hl 2 rfl) ?_
            refine va_iast hx hb hK hP hD hS 6 0 rfl rfl (v16 (nn16 hnn c_59)) d_T_question_100 (fun H locs hP hD hS => ?_)
            rw [nI_clamp (show nn < 2 ^ 31 by omega)] at hP hD
            have hP : va_P D cls [(o, .inr (7, [.int 0, .int (nI n), .ref dT, .ref gT, .int (nI ns), .ref la, .ref ca, .int (nI nn), .ref aa, .ref na, .ref ya, .int (nI nr), .ref ta, .int be, .int bp, .long bo, .int bm])), (dT, .inl (cI, 64, .inl d)), (gT, .inl (cZ, 64, .inl g)), (la, .inl (cI, 8, .inl sl)), (ca, .inl (cI, 128, .inl cr)), (aa, .inl (cI, 16, .inl (upd ak nn ((-1) - q9)))), (na, .inl (cI, 16, .inl (upd no nn a9))), (ya, .inl (cI, 16, .inl ye)), (ta, .inl (cI, 48, .inl tl))] H := hP
            have hD : va_D A [(o, .inr (7, [.int 0, .int (nI n), .ref dT, .ref gT, .int (nI ns), .ref la, .ref ca, .int (nI nn), .ref aa, .ref na, .ref ya, .int (nI nr), .ref ta, .int be, .int bp, .long bo, .int bm])), (dT, .inl (cI, 64, .inl d)), (gT, .inl (cZ, 64, .inl g)), (la, .inl (cI, 8, .inl sl)), (ca, .inl (cI, 128, .inl cr)), (aa, .inl (cI, 16, .inl (upd ak nn ((-1) - q9)))), (na, .inl (cI, 16, .inl (upd no nn a9))), (ya, .inl (cI, 16, .inl ye)), (ta, .inl (cI, 48, .inl tl))] := hD
            refine lv_aload_n hx hb d_T_question_101 rfl (lv_at hl 0 rfl) ?_
            refine va_get (D := D) (ci := 7) (v := .ref ya) (C := Q_T) (T := F_T) (N := 17) hx hb hg in_T hown hK hP 0 rfl rfl 10 (by decide) (hg _ g_649) (fun _ h9 => h9) rfl d_T_question_102 ?_
            refine lv_aload_n hx hb d_T_question_105 rfl (lv_at hl 0 rfl) ?_
            refine va_get (D := D) (ci := 7) (v := .int (nI nn)) (C := Q_T) (T := F_T) (N := 17) hx hb hg in_T hown hK hP 0 rfl rfl 7 (by decide) (hg _ g_646) (fun _ h9 => h9) rfl d_T_question_106 ?_
            refine lv_iload_n hx hb d_T_question_109 rfl (lv_at hl 3 rfl) ?_
            refine va_iast hx hb hK hP hD hS 7 0 rfl rfl (v16 (nn16 hnn c_59)) d_T_question_110 (fun H locs hP hD hS => ?_)
            rw [nI_clamp (show nn < 2 ^ 31 by omega)] at hP hD
            have hP : va_P D cls [(o, .inr (7, [.int 0, .int (nI n), .ref dT, .ref gT, .int (nI ns), .ref la, .ref ca, .int (nI nn), .ref aa, .ref na, .ref ya, .int (nI nr), .ref ta, .int be, .int bp, .long bo, .int bm])), (dT, .inl (cI, 64, .inl d)), (gT, .inl (cZ, 64, .inl g)), (la, .inl (cI, 8, .inl sl)), (ca, .inl (cI, 128, .inl cr)), (aa, .inl (cI, 16, .inl (upd ak nn ((-1) - q9)))), (na, .inl (cI, 16, .inl (upd no nn a9))), (ya, .inl (cI, 16, .inl (upd ye nn b9))), (ta, .inl (cI, 48, .inl tl))] H := hP
            have hD : va_D A [(o, .inr (7, [.int 0, .int (nI n), .ref dT, .ref gT, .int (nI ns), .ref la, .ref ca, .int (nI nn), .ref aa, .ref na, .ref ya, .int (nI nr), .ref ta, .int be, .int bp, .long bo, .int bm])), (dT, .inl (cI, 64, .inl d)), (gT, .inl (cZ, 64, .inl g)), (la, .inl (cI, 8, .inl sl)), (ca, .inl (cI, 128, .inl cr)), (aa, .inl (cI, 16, .inl (upd ak nn ((-1) - q9)))), (na, .inl (cI, 16, .inl (upd no nn a9))), (ya, .inl (cI, 16, .inl (upd ye nn b9))), (ta, .inl (cI, 48, .inl tl))] := hD
            refine lv_aload_n hx hb d_T_question_111 rfl (lv_at hl 0 rfl) ?_
            refine lv_dup hx hb d_T_question_112 rfl ?_
            refine va_get (D := D) (ci := 7) (v := .int (nI nn)) (C := Q_T) (T := F_T) (N := 17) hx hb hg in_T hown hK hP 0 rfl rfl 7 (by decide) (hg _ g_646) (fun _ h9 => h9) rfl d_T_question_113 ?_
            refine lv_iconst (v := 1) hx hb d_T_question_116 (by decide) ?_
            refine lv_iadd hx hb d_T_question_117 ?_
            refine va_put (D := D) (ci := 7) (v := .int ((nI nn) + 1)) (ty := .int) (C := Q_T) (T := F_T) (N := 17) hx hb hg in_T tq_T tq_T_ok n_T hown hK hP hD hS 0 rfl rfl 7 (by decide) (hg _ g_646) (fun _ h9 => h9) rfl (by decide +kernel) rfl rfl (Nat.le_of_ble_eq_true rfl) d_T_question_118 (fun H locs hP hD hS => ?_)
            have hP : va_P D cls [(o, .inr (7, [.int 0, .int (nI n), .ref dT, .ref gT, .int (nI ns), .ref la, .ref ca, .int ((nI nn) + 1), .ref aa, .ref na, .ref ya, .int (nI nr), .ref ta, .int be, .int bp, .long bo, .int bm])), (dT, .inl (cI, 64, .inl d)), (gT, .inl (cZ, 64, .inl g)), (la, .inl (cI, 8, .inl sl)), (ca, .inl (cI, 128, .inl cr)), (aa, .inl (cI, 16, .inl (upd ak nn ((-1) - q9)))), (na, .inl (cI, 16, .inl (upd no nn a9))), (ya, .inl (cI, 16, .inl (upd ye nn b9))), (ta, .inl (cI, 48, .inl tl))] H := hP
            have hD : va_D A [(o, .inr (7, [.int 0, .int (nI n), .ref dT, .ref gT, .int (nI ns), .ref la, .ref ca, .int ((nI nn) + 1), .ref aa, .ref na, .ref ya, .int (nI nr), .ref ta, .int be, .int bp, .long bo, .int bm])), (dT, .inl (cI, 64, .inl d)), (gT, .inl (cZ, 64, .inl g)), (la, .inl (cI, 8, .inl sl)), (ca, .inl (cI, 128, .inl cr)), (aa, .inl (cI, 16, .inl (upd ak nn ((-1) - q9)))), (na, .inl (cI, 16, .inl (upd no nn a9))), (ya, .inl (cI, 16, .inl (upd ye nn b9))), (ta, .inl (cI, 48, .inl tl))] := hD
            refine lv_aload_n hx hb d_T_question_121 rfl (lv_at hl 0 rfl) ?_
            refine va_get (D := D) (ci := 7) (v := .int ((nI nn) + 1)) (C := Q_T) (T := F_T) (N := 17) hx hb hg in_T hown hK hP 0 rfl rfl 7 (by decide) (hg _ g_646) (fun _ h9 => h9) rfl d_T_question_122 ?_
            refine lv_iconst (v := 1) hx hb d_T_question_125 (by decide) ?_
            refine lv_isub hx hb d_T_question_126 ?_
            exact W.iret hx hb hr (fun t9 ht hW => ⟨⟨_, [(o, .inr (7, [.int 0, .int (nI n), .ref dT, .ref gT, .int (nI ns), .ref la, .ref ca, .int ((nI nn) + 1), .ref aa, .ref na, .ref ya, .int (nI nr), .ref ta, .int be, .int bp, .long bo, .int bm])), (dT, .inl (cI, 64, .inl d)), (gT, .inl (cZ, 64, .inl g)), (la, .inl (cI, 8, .inl sl)), (ca, .inl (cI, 128, .inl cr)), (aa, .inl (cI, 16, .inl (upd ak nn ((-1) - q9)))), (na, .inl (cI, 16, .inl (upd no nn a9))), (ya, .inl (cI, 16, .inl (upd ye nn b9))), (ta, .inl (cI, 48, .inl tl))], rfl, Or.inl ⟨cq_0 c_14 c_30 c_46 c_59, by rw [← nI_1], nI_1m nn⟩, by rw [ht]; exact hP, va_K.moved hW.alike hK, hD⟩, hS.F ht⟩) hS.2.2 d_T_question_127
          · exact absurd c_74 (by decide)
        · refine lv_iconst (v := 3) hx hb d_T_question_62 (by decide) ?_
          refine lv_goto (tgt := 67) hx hb d_T_question_63 (by decide) ?_
          refine va_put (D := D) (ci := 7) (v := .int 3) (ty := .int) (C := Q_T) (T := F_T) (N := 17) hx hb hg in_T tq_T tq_T_ok n_T hown hK hP hD hS 0 rfl rfl 0 (by decide) (hg _ g_639) (fun _ h9 => h9) rfl (by decide +kernel) rfl rfl (Nat.le_of_ble_eq_true rfl) d_T_question_67 (fun H locs hP hD hS => ?_)
          have hP : va_P D cls [(o, .inr (7, [.int 3, .int (nI n), .ref dT, .ref gT, .int (nI ns), .ref la, .ref ca, .int (nI nn), .ref aa, .ref na, .ref ya, .int (nI nr), .ref ta, .int be, .int bp, .long bo, .int bm])), (dT, .inl (cI, 64, .inl d)), (gT, .inl (cZ, 64, .inl g)), (la, .inl (cI, 8, .inl sl)), (ca, .inl (cI, 128, .inl cr)), (aa, .inl (cI, 16, .inl ak)), (na, .inl (cI, 16, .inl no)), (ya, .inl (cI, 16, .inl ye)), (ta, .inl (cI, 48, .inl tl))] H := hP
          have hD : va_D A [(o, .inr (7, [.int 3, .int (nI n), .ref dT, .ref gT, .int (nI ns), .ref la, .ref ca, .int (nI nn), .ref aa, .ref na, .ref ya, .int (nI nr), .ref ta, .int be, .int bp, .long bo, .int bm])), (dT, .inl (cI, 64, .inl d)), (gT, .inl (cZ, 64, .inl g)), (la, .inl (cI, 8, .inl sl)), (ca, .inl (cI, 128, .inl cr)), (aa, .inl (cI, 16, .inl ak)), (na, .inl (cI, 16, .inl no)), (ya, .inl (cI, 16, .inl ye)), (ta, .inl (cI, 48, .inl tl))] := hD
          refine lv_aload_n hx hb d_T_question_70 rfl (lv_at hl 0 rfl) ?_
          refine va_get (D := D) (ci := 7) (v := .int 3) (C := Q_T) (T := F_T) (N := 17) hx hb hg in_T hown hK hP 0 rfl rfl 0 (by decide) (hg _ g_639) (fun _ h9 => h9) rfl d_T_question_71 ?_
          refine lv_if_le (tgt := 79) hx hb d_T_question_74 (by decide) (fun c_74 => ?_) (fun c_74 => ?_)
          · exact absurd c_74 (by decide)
          · refine lv_iconst (v := 0) hx hb d_T_question_77 (by decide) ?_
            exact W.iret hx hb hr (fun t9 ht hW => ⟨⟨_, [(o, .inr (7, [.int 3, .int (nI n), .ref dT, .ref gT, .int (nI ns), .ref la, .ref ca, .int (nI nn), .ref aa, .ref na, .ref ya, .int (nI nr), .ref ta, .int be, .int bp, .long bo, .int bm])), (dT, .inl (cI, 64, .inl d)), (gT, .inl (cZ, 64, .inl g)), (la, .inl (cI, 8, .inl sl)), (ca, .inl (cI, 128, .inl cr)), (aa, .inl (cI, 16, .inl ak)), (na, .inl (cI, 16, .inl no)), (ya, .inl (cI, 16, .inl ye)), (ta, .inl (cI, 48, .inl tl))], rfl, Or.inr ⟨by first | (rw [cq_1 c_14]; decide) | (rw [cq_2 c_30]; decide) | (rw [cq_3 c_14 c_30 c_46]; decide) | (rw [cq_4 c_14 c_30 c_46 c_59]; decide), by first | rw [cq_1 c_14] | rw [cq_2 c_30] | rw [cq_3 c_14 c_30 c_46] | rw [cq_4 c_14 c_30 c_46 c_59]⟩, by rw [ht]; exact hP, va_K.moved hW.alike hK, hD⟩, hS.F ht⟩) hS.2.2 d_T_question_78
      · refine lv_iconst (v := 2) hx hb d_T_question_49 (by decide) ?_
        refine lv_goto (tgt := 67) hx hb d_T_question_50 (by decide) ?_
        refine va_put (D := D) (ci := 7) (v := .int 2) (ty := .int) (C := Q_T) (T := F_T) (N := 17) hx hb hg in_T tq_T tq_T_ok n_T hown hK hP hD hS 0 rfl rfl 0 (by decide) (hg _ g_639) (fun _ h9 => h9) rfl (by decide +kernel) rfl rfl (Nat.le_of_ble_eq_true rfl) d_T_question_67 (fun H locs hP hD hS => ?_)
        have hP : va_P D cls [(o, .inr (7, [.int 2, .int (nI n), .ref dT, .ref gT, .int (nI ns), .ref la, .ref ca, .int (nI nn), .ref aa, .ref na, .ref ya, .int (nI nr), .ref ta, .int be, .int bp, .long bo, .int bm])), (dT, .inl (cI, 64, .inl d)), (gT, .inl (cZ, 64, .inl g)), (la, .inl (cI, 8, .inl sl)), (ca, .inl (cI, 128, .inl cr)), (aa, .inl (cI, 16, .inl ak)), (na, .inl (cI, 16, .inl no)), (ya, .inl (cI, 16, .inl ye)), (ta, .inl (cI, 48, .inl tl))] H := hP
        have hD : va_D A [(o, .inr (7, [.int 2, .int (nI n), .ref dT, .ref gT, .int (nI ns), .ref la, .ref ca, .int (nI nn), .ref aa, .ref na, .ref ya, .int (nI nr), .ref ta, .int be, .int bp, .long bo, .int bm])), (dT, .inl (cI, 64, .inl d)), (gT, .inl (cZ, 64, .inl g)), (la, .inl (cI, 8, .inl sl)), (ca, .inl (cI, 128, .inl cr)), (aa, .inl (cI, 16, .inl ak)), (na, .inl (cI, 16, .inl no)), (ya, .inl (cI, 16, .inl ye)), (ta, .inl (cI, 48, .inl tl))] := hD
        refine lv_aload_n hx hb d_T_question_70 rfl (lv_at hl 0 rfl) ?_
        refine va_get (D := D) (ci := 7) (v := .int 2) (C := Q_T) (T := F_T) (N := 17) hx hb hg in_T hown hK hP 0 rfl rfl 0 (by decide) (hg _ g_639) (fun _ h9 => h9) rfl d_T_question_71 ?_
        refine lv_if_le (tgt := 79) hx hb d_T_question_74 (by decide) (fun c_74 => ?_) (fun c_74 => ?_)
        · exact absurd c_74 (by decide)
        · refine lv_iconst (v := 0) hx hb d_T_question_77 (by decide) ?_
          exact W.iret hx hb hr (fun t9 ht hW => ⟨⟨_, [(o, .inr (7, [.int 2, .int (nI n), .ref dT, .ref gT, .int (nI ns), .ref la, .ref ca, .int (nI nn), .ref aa, .ref na, .ref ya, .int (nI nr), .ref ta, .int be, .int bp, .long bo, .int bm])), (dT, .inl (cI, 64, .inl d)), (gT, .inl (cZ, 64, .inl g)), (la, .inl (cI, 8, .inl sl)), (ca, .inl (cI, 128, .inl cr)), (aa, .inl (cI, 16, .inl ak)), (na, .inl (cI, 16, .inl no)), (ya, .inl (cI, 16, .inl ye)), (ta, .inl (cI, 48, .inl tl))], rfl, Or.inr ⟨by first | (rw [cq_1 c_14]; decide) | (rw [cq_2 c_30]; decide) | (rw [cq_3 c_14 c_30 c_46]; decide) | (rw [cq_4 c_14 c_30 c_46 c_59]; decide), by first | rw [cq_1 c_14] | rw [cq_2 c_30] | rw [cq_3 c_14 c_30 c_46] | rw [cq_4 c_14 c_30 c_46 c_59]⟩, by rw [ht]; exact hP, va_K.moved hW.alike hK, hD⟩, hS.F ht⟩) hS.2.2 d_T_question_78
    · refine lv_iconst (v := 1) hx hb d_T_question_33 (by decide) ?_
      refine lv_goto (tgt := 67) hx hb d_T_question_34 (by decide) ?_
      refine va_put (D := D) (ci := 7) (v := .int 1) (ty := .int) (C := Q_T) (T := F_T) (N := 17) hx hb hg in_T tq_T tq_T_ok n_T hown hK hP hD hS 0 rfl rfl 0 (by decide) (hg _ g_639) (fun _ h9 => h9) rfl (by decide +kernel) rfl rfl (Nat.le_of_ble_eq_true rfl) d_T_question_67 (fun H locs hP hD hS => ?_)
      have hP : va_P D cls [(o, .inr (7, [.int 1, .int (nI n), .ref dT, .ref gT, .int (nI ns), .ref la, .ref ca, .int (nI nn), .ref aa, .ref na, .ref ya, .int (nI nr), .ref ta, .int be, .int bp, .long bo, .int bm])), (dT, .inl (cI, 64, .inl d)), (gT, .inl (cZ, 64, .inl g)), (la, .inl (cI, 8, .inl sl)), (ca, .inl (cI, 128, .inl cr)), (aa, .inl (cI, 16, .inl ak)), (na, .inl (cI, 16, .inl no)), (ya, .inl (cI, 16, .inl ye)), (ta, .inl (cI, 48, .inl tl))] H := hP
      have hD : va_D A [(o, .inr (7, [.int 1, .int (nI n), .ref dT, .ref gT, .int (nI ns), .ref la, .ref ca, .int (nI nn), .ref aa, .ref na, .ref ya, .int (nI nr), .ref ta, .int be, .int bp, .long bo, .int bm])), (dT, .inl (cI, 64, .inl d)), (gT, .inl (cZ, 64, .inl g)), (la, .inl (cI, 8, .inl sl)), (ca, .inl (cI, 128, .inl cr)), (aa, .inl (cI, 16, .inl ak)), (na, .inl (cI, 16, .inl no)), (ya, .inl (cI, 16, .inl ye)), (ta, .inl (cI, 48, .inl tl))] := hD
      refine lv_aload_n hx hb d_T_question_70 rfl (lv_at hl 0 rfl) ?_
      refine va_get (D := D) (ci := 7) (v := .int 1) (C := Q_T) (T := F_T) (N := 17) hx hb hg in_T hown hK hP 0 rfl rfl 0 (by decide) (hg _ g_639) (fun _ h9 => h9) rfl d_T_question_71 ?_
      refine lv_if_le (tgt := 79) hx hb d_T_question_74 (by decide) (fun c_74 => ?_) (fun c_74 => ?_)
      · exact absurd c_74 (by decide)
      · refine lv_iconst (v := 0) hx hb d_T_question_77 (by decide) ?_
        exact W.iret hx hb hr (fun t9 ht hW => ⟨⟨_, [(o, .inr (7, [.int 1, .int (nI n), .ref dT, .ref gT, .int (nI ns), .ref la, .ref ca, .int (nI nn), .ref aa, .ref na, .ref ya, .int (nI nr), .ref ta, .int be, .int bp, .long bo, .int bm])), (dT, .inl (cI, 64, .inl d)), (gT, .inl (cZ, 64, .inl g)), (la, .inl (cI, 8, .inl sl)), (ca, .inl (cI, 128, .inl cr)), (aa, .inl (cI, 16, .inl ak)), (na, .inl (cI, 16, .inl no)), (ya, .inl (cI, 16, .inl ye)), (ta, .inl (cI, 48, .inl tl))], rfl, Or.inr ⟨by first | (rw [cq_1 c_14]; decide) | (rw [cq_2 c_30]; decide) | (rw [cq_3 c_14 c_30 c_46]; decide) | (rw [cq_4 c_14 c_30 c_46 c_59]; decide), by first | rw [cq_1 c_14] | rw [cq_2 c_30] | rw [cq_3 c_14 c_30 c_46] | rw [cq_4 c_14 c_30 c_46 c_59]⟩, by rw [ht]; exact hP, va_K.moved hW.alike hK, hD⟩, hS.F ht⟩) hS.2.2 d_T_question_78

set_option maxHeartbeats 4000000 in
set_option maxRecDepth 100000 in
/-- the reference: ask(b, k) -/
theorem c_T_ask_ok (l : Launch) (D : va_G) (cI cZ cJ cO : ClassId) (sz : Nat) (o dT gT la ca aa na ya ta : Nat) (n ns nn nr : Nat) (d g sl cr ak no ye tl : Nat → Int32) (th be bp bm : Int32) (bo : Int64) (h4 : 4 ≤ n) (h64 : n ≤ 64) (hd : dOK n d) (b9 k9 : Int32) (hnn : nn ≤ 16) (hnOK : nOK nn ak no ye) : Met l y_T_ask (wq y_T_ask c_T_ask 5 (some .int)) ({ frames := 1, cells := 0, slots := 0, locals := 25 }) (mP D (TY cI cZ cJ cO) [(o, .inr (7, [.int th, .int (nI n), .ref dT, .ref gT, .int (nI ns), .ref la, .ref ca, .int (nI nn), .ref aa, .ref na, .ref ya, .int (nI nr), .ref ta, .int be, .int bp, .long bo, .int bm])), (dT, .inl (cI, 64, .inl d)), (gT, .inl (cZ, 64, .inl g)), (la, .inl (cI, 8, .inl sl)), (ca, .inl (cI, 128, .inl cr)), (aa, .inl (cI, 16, .inl ak)), (na, .inl (cI, 16, .inl no)), (ya, .inl (cI, 16, .inl ye)), (ta, .inl (cI, 48, .inl tl))] [.ref o, .int b9, .int k9] sz) (va_Qi (fun (r : Int32) (u : va_W) => ((cAsk b9 k9 nn = 0 ∧ u = [(o, .inr (7, [.int 0, .int (nI n), .ref dT, .ref gT, .int (nI ns), .ref la, .ref ca, .int (nI nn), .ref aa, .ref na, .ref ya, .int (nI nr), .ref ta, .int be, .int bp, .long bo, .int bm])), (dT, .inl (cI, 64, .inl d)), (gT, .inl (cZ, 64, .inl g)), (la, .inl (cI, 8, .inl sl)), (ca, .inl (cI, 128, .inl cr)), (aa, .inl (cI, 16, .inl ak)), (na, .inl (cI, 16, .inl no)), (ya, .inl (cI, 16, .inl ye)), (ta, .inl (cI, 48, .inl tl))] ∧ r = qa ak no ye b9 k9 nn (nn - 1)) ∨ (¬ cAsk b9 k9 nn = 0 ∧ u = [(o, .inr (7, [.int (cAsk b9 k9 nn), .int (nI n), .ref dT, .ref gT, .int (nI ns), .ref la, .ref ca, .int (nI nn), .ref aa, .ref na, .ref ya, .int (nI nr), .ref ta, .int be, .int bp, .long bo, .int bm])), (dT, .inl (cI, 64, .inl d)), (gT, .inl (cZ, 64, .inl g)), (la, .inl (cI, 8, .inl sl)), (ca, .inl (cI, 128, .inl cr)), (aa, .inl (cI, 16, .inl ak)), (na, .inl (cI, 16, .inl no)), (ya, .inl (cI, 16, .inl ye)), (ta, .inl (cI, 48, .inl tl))]))) (mB D (TY cI cZ cJ cO) (va_A [(o, .inr (7, [.int th, .int (nI n), .ref dT, .ref gT, .int (nI ns), .ref la, .ref ca, .int (nI nn), .ref aa, .ref na, .ref ya, .int (nI nr), .ref ta, .int be, .int bp, .long bo, .int bm])), (dT, .inl (cI, 64, .inl d)), (gT, .inl (cZ, 64, .inl g)), (la, .inl (cI, 8, .inl sl)), (ca, .inl (cI, 128, .inl cr)), (aa, .inl (cI, 16, .inl ak)), (na, .inl (cI, 16, .inl no)), (ya, .inl (cI, 16, .inl ye)), (ta, .inl (cI, 48, .inl tl))] sz)) (va_A [(o, .inr (7, [.int th, .int (nI n), .ref dT, .ref gT, .int (nI ns), .ref la, .ref ca, .int (nI nn), .ref aa, .ref na, .ref ya, .int (nI nr), .ref ta, .int be, .int bp, .long bo, .int bm])), (dT, .inl (cI, 64, .inl d)), (gT, .inl (cZ, 64, .inl g)), (la, .inl (cI, 8, .inl sl)), (ca, .inl (cI, 128, .inl cr)), (aa, .inl (cI, 16, .inl ak)), (na, .inl (cI, 16, .inl no)), (ya, .inl (cI, 16, .inl ye)), (ta, .inl (cI, 48, .inl tl))] sz)) 0 0 (va_A [(o, .inr (7, [.int th, .int (nI n), .ref dT, .ref gT, .int (nI ns), .ref la, .ref ca, .int (nI nn), .ref aa, .ref na, .ref ya, .int (nI nr), .ref ta, .int be, .int bp, .long bo, .int bm])), (dT, .inl (cI, 64, .inl d)), (gT, .inl (cZ, 64, .inl g)), (la, .inl (cI, 8, .inl sl)), (ca, .inl (cI, 128, .inl cr)), (aa, .inl (cI, 16, .inl ak)), (na, .inl (cI, 16, .inl no)), (ya, .inl (cI, 16, .inl ye)), (ta, .inl (cI, 48, .inl tl))] sz) := by
  refine Met.ofW (cc := c_T_ask) (maxL := 5) (ret := (some .int)) (by decide) rfl ?_
  intro p e s m args below meth c s₁ B hml hv
  obtain ⟨rfl, hsz, hP, hK, hD0, hN⟩ := hv
  have hx := B.exec
  have hb := B.bytes
  have hr := B.returns
  have hg := gt_h (atoms_spec (ws := (wq y_T_ask c_T_ask 5 (some .int))) B.pre)
  have hown : s.vm.findClass "RubbingMirrorsModel" = some m.cls := findClass_of_methodNamed B.named
  have hlocks := B.notSynchronized
  subst hsz
  have hD := hD0.self (sz := s.heap.size)
  generalize hAe : va_A [(o, .inr (7, [.int th, .int (nI n), .ref dT, .ref gT, .int (nI ns), .ref la, .ref ca, .int (nI nn), .ref aa, .ref na, .ref ya, .int (nI nr), .ref ta, .int be, .int bp, .long bo, .int bm])), (dT, .inl (cI, 64, .inl d)), (gT, .inl (cZ, 64, .inl g)), (la, .inl (cI, 8, .inl sl)), (ca, .inl (cI, 128, .inl cr)), (aa, .inl (cI, 16, .inl ak)), (na, .inl (cI, 16, .inl no)), (ya, .inl (cI, 16, .inl ye)), (ta, .inl (cI, 48, .inl tl))] s.heap.size = A at hD ⊢
  have hA : ∀ q : Nat, s.heap.size ≤ q → A q := fun q h => by rw [← hAe]; exact Or.inr h
  have hS : va_S A s.heap s.heap [] := va_S.rf
  have hl := lv_entry ([.ref o, .int b9, .int k9]) (n := 5) (Nat.le_of_ble_eq_true rfl)
  rw [lg_entry_eq]
  generalize (lg_sl ([.ref o, .int b9, .int k9]) ++ List.replicate (5 - (lg_sl ([.ref o, .int b9, .int k9])).length) Slot.unset).toArray = ls at hl ⊢
  have hl : lv_has ls 5 [(0, .ref o), (1, .int b9), (2, .int k9)] := hl
  refine lv_aload_n hx hb d_T_ask_0 rfl (lv_at hl 0 rfl) ?_
  refine lv_iload_n hx hb d_T_ask_1 rfl (lv_at hl 1 rfl) ?_
  refine lv_i2l (v := b9.toInt64) hx hb d_T_ask_2 rfl ?_
  refine lv_lconst (v := 0) hx hb d_T_ask_3 (by decide) ?_
  refine lv_ldc2 (v := 65535) hx hb hown (hg _ g_785) d_T_ask_4 ?_
  refine vp_callSi (va_Run.run (va_runS (As := [.long b9.toInt64, .long 0, .long 65535]) (rest := [.ref o]) ⟨hx, hb, hml, hown, hg⟩ (c_T_isIn_ok l D cI cZ cJ cO b9.toInt64 0 65535) (va_cwS 3 hg (gs2 g_703 g_704 g_26 g_705) rfl rfl rfl (by decide +kernel) ⟨Nat.le_of_ble_eq_true rfl, Nat.le_of_ble_eq_true rfl⟩) (pS ba_nil hK hN) rfl rfl hl.1 rfl (lv_room (Nat.le_of_ble_eq_true rfl)) d_T_ask_7 ⟨Nat.zero_le _, Nat.zero_le _⟩)) (fun r_1 hr_1 => ?_)
  subst hr_1
  rw [lw_c (v := b9) (lo := 0) (hi := 65535) (by decide) (by decide)]
  refine lv_if_eq (tgt := 25) hx hb d_T_ask_10 (by decide) (fun c_10 => ?_) (fun c_10 => ?_)
  · refine lv_iconst (v := 1) hx hb d_T_ask_25 (by decide) ?_
    refine lv_goto (tgt := 41) hx hb d_T_ask_26 (by decide) ?_
    refine va_put (D := D) (ci := 7) (v := .int 1) (ty := .int) (C := Q_T) (T := F_T) (N := 17) hx hb hg in_T tq_T tq_T_ok n_T hown hK hP hD hS 0 rfl rfl 0 (by decide) (hg _ g_639) (fun _ h9 => h9) rfl (by decide +kernel) rfl rfl (Nat.le_of_ble_eq_true rfl) d_T_ask_41 (fun H locs hP hD hS => ?_)
    have hP : va_P D cls [(o, .inr (7, [.int 1, .int (nI n), .ref dT, .ref gT, .int (nI ns), .ref la, .ref ca, .int (nI nn), .ref aa, .ref na, .ref ya, .int (nI nr), .ref ta, .int be, .int bp, .long bo, .int bm])), (dT, .inl (cI, 64, .inl d)), (gT, .inl (cZ, 64, .inl g)), (la, .inl (cI, 8, .inl sl)), (ca, .inl (cI, 128, .inl cr)), (aa, .inl (cI, 16, .inl ak)), (na, .inl (cI, 16, .inl no)), (ya, .inl (cI, 16, .inl ye)), (ta, .inl (cI, 48, .inl tl))] H := hP
    have hD : va_D A [(o, .inr (7, [.int 1, .int (nI n), .ref dT, .ref gT, .int (nI ns), .ref la, .ref ca, .int (nI nn), .ref aa, .ref na, .ref ya, .int (nI nr), .ref ta, .int be, .int bp, .long bo, .int bm])), (dT, .inl (cI, 64, .inl d)), (gT, .inl (cZ, 64, .inl g)), (la, .inl (cI, 8, .inl sl)), (ca, .inl (cI, 128, .inl cr)), (aa, .inl (cI, 16, .inl ak)), (na, .inl (cI, 16, .inl no)), (ya, .inl (cI, 16, .inl ye)), (ta, .inl (cI, 48, .inl tl))] := hD
    refine lv_aload_n hx hb d_T_ask_44 rfl (lv_at hl 0 rfl) ?_
    refine va_get (D := D) (ci := 7) (v := .int 1) (C := Q_T) (T := F_T) (N := 17) hx hb hg in_T hown hK hP 0 rfl rfl 0 (by decide) (hg _ g_639) (fun _ h9 => h9) rfl d_T_ask_45 ?_
    refine lv_if_le (tgt := 53) hx hb d_T_ask_48 (by decide) (fun c_48 => ?_) (fun c_48 => ?_)
    · exact absurd c_48 (by decide)
    · refine lv_iconst (v := 0) hx hb d_T_ask_51 (by decide) ?_
      exact W.iret hx hb hr (fun t9 ht hW => ⟨⟨_, [(o, .inr (7, [.int 1, .int (nI n), .ref dT, .ref gT, .int (nI ns), .ref la, .ref ca, .int (nI nn), .ref aa, .ref na, .ref ya, .int (nI nr), .ref ta, .int be, .int bp, .long bo, .int bm])), (dT, .inl (cI, 64, .inl d)), (gT, .inl (cZ, 64, .inl g)), (la, .inl (cI, 8, .inl sl)), (ca, .inl (cI, 128, .inl cr)), (aa, .inl (cI, 16, .inl ak)), (na, .inl (cI, 16, .inl no)), (ya, .inl (cI, 16, .inl ye)), (ta, .inl (cI, 48, .inl tl))], rfl, Or.inr ⟨by first | (rw [ca_1 c_10]; decide) | (rw [ca_2 c_22]; decide) | (rw [ca_3 c_10 c_22 c_33]; decide), by first | rw [ca_1 c_10] | rw [ca_2 c_22] | rw [ca_3 c_10 c_22 c_33]⟩, by rw [ht]; exact hP, va_K.moved hW.alike hK, hD⟩, hS.F ht⟩) hS.2.2 d_T_ask_52
  · refine lv_iload_n hx hb d_T_ask_13 rfl (lv_at hl 2 rfl) ?_
    refine lv_i2l (v := k9.toInt64) hx hb d_T_ask_14 rfl ?_
    refine lv_lconst (v := 0) hx hb d_T_ask_15 (by decide) ?_
    refine lv_ldc2 (v := 65535) hx hb hown (hg _ g_785) d_T_ask_16 ?_
    refine vp_callSi (va_Run.run (va_runS (As := [.long k9.toInt64, .long 0, .long 65535]) (rest := [.ref o]) ⟨hx, hb, hml, hown, hg⟩ (c_T_isIn_ok l D cI cZ cJ cO k9.toInt64 0 65535) (va_cwS 3 hg (gs2 g_703 g_704 g_26 g_705) rfl rfl rfl (by decide +kernel) ⟨Nat.le_of_ble_eq_true rfl, Nat.le_of_ble_eq_true rfl⟩) (pS ba_nil hK hN) rfl rfl hl.1 rfl (lv_room (Nat.le_of_ble_eq_true rfl)) d_T_ask_19 ⟨Nat.zero_le _, Nat.zero_le _⟩)) (fun r_2 hr_2 => ?_)
    subst hr_2
    rw [lw_c (v := k9) (lo := 0) (hi := 65535) (by decide) (by decide)]
    refine lv_if_ne (tgt := 29) hx hb d_T_ask_22 (by decide) (fun c_22 => ?_) (fun c_22 => ?_)
    · refine lv_aload_n hx hb d_T_ask_29 rfl (lv_at hl 0 rfl) ?_
      refine va_get (D := D) (ci := 7) (v := .int (nI nn)) (C := Q_T) (T := F_T) (N := 17) hx hb hg in_T hown hK hP 0 rfl rfl 7 (by decide) (hg _ g_646) (fun _ h9 => h9) rfl d_T_ask_30 ?_
      refine lv_if_ne (tgt := 40) hx hb d_T_ask_33 (by decide) (fun c_33 => ?_) (fun c_33 => ?_)
      · refine lv_iconst (v := 0) hx hb d_T_ask_40 (by decide) ?_
        refine va_put (D := D) (ci := 7) (v := .int 0) (ty := .int) (C := Q_T) (T := F_T) (N := 17) hx hb hg in_T tq_T tq_T_ok n_T hown hK hP hD hS 0 rfl rfl 0 (by decide) (hg _ g_639) (fun _ h9 => h9) rfl (by decide +kernel) rfl rfl (Nat.le_of_ble_eq_true rfl) d_T_ask_41 (fun H locs hP hD hS => ?_)
        have hP : va_P D cls [(o, .inr (7, [.int 0, .int (nI n), .ref dT, .ref gT, .int (nI ns), .ref la, .ref ca, .int (nI nn), .ref aa, .ref na, .ref ya, .int (nI nr), .ref ta, .int be, .int bp, .long bo, .int bm])), (dT, .inl (cI, 64, .inl d)), (gT, .inl (cZ, 64, .inl g)), (la, .inl (cI, 8, .inl sl)), (ca, .inl (cI, 128, .inl cr)), (aa, .inl (cI, 16, .inl ak)), (na, .inl (cI, 16, .inl no)), (ya, .inl (cI, 16, .inl ye)), (ta, .inl (cI, 48, .inl tl))] H := hP
        have hD : va_D A [(o, .inr (7, [.int 0, .int (nI n), .ref dT, .ref gT, .int (nI ns), .ref la, .ref ca, .int (nI nn), .ref aa, .ref na, .ref ya, .int (nI nr), .ref ta, .int be, .int bp, .long bo, .int bm])), (dT, .inl (cI, 64, .inl d)), (gT, .inl (cZ, 64, .inl g)), (la, .inl (cI, 8, .inl sl)), (ca, .inl (cI, 128, .inl cr)), (aa, .inl (cI, 16, .inl ak)), (na, .inl (cI, 16, .inl no)), (ya, .inl (cI, 16, .inl ye)), (ta, .inl (cI, 48, .inl tl))] := hD
        refine lv_aload_n hx hb d_T_ask_44 rfl (lv_at hl 0 rfl) ?_
        refine va_get (D := D) (ci := 7) (v := .int 0) (C := Q_T) (T := F_T) (N := 17) hx hb hg in_T hown hK hP 0 rfl rfl 0 (by decide) (hg _ g_639) (fun _ h9 => h9) rfl d_T_ask_45 ?_
        refine lv_if_le (tgt := 53) hx hb d_T_ask_48 (by decide) (fun c_48 => ?_) (fun c_48 => ?_)
        · refine lv_aload_n hx hb d_T_ask_53 rfl (lv_at hl 0 rfl) ?_
          refine va_get (D := D) (ci := 7) (v := .int (nI nn)) (C := Q_T) (T := F_T) (N := 17) hx hb hg in_T hown hK hP 0 rfl rfl 7 (by decide) (hg _ g_646) (fun _ h9 => h9) rfl d_T_ask_54 ?_
          refine lv_iconst (v := 1) hx hb d_T_ask_57 (by decide) ?_
          refine lv_isub hx hb d_T_ask_58 ?_
          refine lv_istore_n (lv' := [(3, .int ((nI nn) - 1)), (0, .ref o), (1, .int b9), (2, .int k9)]) hx hb d_T_ask_59 rfl hl (by decide) rfl (fun ls hl => ?_)
          have loop_60 : ∀ (f60 : Nat) (a : Nat) (x3 : Int32) (ls : Array Slot), (a < f60 ∧ a < nn ∧ x3 = nI a ∧ qa ak no ye b9 k9 f60 a = qa ak no ye b9 k9 nn (nn - 1)) → lv_has ls 5 [(0, .ref o), (1, .int b9), (2, .int k9), (3, .int x3)] → W p l e (headSpec (wq y_T_ask c_T_ask 5 (some .int)) ({ frames := 1, cells := 0, slots := 0, locals := 25 })).room s m ([.ref o, .int b9, .int k9] : List Value).toArray below meth c H locs 0 0 (MQ below (va_Qi (fun (r : Int32) (u : va_W) => ((cAsk b9 k9 nn = 0 ∧ u = [(o, .inr (7, [.int 0, .int (nI n), .ref dT, .ref gT, .int (nI ns), .ref la, .ref ca, .int (nI nn), .ref aa, .ref na, .ref ya, .int (nI nr), .ref ta, .int be, .int bp, .long bo, .int bm])), (dT, .inl (cI, 64, .inl d)), (gT, .inl (cZ, 64, .inl g)), (la, .inl (cI, 8, .inl sl)), (ca, .inl (cI, 128, .inl cr)), (aa, .inl (cI, 16, .inl ak)), (na, .inl (cI, 16, .inl no)), (ya, .inl (cI, 16, .inl ye)), (ta, .inl (cI, 48, .inl tl))] ∧ r = qa ak no ye b9 k9 nn (nn - 1)) ∨ (¬ cAsk b9 k9 nn = 0 ∧ u = [(o, .inr (7, [.int (cAsk b9 k9 nn), .int (nI n), .ref dT, .ref gT, .int (nI ns), .ref la, .ref ca, .int (nI nn), .ref aa, .ref na, .ref ya, .int (nI nr), .ref ta, .int be, .int bp, .long bo, .int bm])), (dT, .inl (cI, 64, .inl d)), (gT, .inl (cZ, 64, .inl g)), (la, .inl (cI, 8, .inl sl)), (ca, .inl (cI, 128, .inl cr)), (aa, .inl (cI, 16, .inl ak)), (na, .inl (cI, 16, .inl no)), (ya, .inl (cI, 16, .inl ye)), (ta, .inl (cI, 48, .inl tl))]))) (mB D (TY cI cZ cJ cO) A) A) ([.ref o, .int b9, .int k9] : List Value).toArray s 0 0 A) (F0 m 60 ls []) := by
            intro f60
            induction f60 with
            | zero =>
              intro a x3 ls hI hl
              obtain ⟨ha1, ha2, rfl, hq⟩ := hI
              omega
            | succ f60 ih60 =>
              intro a x3 ls hI hl
              obtain ⟨ha1, ha2, rfl, hq⟩ := hI
              refine lv_aload_n hx hb d_T_ask_60 rfl (lv_at hl 0 rfl) ?_
              refine va_get (D := D) (ci := 7) (v := .ref aa) (C := Q_T) (T := F_T) (N := 17) hx hb hg in_T hown hK hP 0 rfl rfl 8 (by decide) (hg _ g_647) (fun _ h9 => h9) rfl d_T_ask_61 ?_
              refine lv_iload_n hx hb d_T_ask_64 rfl (lv_at hl 3 rfl) ?_
              refine va_iald hx hb hK hP 5 0 rfl rfl (v16 (by omega)) d_T_ask_65 ?_
              refine lv_topi (fun y_3 ey_3 => ?_)
              obtain rfl : y_3 = ak a := ey_3.trans (by rw [nI_clamp (show a < 2 ^ 31 by omega)])
              refine lv_if_ge (tgt := 123) hx hb d_T_ask_66 (by decide) (fun c_66 => ?_) (fun c_66 => ?_)
              · refine lv_aload_n hx hb d_T_ask_123 rfl (lv_at hl 0 rfl) ?_
                refine va_get (D := D) (ci := 7) (v := .ref aa) (C := Q_T) (T := F_T) (N := 17) hx hb hg in_T hown hK hP 0 rfl rfl 8 (by decide) (hg _ g_647) (fun _ h9 => h9) rfl d_T_ask_124 ?_
                refine lv_iload_n hx hb d_T_ask_127 rfl (lv_at hl 3 rfl) ?_
                refine va_iald hx hb hK hP 5 0 rfl rfl (v16 (by omega)) d_T_ask_128 ?_
                refine lv_topi (fun y_4 ey_4 => ?_)
                obtain rfl : y_4 = ak a := ey_4.trans (by rw [nI_clamp (show a < 2 ^ 31 by omega)])
                exact W.iret hx hb hr (fun t9 ht hW => ⟨⟨_, [(o, .inr (7, [.int 0, .int (nI n), .ref dT, .ref gT, .int (nI ns), .ref la, .ref ca, .int (nI nn), .ref aa, .ref na, .ref ya, .int (nI nr), .ref ta, .int be, .int bp, .long bo, .int bm])), (dT, .inl (cI, 64, .inl d)), (gT, .inl (cZ, 64, .inl g)), (la, .inl (cI, 8, .inl sl)), (ca, .inl (cI, 128, .inl cr)), (aa, .inl (cI, 16, .inl ak)), (na, .inl (cI, 16, .inl no)), (ya, .inl (cI, 16, .inl ye)), (ta, .inl (cI, 48, .inl tl))], rfl, Or.inl ⟨ca_0 c_10 c_22 c_33, rfl, (by rw [← hq, qa]; first | rw [if_pos c_66] | rw [if_neg c_66, if_pos c_85])⟩, by rw [ht]; exact hP, va_K.moved hW.alike hK, hD⟩, hS.F ht⟩) hS.2.2 d_T_ask_129
              · refine lv_iconst (v := (-1)) hx hb d_T_ask_69 (by decide) ?_
                refine lv_aload_n hx hb d_T_ask_70 rfl (lv_at hl 0 rfl) ?_
                refine va_get (D := D) (ci := 7) (v := .ref aa) (C := Q_T) (T := F_T) (N := 17) hx hb hg in_T hown hK hP 0 rfl rfl 8 (by decide) (hg _ g_647) (fun _ h9 => h9) rfl d_T_ask_71 ?_
                refine lv_iload_n hx hb d_T_ask_74 rfl (lv_at hl 3 rfl) ?_
                refine va_iald hx hb hK hP 5 0 rfl rfl (v16 (by omega)) d_T_ask_75 ?_
                refine lv_topi (fun y_5 ey_5 => ?_)
                obtain rfl : y_5 = ak a := ey_5.trans (by rw [nI_clamp (show a < 2 ^ 31 by omega)])
                refine lv_isub hx hb d_T_ask_76 ?_
                refine lv_istore (lv' := [(4, .int ((-1) - (ak a))), (0, .ref o), (1, .int b9), (2, .int k9), (3, .int (nI a))]) hx hb d_T_ask_77 hl (by decide) rfl (fun ls hl => ?_)
                refine lv_iload_n hx hb d_T_ask_79 rfl (lv_at hl 3 rfl) ?_
                refine lv_iload hx hb d_T_ask_80 (lv_at hl 0 rfl) ?_
                refine lv_ishr hx hb d_T_ask_82 ?_
                refine lv_iconst (v := 1) hx hb d_T_ask_83 (by decide) ?_
                refine lv_iand hx hb d_T_ask_84 ?_
                refine lv_if_ne (tgt := 94) hx hb d_T_ask_85 (by decide) (fun c_85 => ?_) (fun c_85 => ?_)
                · refine lv_iload_n hx hb d_T_ask_94 rfl (lv_at hl 2 rfl) ?_
                  refine lv_iload hx hb d_T_ask_95 (lv_at hl 0 rfl) ?_
                  refine lv_ishr hx hb d_T_ask_97 ?_
                  refine lv_iconst (v := 1) hx hb d_T_ask_98 (by decide) ?_
                  refine lv_iand hx hb d_T_ask_99 ?_
                  refine lv_iconst (v := 1) hx hb d_T_ask_100 (by decide) ?_
                  refine lv_icmp_ne (tgt := 113) hx hb d_T_ask_101 (by decide) (fun c_101 => ?_) (fun c_101 => ?_)
                  · refine lv_aload_n hx hb d_T_ask_113 rfl (lv_at hl 1 rfl) ?_
                    refine va_get (D := D) (ci := 7) (v := .ref na) (C := Q_T) (T := F_T) (N := 17) hx hb hg in_T hown hK hP 0 rfl rfl 9 (by decide) (hg _ g_648) (fun _ h9 => h9) rfl d_T_ask_114 ?_
                    refine lv_iload_n hx hb d_T_ask_117 rfl (lv_at hl 4 rfl) ?_
                    refine va_iald hx hb hK hP 6 0 rfl rfl (v16 (by omega)) d_T_ask_118 ?_
                    refine lv_topi (fun y_6 ey_6 => ?_)
                    obtain rfl : y_6 = no a := ey_6.trans (by rw [nI_clamp (show a < 2 ^ 31 by omega)])
                    refine lv_istore_n (lv' := [(3, .int (no a)), (4, .int ((-1) - (ak a))), (0, .ref o), (1, .int b9), (2, .int k9)]) hx hb d_T_ask_119 rfl hl (by decide) rfl (fun ls hl => ?_)
                    refine lv_goto (tgt := 60) hx hb d_T_ask_120 (by decide) ?_
                    obtain ⟨x9, hx9, ex9⟩ := (hnOK a (by omega) c_66).1
                    exact ih60 x9 (no a) ls (⟨by omega, by omega, by rw [ex9], by rw [← hq, qa, if_neg c_66, if_neg c_85, if_neg c_101, ex9, nI_clamp (show x9 < 2 ^ 31 by omega)]⟩) (lv_sub hl [2, 3, 4, 0] rfl)
                  · refine lv_aload_n hx hb d_T_ask_104 rfl (lv_at hl 1 rfl) ?_
                    refine va_get (D := D) (ci := 7) (v := .ref ya) (C := Q_T) (T := F_T) (N := 17) hx hb hg in_T hown hK hP 0 rfl rfl 10 (by decide) (hg _ g_649) (fun _ h9 => h9) rfl d_T_ask_105 ?_
                    refine lv_iload_n hx hb d_T_ask_108 rfl (lv_at hl 4 rfl) ?_
                    refine va_iald hx hb hK hP 7 0 rfl rfl (v16 (by omega)) d_T_ask_109 ?_
                    refine lv_topi (fun y_7 ey_7 => ?_)
                    obtain rfl : y_7 = ye a := ey_7.trans (by rw [nI_clamp (show a < 2 ^ 31 by omega)])
                    refine lv_goto (tgt := 119) hx hb d_T_ask_110 (by decide) ?_
                    refine lv_istore_n (lv' := [(3, .int (ye a)), (4, .int ((-1) - (ak a))), (0, .ref o), (1, .int b9), (2, .int k9)]) hx hb d_T_ask_119 rfl hl (by decide) rfl (fun ls hl => ?_)
                    refine lv_goto (tgt := 60) hx hb d_T_ask_120 (by decide) ?_
                    obtain ⟨x9, hx9, ex9⟩ := (hnOK a (by omega) c_66).2
                    exact ih60 x9 (ye a) ls (⟨by omega, by omega, by rw [ex9], by rw [← hq, qa, if_neg c_66, if_neg c_85, if_pos c_101, ex9, nI_clamp (show x9 < 2 ^ 31 by omega)]⟩) (lv_sub hl [2, 3, 4, 0] rfl)
                · refine lv_bipush (v := (-2)) hx hb d_T_ask_88 (by decide) ?_
                  refine lv_iload hx hb d_T_ask_90 (lv_at hl 0 rfl) ?_
                  refine lv_isub hx hb d_T_ask_92 ?_
                  exact W.iret hx hb hr (fun t9 ht hW => ⟨⟨_, [(o, .inr (7, [.int 0, .int (nI n), .ref dT, .ref gT, .int (nI ns), .ref la, .ref ca, .int (nI nn), .ref aa, .ref na, .ref ya, .int (nI nr), .ref ta, .int be, .int bp, .long bo, .int bm])), (dT, .inl (cI, 64, .inl d)), (gT, .inl (cZ, 64, .inl g)), (la, .inl (cI, 8, .inl sl)), (ca, .inl (cI, 128, .inl cr)), (aa, .inl (cI, 16, .inl ak)), (na, .inl (cI, 16, .inl no)), (ya, .inl (cI, 16, .inl ye)), (ta, .inl (cI, 48, .inl tl))], rfl, Or.inl ⟨ca_0 c_10 c_22 c_33, rfl, (by rw [← hq, qa]; first | rw [if_pos c_66] | rw [if_neg c_66, if_pos c_85])⟩, by rw [ht]; exact hP, va_K.moved hW.alike hK, hD⟩, hS.F ht⟩) hS.2.2 d_T_ask_93
          exact loop_60 nn (nn - 1) ((nI nn) - 1) ls (⟨by have := nn0 hnn c_33; omega, by have := nn0 hnn c_33; omega, nnm (nn0 hnn c_33), rfl⟩) (lv_sub hl [1, 2, 3, 0] rfl)
        · exact absurd c_48 (by decide)
      · refine lv_iconst (v := 2) hx hb d_T_ask_36 (by decide) ?_
        refine lv_goto (tgt := 41) hx hb d_T_ask_37 (by decide) ?_
        refine va_put (D := D) (ci := 7) (v := .int 2) (ty := .int) (C := Q_T) (T := F_T) (N := 17) hx hb hg in_T tq_T tq_T_ok n_T hown hK hP hD hS 0 rfl rfl 0 (by decide) (hg _ g_639) (fun _ h9 => h9) rfl (by decide +kernel) rfl rfl (Nat.le_of_ble_eq_true rfl) d_T_ask_41 (fun H locs hP hD hS => ?_)
        have hP : va_P D cls [(o, .inr (7, [.int 2, .int (nI n), .ref dT, .ref gT, .int (nI ns), .ref la, .ref ca, .int (nI nn), .ref aa, .ref na, .ref ya, .int (nI nr), .ref ta, .int be, .int bp, .long bo, .int bm])), (dT, .inl (cI, 64, .inl d)), (gT, .inl (cZ, 64, .inl g)), (la, .inl (cI, 8, .inl sl)), (ca, .inl (cI, 128, .inl cr)), (aa, .inl (cI, 16, .inl ak)), (na, .inl (cI, 16, .inl no)), (ya, .inl (cI, 16, .inl ye)), (ta, .inl (cI, 48, .inl tl))] H := hP
        have hD : va_D A [(o, .inr (7, [.int 2, .int (nI n), .ref dT, .ref gT, .int (nI ns), .ref la, .ref ca, .int (nI nn), .ref aa, .ref na, .ref ya, .int (nI nr), .ref ta, .int be, .int bp, .long bo, .int bm])), (dT, .inl (cI, 64, .inl d)), (gT, .inl (cZ, 64, .inl g)), (la, .inl (cI, 8, .inl sl)), (ca, .inl (cI, 128, .inl cr)), (aa, .inl (cI, 16, .inl ak)), (na, .inl (cI, 16, .inl no)), (ya, .inl (cI, 16, .inl ye)), (ta, .inl (cI, 48, .inl tl))] := hD
        refine lv_aload_n hx hb d_T_ask_44 rfl (lv_at hl 0 rfl) ?_
        refine va_get (D := D) (ci := 7) (v := .int 2) (C := Q_T) (T := F_T) (N := 17) hx hb hg in_T hown hK hP 0 rfl rfl 0 (by decide) (hg _ g_639) (fun _ h9 => h9) rfl d_T_ask_45 ?_
        refine lv_if_le (tgt := 53) hx hb d_T_ask_48 (by decide) (fun c_48 => ?_) (fun c_48 => ?_)
        · exact absurd c_48 (by decide)
        · refine lv_iconst (v := 0) hx hb d_T_ask_51 (by decide) ?_
          exact W.iret hx hb hr (fun t9 ht hW => ⟨⟨_, [(o, .inr (7, [.int 2, .int (nI n), .ref dT, .ref gT, .int (nI ns), .ref la, .ref ca, .int (nI nn), .ref aa, .ref na, .ref ya, .int (nI nr), .ref ta, .int be, .int bp, .long bo, .int bm])), (dT, .inl (cI, 64, .inl d)), (gT, .inl (cZ, 64, .inl g)), (la, .inl (cI, 8, .inl sl)), (ca, .inl (cI, 128, .inl cr)), (aa, .inl (cI, 16, .inl ak)), (na, .inl (cI, 16, .inl no)), (ya, .inl (cI, 16, .inl ye)), (ta, .inl (cI, 48, .inl tl))], rfl, Or.inr ⟨by first | (rw [ca_1 c_10]; decide) | (rw [ca_2 c_22]; decide) | (rw [ca_3 c_10 c_22 c_33]; decide), by first | rw [ca_1 c_10] | rw [ca_2 c_22] | rw [ca_3 c_10 c_22 c_33]⟩, by rw [ht]; exact hP, va_K.moved hW.alike hK, hD⟩, hS.F ht⟩) hS.2.2 d_T_ask_52
    · refine lv_iconst (v := 1) hx hb d_T_ask_25 (by decide) ?_
      refine lv_goto (tgt := 41) hx hb d_T_ask_26 (by decide) ?_
      refine va_put (D := D) (ci := 7) (v := .int 1) (ty := .int) (C := Q_T) (T := F_T) (N := 17) hx hb hg in_T tq_T tq_T_ok n_T hown hK hP hD hS 0 rfl rfl 0 (by decide) (hg _ g_639) (fun _ h9 => h9) rfl (by decide +kernel) rfl rfl (Nat.le_of_ble_eq_true rfl) d_T_ask_41 (fun H locs hP hD hS => ?_)
      have hP : va_P D cls [(o, .inr (7, [.int 1, .int (nI n), .ref dT, .ref gT, .int (nI ns), .ref la, .ref ca, .int (nI nn), .ref aa, .ref na, .ref ya, .int (nI nr), .ref ta, .int be, .int bp, .long bo, .int bm])), (dT, .inl (cI, 64, .inl d)), (gT, .inl (cZ, 64, .inl g)), (la, .inl (cI, 8, .inl sl)), (ca, .inl (cI, 128, .inl cr)), (aa, .inl (cI, 16, .inl ak)), (na, .inl (cI, 16, .inl no)), (ya, .inl (cI, 16, .inl ye)), (ta, .inl (cI, 48, .inl tl))] H := hP
      have hD : va_D A [(o, .inr (7, [.int 1, .int (nI n), .ref dT, .ref gT, .int (nI ns), .ref la, .ref ca, .int (nI nn), .ref aa, .ref na, .ref ya, .int (nI nr), .ref ta, .int be, .int bp, .long bo, .int bm])), (dT, .inl (cI, 64, .inl d)), (gT, .inl (cZ, 64, .inl g)), (la, .inl (cI, 8, .inl sl)), (ca, .inl (cI, 128, .inl cr)), (aa, .inl (cI, 16, .inl ak)), (na, .inl (cI, 16, .inl no)), (ya, .inl (cI, 16, .inl ye)), (ta, .inl (cI, 48, .inl tl))] := hD
      refine lv_aload_n hx hb d_T_ask_44 rfl (lv_at hl 0 rfl) ?_
      refine va_get (D := D) (ci := 7) (v := .int 1) (C := Q_T) (T := F_T) (N := 17) hx hb hg in_T hown hK hP 0 rfl rfl 0 (by decide) (hg _ g_639) (fun _ h9 => h9) rfl d_T_ask_45 ?_
      refine lv_if_le (tgt := 53) hx hb d_T_ask_48 (by decide) (fun c_48 => ?_) (fun c_48 => ?_)
      · exact absurd c_48 (by decide)
      · refine lv_iconst (v := 0) hx hb d_T_ask_51 (by decide) ?_
        exact W.iret hx hb hr (fun t9 ht hW => ⟨⟨_, [(o, .inr (7, [.int 1, .int (nI n), .ref dT, .ref gT, .int (nI ns), .ref la, .ref ca, .int (nI nn), .ref aa, .ref na, .ref ya, .int (nI nr), .ref ta, .int be, .int bp, .long bo, .int bm])), (dT, .inl (cI, 64, .inl d)), (gT, .inl (cZ, 64, .inl g)), (la, .inl (cI, 8, .inl sl)), (ca, .inl (cI, 128, .inl cr)), (aa, .inl (cI, 16, .inl ak)), (na, .inl (cI, 16, .inl no)), (ya, .inl (cI, 16, .inl ye)), (ta, .inl (cI, 48, .inl tl))], rfl, Or.inr ⟨by first | (rw [ca_1 c_10]; decide) | (rw [ca_2 c_22]; decide) | (rw [ca_3 c_10 c_22 c_33]; decide), by first | rw [ca_1 c_10] | rw [ca_2 c_22] | rw [ca_3 c_10 c_22 c_33]⟩, by rw [ht]; exact hP, va_K.moved hW.alike hK, hD⟩, hS.F ht⟩) hS.2.2 d_T_ask_52
