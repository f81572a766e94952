
/-- the PAIRS of mirror A among the first j places -/
def mp (n : Nat) (d g : Nat → Int32) (A : Nat) : Nat → Nat
  | 0 => 0
  | j + 1 => mp n d g A j + (if kn n d g (j : Int) && kn n d g ((A : Int) - j) then 1 else 0)
/-- the OFF of mirror A among the first j places -/
def mo (n : Nat) (d g : Nat → Int32) (A : Nat) : Nat → Int32
  | 0 => 0
  | j + 1 => mo n d g A j + (if kn n d g (j : Int) && kn n d g ((A : Int) - j) then (d j - d (A - j)) * (d j - d (A - j)) else 0)
/-- the SUM of step S among the first j places -/
def rs (n : Nat) (d g : Nat → Int32) (S : Nat) : Nat → Int64
  | 0 => 0
  | j + 1 => rs n d g S j + (if kn n d g (j : Int) && kn n d g ((j : Int) + S) then ((d j - 128) * (d (j + S) - 128)).toInt64 else 0)
theorem sub_ti {a b : Nat} (ha : a < 2 ^ 20) (hb : b < 2 ^ 20) : (nI a - nI b).toInt = (a : Int) - b := pk_sub_toInt (by omega) (by omega)
theorem add_ti {a b : Nat} (ha : a < 2 ^ 20) (hb : b < 2 ^ 20) : (nI a + nI b).toInt = (a : Int) + b := by rw [nI_add, nI_toInt (by omega)]; omega
theorem mj_out {A j : Nat} (hA : A < 2 ^ 20) (h : j ≤ (A + 1) / 2) (c : nI A - nI j ≤ nI j) : j = (A + 1) / 2 := by
  rw [ile, sub_ti hA (by omega), nI_toInt (by omega)] at c
  omega
theorem mj_in {A j : Nat} (hA : A < 2 ^ 20) (h : j ≤ (A + 1) / 2) (c : ¬ nI A - nI j ≤ nI j) : 2 * j < A := by
  rw [ile, sub_ti hA (by omega), nI_toInt (by omega)] at c
  omega
theorem kn1 {n : Nat} {d g : Nat → Int32} {j : Nat} (hj : j < 2 ^ 20) : kn n d g (nI j).toInt = kn n d g (j : Int) := by rw [nI_toInt (by omega)]
theorem kn2 {n : Nat} {d g : Nat → Int32} {A j : Nat} (hA : A < 2 ^ 20) (hj : j < 2 ^ 20) : kn n d g (nI A - nI j).toInt = kn n d g ((A : Int) - j) := by rw [sub_ti hA hj]
theorem kn3 {n : Nat} {d g : Nat → Int32} {A j : Nat} (hA : A < 2 ^ 20) (hj : j < 2 ^ 20) : kn n d g (nI A + nI j).toInt = kn n d g ((A : Int) + j) := by rw [add_ti hA hj]
theorem mp_t {n : Nat} {d g : Nat → Int32} {A j : Nat} (hA : A < 2 ^ 20) (hj : j < 2 ^ 20) (h1 : ¬ bI (kn n d g (nI j).toInt) = 0) (h2 : ¬ bI (kn n d g (nI A - nI j).toInt) = 0) : nI (mp n d g A j) + 1 = nI (mp n d g A (j + 1)) := by
  rw [kn1 hj] at h1; rw [kn2 hA hj] at h2
  rw [nI_1, mp, bI_ne0 h1, bI_ne0 h2]; rfl
theorem mp_f1 {n : Nat} {d g : Nat → Int32} {A j : Nat} (hj : j < 2 ^ 20) (h1 : bI (kn n d g (nI j).toInt) = 0) : nI (mp n d g A j) = nI (mp n d g A (j + 1)) := by
  rw [kn1 hj] at h1
  rw [mp, bI_eq0 h1]; rfl
theorem mp_f2 {n : Nat} {d g : Nat → Int32} {A j : Nat} (hA : A < 2 ^ 20) (hj : j < 2 ^ 20) (h2 : bI (kn n d g (nI A - nI j).toInt) = 0) : nI (mp n d g A j) = nI (mp n d g A (j + 1)) := by
  rw [kn2 hA hj] at h2
  rw [mp, bI_eq0 h2, Bool.and_false]; rfl
theorem mo_t {n : Nat} {d g : Nat → Int32} {A j : Nat} (hA : A < 2 ^ 20) (hj : 2 * j < A) (h1 : ¬ bI (kn n d g (nI j).toInt) = 0) (h2 : ¬ bI (kn n d g (nI A - nI j).toInt) = 0) : mo n d g A j + (d (nI j).toNatClampNeg - d (nI A - nI j).toNatClampNeg) * (d (nI j).toNatClampNeg - d (nI A - nI j).toNatClampNeg) = mo n d g A (j + 1) := by
  rw [kn1 (by omega)] at h1; rw [kn2 hA (by omega)] at h2
  rw [nI_clamp (by omega), pk_sub (by omega), nI_clamp (by omega), mo, bI_ne0 h1, bI_ne0 h2]; rfl
theorem mo_f1 {n : Nat} {d g : Nat → Int32} {A j : Nat} (hj : j < 2 ^ 20) (h1 : bI (kn n d g (nI j).toInt) = 0) : mo n d g A j = mo n d g A (j + 1) := by
  rw [kn1 hj] at h1
  rw [mo, bI_eq0 h1]; exact (Int32.add_zero _).symm
theorem mo_f2 {n : Nat} {d g : Nat → Int32} {A j : Nat} (hA : A < 2 ^ 20) (hj : j < 2 ^ 20) (h2 : bI (kn n d g (nI A - nI j).toInt) = 0) : mo n d g A j = mo n d g A (j + 1) := by
  rw [kn2 hA hj] at h2
  rw [mo, bI_eq0 h2, Bool.and_false]; exact (Int32.add_zero _).symm
theorem rs_t {n : Nat} {d g : Nat → Int32} {S j : Nat} (hS : S < 2 ^ 20) (hj : j < 2 ^ 20) (h1 : ¬ bI (kn n d g (nI j).toInt) = 0) (h2 : ¬ bI (kn n d g (nI j + nI S).toInt) = 0) : rs n d g S j + ((d (nI j).toNatClampNeg - 128) * (d (nI j + nI S).toNatClampNeg - 128)).toInt64 = rs n d g S (j + 1) := by
  rw [kn1 hj] at h1; rw [kn3 hj hS] at h2
  rw [nI_clamp (by omega), nI_add, nI_clamp (by omega), rs, bI_ne0 h1, bI_ne0 h2]; rfl
theorem rs_f1 {n : Nat} {d g : Nat → Int32} {S j : Nat} (hj : j < 2 ^ 20) (h1 : bI (kn n d g (nI j).toInt) = 0) : rs n d g S j = rs n d g S (j + 1) := by
  rw [kn1 hj] at h1
  rw [rs, bI_eq0 h1]; exact (Int64.add_zero _).symm
theorem rs_f2 {n : Nat} {d g : Nat → Int32} {S j : Nat} (hS : S < 2 ^ 20) (hj : j < 2 ^ 20) (h2 : bI (kn n d g (nI j + nI S).toInt) = 0) : rs n d g S j = rs n d g S (j + 1) := by
  rw [kn3 hj hS] at h2
  rw [rs, bI_eq0 h2, Bool.and_false]; exact (Int64.add_zero _).symm
theorem rj_out {n S j : Nat} (hn : n < 2 ^ 20) (hS : S ≤ n) (h : j ≤ n - S) (c : nI n - nI S ≤ nI j) : j = n - S := by
  rw [ile, sub_ti hn (by omega), nI_toInt (by omega)] at c
  omega
theorem rj_in {n S j : Nat} (hn : n < 2 ^ 20) (hS : S ≤ n) (h : j ≤ n - S) (c : ¬ nI n - nI S ≤ nI j) : j < n - S := by
  rw [ile, sub_ti hn (by omega), nI_toInt (by omega)] at c
  omega

set_option maxHeartbeats 4000000 in
set_option maxRecDepth 100000 in
theorem c_R_mirrorPairs_ok (l : Launch) (D : va_G) (cI cZ cJ cO : ClassId) (h0 da ga : Nat) (n : Nat) (d g : Nat → Int32) (hn : n < 2 ^ 20) (A : Nat) (hA : A < 2 ^ 20) : Met l y_R_mirrorPairs (wq y_R_mirrorPairs c_R_mirrorPairs 4 (some .int)) ({ frames := 2, cells := 0, slots := 0, locals := 42 }) (rP D (TY cI cZ cJ cO) [(h0, .inr (2, [.ref da, .ref ga])), (da, .inl (cI, n, .inl d)), (ga, .inl (cZ, n, .inl g))] [.ref h0, .int (nI A)]) (vp_Si (fun r => r = nI (mp n d g A ((A + 1) / 2)))) 0 0 (fun _ => False) := by
  refine Met.ofW (cc := c_R_mirrorPairs) (maxL := 4) (ret := (some .int)) (by decide) rfl ?_
  intro p e s m args below meth c s₁ B hml hv
  obtain ⟨rfl, hP, hK, hN⟩ := hv
  have hx := B.exec
  have hb := B.bytes
  have hr := B.returns
  have hg := gt_h (atoms_spec (ws := (wq y_R_mirrorPairs c_R_mirrorPairs 4 (some .int))) B.pre)
  have hown : s.vm.findClass "RubbingMirrors$Row" = some m.cls := findClass_of_methodNamed B.named
  have hlocks := B.notSynchronized
  have hl := lv_entry ([.ref h0, .int (nI A)]) (n := 4) (Nat.le_of_ble_eq_true rfl)
  rw [lg_entry_eq]
  generalize (lg_sl ([.ref h0, .int (nI A)]) ++ List.replicate (4 - (lg_sl ([.ref h0, .int (nI A)])).length) Slot.unset).toArray = ls at hl ⊢
  have hl : lv_has ls 4 [(0, .ref h0), (1, .int (nI A))] := hl
  refine lv_iconst (v := 0) hx hb d_R_mirrorPairs_0 (by decide) ?_
  refine lv_istore_n (lv' := [(2, .int 0), (0, .ref h0), (1, .int (nI A))]) hx hb d_R_mirrorPairs_1 rfl hl (by decide) rfl (fun ls hl => ?_)
  refine lv_iconst (v := 0) hx hb d_R_mirrorPairs_2 (by decide) ?_
  refine lv_istore_n (lv' := [(3, .int 0), (2, .int 0), (0, .ref h0), (1, .int (nI A))]) hx hb d_R_mirrorPairs_3 rfl hl (by decide) rfl (fun ls hl => ?_)
  have loop_4 : ∀ (f4 : Nat) (j : Nat) (x2 : Int32) (x3 : Int32) (ls : Array Slot), (j ≤ (A + 1) / 2 ∧ (A + 1) / 2 < j + f4 ∧ x2 = nI (mp n d g A j) ∧ x3 = nI j) → lv_has ls 4 [(0, .ref h0), (1, .int (nI A)), (2, .int x2), (3, .int x3)] → W p l e (headSpec (wq y_R_mirrorPairs c_R_mirrorPairs 4 (some .int)) ({ frames := 2, cells := 0, slots := 0, locals := 42 })).room s m ([.ref h0, .int (nI A)] : List Value).toArray below meth c s.heap [] 0 0 (MQ below (vp_Si (fun r => r = nI (mp n d g A ((A + 1) / 2)))) ([.ref h0, .int (nI A)] : List Value).toArray s 0 0 (fun _ => False)) (F0 m 4 ls []) := by
    intro f4
    induction f4 with
    | zero =>
      intro j x2 x3 ls hI hl
      obtain ⟨hj1, hj2, rfl, rfl⟩ := hI
      omega
    | succ f4 ih4 =>
      intro j x2 x3 ls hI hl
      obtain ⟨hj1, hj2, rfl, rfl⟩ := hI
      refine lv_iload_n hx hb d_R_mirrorPairs_4 rfl (lv_at hl 3 rfl) ?_
      refine lv_iload_n hx hb d_R_mirrorPairs_5 rfl (lv_at hl 1 rfl) ?_
      refine lv_iload_n hx hb d_R_mirrorPairs_6 rfl (lv_at hl 3 rfl) ?_
      refine lv_isub hx hb d_R_mirrorPairs_7 ?_
      refine lv_icmp_ge (tgt := 38) hx hb d_R_mirrorPairs_8 (by decide) (fun c_8 => ?_) (fun c_8 => ?_)
      · refine lv_iload_n hx hb d_R_mirrorPairs_38 rfl (lv_at hl 2 rfl) ?_
        exact W.iret hx hb hr (fun t9 ht hW => ⟨_, rfl, (by rw [← mj_out hA hj1 c_8]), ht⟩) t_nil2 d_R_mirrorPairs_39
      · refine lv_aload_n hx hb d_R_mirrorPairs_11 rfl (lv_at hl 0 rfl) ?_
        refine lv_iload_n hx hb d_R_mirrorPairs_12 rfl (lv_at hl 3 rfl) ?_
        refine vp_callSi (va_Run.run (va_runV (As := [.int (nI j)]) (rest := []) ⟨hx, hb, hml, hown, hg⟩ (c_R_isKnown_ok l D cI cZ cJ cO h0 da ga n d g (by omega) (nI j)) (cwV 1 hg (gv g_301 g_302 g_303 g_23 g_304) rfl rfl rfl (by decide +kernel) ⟨Nat.le_of_ble_eq_true rfl, Nat.le_of_ble_eq_true rfl⟩) (pV hP hK hN (va_recv hK hP (ci := 2) (q0 := 0) rfl rfl)) rfl rfl hl.1 rfl (lv_room (Nat.le_of_ble_eq_true rfl)) d_R_mirrorPairs_13 ⟨Nat.zero_le _, Nat.zero_le _⟩)) (fun r_1 hr_1 => ?_)
        subst hr_1
        refine lv_if_eq (tgt := 32) hx hb d_R_mirrorPairs_16 (by decide) (fun c_16 => ?_) (fun c_16 => ?_)
        · refine lv_iinc (v := (nI j) + 1) (lv' := [(3, .int ((nI j) + 1)), (0, .ref h0), (1, .int (nI A)), (2, .int (nI (mp n d g A j)))]) hx hb d_R_mirrorPairs_32 hl (k := 3) rfl rfl (by decide) rfl (fun ls hl => ?_)
          refine lv_goto (tgt := 4) hx hb d_R_mirrorPairs_35 (by decide) ?_
          exact ih4 (j + 1) (nI (mp n d g A j)) ((nI j) + 1) ls (⟨by have := mj_in hA hj1 c_8; omega, by omega, (by first | exact mp_t hA (by omega) c_16 c_26 | exact mp_f1 (by omega) c_16 | exact mp_f2 hA (by omega) c_26), nI_1 j⟩) (lv_sub hl [1, 2, 3, 0] rfl)
        · refine lv_aload_n hx hb d_R_mirrorPairs_19 rfl (lv_at hl 0 rfl) ?_
          refine lv_iload_n hx hb d_R_mirrorPairs_20 rfl (lv_at hl 1 rfl) ?_
          refine lv_iload_n hx hb d_R_mirrorPairs_21 rfl (lv_at hl 3 rfl) ?_
          refine lv_isub hx hb d_R_mirrorPairs_22 ?_
          refine vp_callSi (va_Run.run (va_runV (As := [.int ((nI A) - (nI j))]) (rest := []) ⟨hx, hb, hml, hown, hg⟩ (c_R_isKnown_ok l D cI cZ cJ cO h0 da ga n d g (by omega) ((nI A) - (nI j))) (cwV 1 hg (gv g_301 g_302 g_303 g_23 g_304) rfl rfl rfl (by decide +kernel) ⟨Nat.le_of_ble_eq_true rfl, Nat.le_of_ble_eq_true rfl⟩) (pV hP hK hN (va_recv hK hP (ci := 2) (q0 := 0) rfl rfl)) rfl rfl hl.1 rfl (lv_room (Nat.le_of_ble_eq_true rfl)) d_R_mirrorPairs_23 ⟨Nat.zero_le _, Nat.zero_le _⟩)) (fun r_2 hr_2 => ?_)
          subst hr_2
          refine lv_if_eq (tgt := 32) hx hb d_R_mirrorPairs_26 (by decide) (fun c_26 => ?_) (fun c_26 => ?_)
          · refine lv_iinc (v := (nI j) + 1) (lv' := [(3, .int ((nI j) + 1)), (0, .ref h0), (1, .int (nI A)), (2, .int (nI (mp n d g A j)))]) hx hb d_R_mirrorPairs_32 hl (k := 3) rfl rfl (by decide) rfl (fun ls hl => ?_)
            refine lv_goto (tgt := 4) hx hb d_R_mirrorPairs_35 (by decide) ?_
            exact ih4 (j + 1) (nI (mp n d g A j)) ((nI j) + 1) ls (⟨by have := mj_in hA hj1 c_8; omega, by omega, (by first | exact mp_t hA (by omega) c_16 c_26 | exact mp_f1 (by omega) c_16 | exact mp_f2 hA (by omega) c_26), nI_1 j⟩) (lv_sub hl [1, 2, 3, 0] rfl)
          · refine lv_iinc (v := (nI (mp n d g A j)) + 1) (lv' := [(2, .int ((nI (mp n d g A j)) + 1)), (0, .ref h0), (1, .int (nI A)), (3, .int (nI j))]) hx hb d_R_mirrorPairs_29 hl (k := 2) rfl rfl (by decide) rfl (fun ls hl => ?_)
            refine lv_iinc (v := (nI j) + 1) (lv' := [(3, .int ((nI j) + 1)), (2, .int ((nI (mp n d g A j)) + 1)), (0, .ref h0), (1, .int (nI A))]) hx hb d_R_mirrorPairs_32 hl (k := 3) rfl rfl (by decide) rfl (fun ls hl => ?_)
            refine lv_goto (tgt := 4) hx hb d_R_mirrorPairs_35 (by decide) ?_
            exact ih4 (j + 1) ((nI (mp n d g A j)) + 1) ((nI j) + 1) ls (⟨by have := mj_in hA hj1 c_8; omega, by omega, (by first | exact mp_t hA (by omega) c_16 c_26 | exact mp_f1 (by omega) c_16 | exact mp_f2 hA (by omega) c_26), nI_1 j⟩) (lv_sub hl [2, 3, 1, 0] rfl)
  exact loop_4 (A + 2) 0 0 0 ls (⟨by omega, by omega, rfl, rfl⟩) (lv_sub hl [2, 3, 1, 0] rfl)

set_option maxHeartbeats 4000000 in
set_option maxRecDepth 100000 in
theorem c_R_mirrorOff_ok (l : Launch) (D : va_G) (cI cZ cJ cO : ClassId) (h0 da ga : Nat) (n : Nat) (d g : Nat → Int32) (hn : n < 2 ^ 20) (A : Nat) (hA : A < 2 ^ 20) : Met l y_R_mirrorOff (wq y_R_mirrorOff c_R_mirrorOff 5 (some .int)) ({ frames := 2, cells := 0, slots := 0, locals := 42 }) (rP D (TY cI cZ cJ cO) [(h0, .inr (2, [.ref da, .ref ga])), (da, .inl (cI, n, .inl d)), (ga, .inl (cZ, n, .inl g))] [.ref h0, .int (nI A)]) (vp_Si (fun r => r = mo n d g A ((A + 1) / 2))) 0 0 (fun _ => False) := by
  refine Met.ofW (cc := c_R_mirrorOff) (maxL := 5) (ret := (some .int)) (by decide) rfl ?_
  intro p e s m args below meth c s₁ B hml hv
  obtain ⟨rfl, hP, hK, hN⟩ := hv
  have hx := B.exec
  have hb := B.bytes
  have hr := B.returns
  have hg := gt_h (atoms_spec (ws := (wq y_R_mirrorOff c_R_mirrorOff 5 (some .int))) B.pre)
  have hown : s.vm.findClass "RubbingMirrors$Row" = some m.cls := findClass_of_methodNamed B.named
  have hlocks := B.notSynchronized
  have hl := lv_entry ([.ref h0, .int (nI A)]) (n := 5) (Nat.le_of_ble_eq_true rfl)
  rw [lg_entry_eq]
  generalize (lg_sl ([.ref h0, .int (nI A)]) ++ List.replicate (5 - (lg_sl ([.ref h0, .int (nI A)])).length) Slot.unset).toArray = ls at hl ⊢
  have hl : lv_has ls 5 [(0, .ref h0), (1, .int (nI A))] := hl
  refine lv_iconst (v := 0) hx hb d_R_mirrorOff_0 (by decide) ?_
  refine lv_istore_n (lv' := [(2, .int 0), (0, .ref h0), (1, .int (nI A))]) hx hb d_R_mirrorOff_1 rfl hl (by decide) rfl (fun ls hl => ?_)
  refine lv_iconst (v := 0) hx hb d_R_mirrorOff_2 (by decide) ?_
  refine lv_istore_n (lv' := [(3, .int 0), (2, .int 0), (0, .ref h0), (1, .int (nI A))]) hx hb d_R_mirrorOff_3 rfl hl (by decide) rfl (fun ls hl => ?_)
  have loop_4 : ∀ (f4 : Nat) (j : Nat) (x2 : Int32) (x3 : Int32) (ls : Array Slot), (j ≤ (A + 1) / 2 ∧ (A + 1) / 2 < j + f4 ∧ x2 = mo n d g A j ∧ x3 = nI j) → lv_has ls 5 [(0, .ref h0), (1, .int (nI A)), (2, .int x2), (3, .int x3)] → W p l e (headSpec (wq y_R_mirrorOff c_R_mirrorOff 5 (some .int)) ({ frames := 2, cells := 0, slots := 0, locals := 42 })).room s m ([.ref h0, .int (nI A)] : List Value).toArray below meth c s.heap [] 0 0 (MQ below (vp_Si (fun r => r = mo n d g A ((A + 1) / 2))) ([.ref h0, .int (nI A)] : List Value).toArray s 0 0 (fun _ => False)) (F0 m 4 ls []) := by
    intro f4
    induction f4 with
    | zero =>
      intro j x2 x3 ls hI hl
      obtain ⟨hj1, hj2, rfl, rfl⟩ := hI
      omega
    | succ f4 ih4 =>
      intro j x2 x3 ls hI hl
      obtain ⟨hj1, hj2, rfl, rfl⟩ := hI
      refine lv_iload_n hx hb d_R_mirrorOff_4 rfl (lv_at hl 3 rfl) ?_
      refine lv_iload_n hx hb d_R_mirrorOff_5 rfl (lv_at hl 1 rfl) ?_
      refine lv_iload_n hx hb d_R_mirrorOff_6 rfl (lv_at hl 3 rfl) ?_
      refine lv_isub hx hb d_R_mirrorOff_7 ?_
      refine lv_icmp_ge (tgt := 60) hx hb d_R_mirrorOff_8 (by decide) (fun c_8 => ?_) (fun c_8 => ?_)
      · refine lv_iload_n hx hb d_R_mirrorOff_60 rfl (lv_at hl 2 rfl) ?_
        exact W.iret hx hb hr (fun t9 ht hW => ⟨_, rfl, (by rw [← mj_out hA hj1 c_8]), ht⟩) t_nil2 d_R_mirrorOff_61
      · refine lv_aload_n hx hb d_R_mirrorOff_11 rfl (lv_at hl 0 rfl) ?_
        refine lv_iload_n hx hb d_R_mirrorOff_12 rfl (lv_at hl 3 rfl) ?_
        refine vp_callSi (va_Run.run (va_runV (As := [.int (nI j)]) (rest := []) ⟨hx, hb, hml, hown, hg⟩ (c_R_isKnown_ok l D cI cZ cJ cO h0 da ga n d g (by omega) (nI j)) (cwV 1 hg (gv g_301 g_302 g_303 g_23 g_304) rfl rfl rfl (by decide +kernel) ⟨Nat.le_of_ble_eq_true rfl, Nat.le_of_ble_eq_true rfl⟩) (pV hP hK hN (va_recv hK hP (ci := 2) (q0 := 0) rfl rfl)) rfl rfl hl.1 rfl (lv_room (Nat.le_of_ble_eq_true rfl)) d_R_mirrorOff_13 ⟨Nat.zero_le _, Nat.zero_le _⟩)) (fun r_1 hr_1 => ?_)
        subst hr_1
        refine lv_if_eq (tgt := 54) hx hb d_R_mirrorOff_16 (by decide) (fun c_16 => ?_) (fun c_16 => ?_)
        · refine lv_iinc (v := (nI j) + 1) (lv' := [(3, .int ((nI j) + 1)), (0, .ref h0), (1, .int (nI A)), (2, .int (mo n d g A j))]) hx hb d_R_mirrorOff_54 hl (k := 3) rfl rfl (by decide) rfl (fun ls hl => ?_)
          refine lv_goto (tgt := 4) hx hb d_R_mirrorOff_57 (by decide) ?_
          exact ih4 (j + 1) (mo n d g A j) ((nI j) + 1) ls (⟨by have := mj_in hA hj1 c_8; omega, by omega, (by first | exact mo_t hA (mj_in hA hj1 c_8) c_16 c_26 | exact mo_f1 (by omega) c_16 | exact mo_f2 hA (by omega) c_26), nI_1 j⟩) (lv_sub hl [1, 2, 3, 0] rfl)
        · refine lv_aload_n hx hb d_R_mirrorOff_19 rfl (lv_at hl 0 rfl) ?_
          refine lv_iload_n hx hb d_R_mirrorOff_20 rfl (lv_at hl 1 rfl) ?_
          refine lv_iload_n hx hb d_R_mirrorOff_21 rfl (lv_at hl 3 rfl) ?_
          refine lv_isub hx hb d_R_mirrorOff_22 ?_
          refine vp_callSi (va_Run.run (va_runV (As := [.int ((nI A) - (nI j))]) (rest := []) ⟨hx, hb, hml, hown, hg⟩ (c_R_isKnown_ok l D cI cZ cJ cO h0 da ga n d g (by omega) ((nI A) - (nI j))) (cwV 1 hg (gv g_301 g_302 g_303 g_23 g_304) rfl rfl rfl (by decide +kernel) ⟨Nat.le_of_ble_eq_true rfl, Nat.le_of_ble_eq_true rfl⟩) (pV hP hK hN (va_recv hK hP (ci := 2) (q0 := 0) rfl rfl)) rfl rfl hl.1 rfl (lv_room (Nat.le_of_ble_eq_true rfl)) d_R_mirrorOff_23 ⟨Nat.zero_le _, Nat.zero_le _⟩)) (fun r_2 hr_2 => ?_)
          subst hr_2
          refine lv_if_eq (tgt := 54) hx hb d_R_mirrorOff_26 (by decide) (fun c_26 => ?_) (fun c_26 => ?_)
          · refine lv_iinc (v := (nI j) + 1) (lv' := [(3, .int ((nI j) + 1)), (0, .ref h0), (1, .int (nI A)), (2, .int (mo n d g A j))]) hx hb d_R_mirrorOff_54 hl (k := 3) rfl rfl (by decide) rfl (fun ls hl => ?_)
            refine lv_goto (tgt := 4) hx hb d_R_mirrorOff_57 (by decide) ?_
            exact ih4 (j + 1) (mo n d g A j) ((nI j) + 1) ls (⟨by have := mj_in hA hj1 c_8; omega, by omega, (by first | exact mo_t hA (mj_in hA hj1 c_8) c_16 c_26 | exact mo_f1 (by omega) c_16 | exact mo_f2 hA (by omega) c_26), nI_1 j⟩) (lv_sub hl [1, 2, 3, 0] rfl)
          · refine lv_aload_n hx hb d_R_mirrorOff_29 rfl (lv_at hl 0 rfl) ?_
            refine va_get (D := D) (ci := 2) (v := .ref da) (C := Q_R) (T := F_R) (N := 2) hx hb hg in_R hown hK hP 0 rfl rfl 0 (by decide) (hg _ g_116) (fun _ h9 => h9) rfl d_R_mirrorOff_30 ?_
            refine lv_iload_n hx hb d_R_mirrorOff_33 rfl (lv_at hl 3 rfl) ?_
            refine va_iald hx hb hK hP 1 0 rfl rfl (hs_in (kn_hs (bI_ne0 c_16))) d_R_mirrorOff_34 ?_
            refine lv_aload_n hx hb d_R_mirrorOff_35 rfl (lv_at hl 0 rfl) ?_
            refine va_get (D := D) (ci := 2) (v := .ref da) (C := Q_R) (T := F_R) (N := 2) hx hb hg in_R hown hK hP 0 rfl rfl 0 (by decide) (hg _ g_116) (fun _ h9 => h9) rfl d_R_mirrorOff_36 ?_
            refine lv_iload_n hx hb d_R_mirrorOff_39 rfl (lv_at hl 1 rfl) ?_
            refine lv_iload_n hx hb d_R_mirrorOff_40 rfl (lv_at hl 3 rfl) ?_
            refine lv_isub hx hb d_R_mirrorOff_41 ?_
            refine va_iald hx hb hK hP 1 0 rfl rfl (hs_in (kn_hs (bI_ne0 c_26))) d_R_mirrorOff_42 ?_
            refine lv_isub hx hb d_R_mirrorOff_43 ?_
            refine lv_istore (lv' := [(4, .int ((d (nI j).toNatClampNeg) - (d ((nI A) - (nI j)).toNatClampNeg))), (0, .ref h0), (1, .int (nI A)), (2, .int (mo n d g A j)), (3, .int (nI j))]) hx hb d_R_mirrorOff_44 hl (by decide) rfl (fun ls hl => ?_)
            refine lv_iload_n hx hb d_R_mirrorOff_46 rfl (lv_at hl 3 rfl) ?_
            refine lv_iload hx hb d_R_mirrorOff_47 (lv_at hl 0 rfl) ?_
            refine lv_iload hx hb d_R_mirrorOff_49 (lv_at hl 0 rfl) ?_
            refine lv_imul hx hb d_R_mirrorOff_51 ?_
            refine lv_iadd hx hb d_R_mirrorOff_52 ?_
            refine lv_istore_n (lv' := [(2, .int ((mo n d g A j) + (((d (nI j).toNatClampNeg) - (d ((nI A) - (nI j)).toNatClampNeg)) * ((d (nI j).toNatClampNeg) - (d ((nI A) - (nI j)).toNatClampNeg))))), (4, .int ((d (nI j).toNatClampNeg) - (d ((nI A) - (nI j)).toNatClampNeg))), (0, .ref h0), (1, .int (nI A)), (3, .int (nI j))]) hx hb d_R_mirrorOff_53 rfl hl (by decide) rfl (fun ls hl => ?_)
            refine lv_iinc (v := (nI j) + 1) (lv' := [(3, .int ((nI j) + 1)), (2, .int ((mo n d g A j) + (((d (nI j).toNatClampNeg) - (d ((nI A) - (nI j)).toNatClampNeg)) * ((d (nI j).toNatClampNeg) - (d ((nI A) - (nI j)).toNatClampNeg))))), (4, .int ((d (nI j).toNatClampNeg) - (d ((nI A) - (nI j)).toNatClampNeg))), (0, .ref h0), (1, .int (nI A))]) hx hb d_R_mirrorOff_54 hl (k := 4) rfl rfl (by decide) rfl (fun ls hl => ?_)
            refine lv_goto (tgt := 4) hx hb d_R_mirrorOff_57 (by decide) ?_
            exact ih4 (j + 1) ((mo n d g A j) + (((d (nI j).toNatClampNeg) - (d ((nI A) - (nI j)).toNatClampNeg)) * ((d (nI j).toNatClampNeg) - (d ((nI A) - (nI j)).toNatClampNeg)))) ((nI j) + 1) ls (⟨by have := mj_in hA hj1 c_8; omega, by omega, (by first | exact mo_t hA (mj_in hA hj1 c_8) c_16 c_26 | exact mo_f1 (by omega) c_16 | exact mo_f2 hA (by omega) c_26), nI_1 j⟩) (lv_sub hl [3, 4, 1, 0] rfl)
  exact loop_4 (A + 2) 0 0 0 ls (⟨by omega, by omega, rfl, rfl⟩) (lv_sub hl [2, 3, 1, 0] rfl)

set_option maxHeartbeats 4000000 in
set_option maxRecDepth 100000 in
theorem c_R_repeatSum_ok (l : Launch) (D : va_G) (cI cZ cJ cO : ClassId) (h0 da ga : Nat) (n : Nat) (d g : Nat → Int32) (hn : n < 2 ^ 20) (S : Nat) (hS : S ≤ n) : Met l y_R_repeatSum (wq y_R_repeatSum c_R_repeatSum 5 (some .long)) ({ frames := 2, cells := 0, slots := 0, locals := 42 }) (rP D (TY cI cZ cJ cO) [(h0, .inr (2, [.ref da, .ref ga])), (da, .inl (cI, n, .inl d)), (ga, .inl (cZ, n, .inl g))] [.ref h0, .int (nI S)]) (vp_Sl (fun r => r = rs n d g S (n - S))) 0 0 (fun _ => False) := by
  refine Met.ofW (cc := c_R_repeatSum) (maxL := 5) (ret := (some .long)) (by decide) rfl ?_
  intro p e s m args below meth c s₁ B hml hv
  obtain ⟨rfl, hP, hK, hN⟩ := hv
  have hx := B.exec
  have hb := B.bytes
  have hr := B.returns
  have hg := gt_h (atoms_spec (ws := (wq y_R_repeatSum c_R_repeatSum 5 (some .long))) B.pre)
  have hown : s.vm.findClass "RubbingMirrors$Row" = some m.cls := findClass_of_methodNamed B.named
  have hlocks := B.notSynchronized
  have hl := lv_entry ([.ref h0, .int (nI S)]) (n := 5) (Nat.le_of_ble_eq_true rfl)
  rw [lg_entry_eq]
  generalize (lg_sl ([.ref h0, .int (nI S)]) ++ List.replicate (5 - (lg_sl ([.ref h0, .int (nI S)])).length) Slot.unset).toArray = ls at hl ⊢
  have hl : lv_has ls 5 [(0, .ref h0), (1, .int (nI S))] := hl
  refine lv_lconst (v := 0) hx hb d_R_repeatSum_0 (by decide) ?_
  refine lv_lstore_n (lv' := [(2, .long 0), (0, .ref h0), (1, .int (nI S))]) hx hb d_R_repeatSum_1 rfl hl (by decide) rfl (fun ls hl => ?_)
  refine lv_iconst (v := 0) hx hb d_R_repeatSum_2 (by decide) ?_
  refine lv_istore (lv' := [(4, .int 0), (2, .long 0), (0, .ref h0), (1, .int (nI S))]) hx hb d_R_repeatSum_3 hl (by decide) rfl (fun ls hl => ?_)
  have loop_5 : ∀ (f5 : Nat) (j : Nat) (x2 : Int64) (x4 : Int32) (ls : Array Slot), (j ≤ n - S ∧ n - S < j + f5 ∧ x2 = rs n d g S j ∧ x4 = nI j) → lv_has ls 5 [(0, .ref h0), (1, .int (nI S)), (2, .long x2), (4, .int x4)] → W p l e (headSpec (wq y_R_repeatSum c_R_repeatSum 5 (some .long)) ({ frames := 2, cells := 0, slots := 0, locals := 42 })).room s m ([.ref h0, .int (nI S)] : List Value).toArray below meth c s.heap [] 0 0 (MQ below (vp_Sl (fun r => r = rs n d g S (n - S))) ([.ref h0, .int (nI S)] : List Value).toArray s 0 0 (fun _ => False)) (F0 m 5 ls []) := by
    intro f5
    induction f5 with
    | zero =>
      intro j x2 x4 ls hI hl
      obtain ⟨hj1, hj2, rfl, rfl⟩ := hI
      omega
    | succ f5 ih5 =>
      intro j x2 x4 ls hI hl
      obtain ⟨hj1, hj2, rfl, rfl⟩ := hI
      refine lv_iload hx hb d_R_repeatSum_5 (lv_at hl 3 rfl) ?_
      refine lv_aload_n hx hb d_R_repeatSum_7 rfl (lv_at hl 0 rfl) ?_
      refine va_get (D := D) (ci := 2) (v := .ref da) (C := Q_R) (T := F_R) (N := 2) hx hb hg in_R hown hK hP 0 rfl rfl 0 (by decide) (hg _ g_116) (fun _ h9 => h9) rfl d_R_repeatSum_8 ?_
      refine va_alen (v := nI n) hx hb hK hP 1 0 rfl rfl rfl d_R_repeatSum_11 ?_
      refine lv_iload_n hx hb d_R_repeatSum_12 rfl (lv_at hl 1 rfl) ?_
      refine lv_isub hx hb d_R_repeatSum_13 ?_
      refine lv_icmp_ge (tgt := 72) hx hb d_R_repeatSum_14 (by decide) (fun c_14 => ?_) (fun c_14 => ?_)
      · refine lv_lload_n hx hb d_R_repeatSum_72 rfl (lv_at hl 2 rfl) ?_
        exact W.lret hx hb hr (fun t9 ht hW => ⟨_, rfl, (by rw [← rj_out hn hS hj1 c_14]), ht⟩) t_nil2 d_R_repeatSum_73
      · refine lv_aload_n hx hb d_R_repeatSum_17 rfl (lv_at hl 0 rfl) ?_
        refine lv_iload hx hb d_R_repeatSum_18 (lv_at hl 3 rfl) ?_
        refine vp_callSi (va_Run.run (va_runV (As := [.int (nI j)]) (rest := []) ⟨hx, hb, hml, hown, hg⟩ (c_R_isKnown_ok l D cI cZ cJ cO h0 da ga n d g (by omega) (nI j)) (cwV 1 hg (gv g_301 g_302 g_303 g_23 g_304) rfl rfl rfl (by decide +kernel) ⟨Nat.le_of_ble_eq_true rfl, Nat.le_of_ble_eq_true rfl⟩) (pV hP hK hN (va_recv hK hP (ci := 2) (q0 := 0) rfl rfl)) rfl rfl hl.1 rfl (lv_room (Nat.le_of_ble_eq_true rfl)) d_R_repeatSum_20 ⟨Nat.zero_le _, Nat.zero_le _⟩)) (fun r_1 hr_1 => ?_)
        subst hr_1
        refine lv_if_eq (tgt := 66) hx hb d_R_repeatSum_23 (by decide) (fun c_23 => ?_) (fun c_23 => ?_)
        · refine lv_iinc (v := (nI j) + 1) (lv' := [(4, .int ((nI j) + 1)), (0, .ref h0), (1, .int (nI S)), (2, .long (rs n d g S j))]) hx hb d_R_repeatSum_66 hl (k := 3) rfl rfl (by decide) rfl (fun ls hl => ?_)
          refine lv_goto (tgt := 5) hx hb d_R_repeatSum_69 (by decide) ?_
          exact ih5 (j + 1) (rs n d g S j) ((nI j) + 1) ls (⟨by have := rj_in hn hS hj1 c_14; omega, by omega, (by first | exact rs_t (by omega) (by omega) c_23 c_34 | exact rs_f1 (by omega) c_23 | exact rs_f2 (by omega) (by omega) c_34), nI_1 j⟩) (lv_sub hl [1, 2, 3, 0] rfl)
        · refine lv_aload_n hx hb d_R_repeatSum_26 rfl (lv_at hl 0 rfl) ?_
          refine lv_iload hx hb d_R_repeatSum_27 (lv_at hl 3 rfl) ?_
          refine lv_iload_n hx hb d_R_repeatSum_29 rfl (lv_at hl 1 rfl) ?_
          refine lv_iadd hx hb d_R_repeatSum_30 ?_
          refine vp_callSi (va_Run.run (va_runV (As := [.int ((nI j) + (nI S))]) (rest := []) ⟨hx, hb, hml, hown, hg⟩ (c_R_isKnown_ok l D cI cZ cJ cO h0 da ga n d g (by omega) ((nI j) + (nI S))) (cwV 1 hg (gv g_301 g_302 g_303 g_23 g_304) rfl rfl rfl (by decide +kernel) ⟨Nat.le_of_ble_eq_true rfl, Nat.le_of_ble_eq_true rfl⟩) (pV hP hK hN (va_recv hK hP (ci := 2) (q0 := 0) rfl rfl)) rfl rfl hl.1 rfl (lv_room (Nat.le_of_ble_eq_true rfl)) d_R_repeatSum_31 ⟨Nat.zero_le _, Nat.zero_le _⟩)) (fun r_2 hr_2 => ?_)
          subst hr_2
          refine lv_if_eq (tgt := 66) hx hb d_R_repeatSum_34 (by decide) (fun c_34 => ?_) (fun c_34 => ?_)
          · refine lv_iinc (v := (nI j) + 1) (lv' := [(4, .int ((nI j) + 1)), (0, .ref h0), (1, .int (nI S)), (2, .long (rs n d g S j))]) hx hb d_R_repeatSum_66 hl (k := 3) rfl rfl (by decide) rfl (fun ls hl => ?_)
            refine lv_goto (tgt := 5) hx hb d_R_repeatSum_69 (by decide) ?_
            exact ih5 (j + 1) (rs n d g S j) ((nI j) + 1) ls (⟨by have := rj_in hn hS hj1 c_14; omega, by omega, (by first | exact rs_t (by omega) (by omega) c_23 c_34 | exact rs_f1 (by omega) c_23 | exact rs_f2 (by omega) (by omega) c_34), nI_1 j⟩) (lv_sub hl [1, 2, 3, 0] rfl)
          · refine lv_lload_n hx hb d_R_repeatSum_37 rfl (lv_at hl 2 rfl) ?_
            refine lv_aload_n hx hb d_R_repeatSum_38 rfl (lv_at hl 0 rfl) ?_
            refine va_get (D := D) (ci := 2) (v := .ref da) (C := Q_R) (T := F_R) (N := 2) hx hb hg in_R hown hK hP 0 rfl rfl 0 (by decide) (hg _ g_116) (fun _ h9 => h9) rfl d_R_repeatSum_39 ?_
            refine lv_iload hx hb d_R_repeatSum_42 (lv_at hl 3 rfl) ?_
            refine va_iald hx hb hK hP 1 0 rfl rfl (hs_in (kn_hs (bI_ne0 c_23))) d_R_repeatSum_44 ?_
            refine lv_sipush (v := 128) hx hb d_R_repeatSum_45 (by decide) ?_
            refine lv_isub hx hb d_R_repeatSum_48 ?_
            refine lv_aload_n hx hb d_R_repeatSum_49 rfl (lv_at hl 0 rfl) ?_
            refine va_get (D := D) (ci := 2) (v := .ref da) (C := Q_R) (T := F_R) (N := 2) hx hb hg in_R hown hK hP 0 rfl rfl 0 (by decide) (hg _ g_116) (fun _ h9 => h9) rfl d_R_repeatSum_50 ?_
            refine lv_iload hx hb d_R_repeatSum_53 (lv_at hl 3 rfl) ?_
            refine lv_iload_n hx hb d_R_repeatSum_55 rfl (lv_at hl 1 rfl) ?_
            refine lv_iadd hx hb d_R_repeatSum_56 ?_
            refine va_iald hx hb hK hP 1 0 rfl rfl (hs_in (kn_hs (bI_ne0 c_34))) d_R_repeatSum_57 ?_
            refine lv_sipush (v := 128) hx hb d_R_repeatSum_58 (by decide) ?_
            refine lv_isub hx hb d_R_repeatSum_61 ?_
            refine lv_imul hx hb d_R_repeatSum_62 ?_
            refine lv_i2l (v := (((d (nI j).toNatClampNeg) - 128) * ((d ((nI j) + (nI S)).toNatClampNeg) - 128)).toInt64) hx hb d_R_repeatSum_63 rfl ?_
            refine lv_ladd hx hb d_R_repeatSum_64 ?_
            refine lv_lstore_n (lv' := [(2, .long ((rs n d g S j) + ((((d (nI j).toNatClampNeg) - 128) * ((d ((nI j) + (nI S)).toNatClampNeg) - 128)).toInt64))), (0, .ref h0), (1, .int (nI S)), (4, .int (nI j))]) hx hb d_R_repeatSum_65 rfl hl (by decide) rfl (fun ls hl => ?_)
            refine lv_iinc (v := (nI j) + 1) (lv' := [(4, .int ((nI j) + 1)), (2, .long ((rs n d g S j) + ((((d (nI j).toNatClampNeg) - 128) * ((d ((nI j) + (nI S)).toNatClampNeg) - 128)).toInt64))), (0, .ref h0), (1, .int (nI S))]) hx hb d_R_repeatSum_66 hl (k := 3) rfl rfl (by decide) rfl (fun ls hl => ?_)
            refine lv_goto (tgt := 5) hx hb d_R_repeatSum_69 (by decide) ?_
            exact ih5 (j + 1) ((rs n d g S j) + ((((d (nI j).toNatClampNeg) - 128) * ((d ((nI j) + (nI S)).toNatClampNeg) - 128)).toInt64)) ((nI j) + 1) ls (⟨by have := rj_in hn hS hj1 c_14; omega, by omega, (by first | exact rs_t (by omega) (by omega) c_23 c_34 | exact rs_f1 (by omega) c_23 | exact rs_f2 (by omega) (by omega) c_34), nI_1 j⟩) (lv_sub hl [2, 3, 1, 0] rfl)
  exact loop_5 (n + 1) 0 0 0 ls (⟨by omega, by omega, rfl, rfl⟩) (lv_sub hl [2, 3, 1, 0] rfl)
