
theorem lw_c {v lo hi : Int32} {A B : Int64} (h1 : lo.toInt64 = A) (h2 : hi.toInt64 = B) : lw v.toInt64 A B = iw v lo hi := by rw [← h1, ← h2, lw_iw]
theorem hs64 {n : Nat} {k : Int32} : hs n k.toInt64.toInt = hs n k.toInt := by rw [Int32.toInt_toInt64]
theorem v64h {n : Nat} {k : Int32} (h64 : n ≤ 64) (h : ¬ bI (hs n k.toInt) = 0) : vp_in k 64 := by
  have := hs_iff.mp (bI_ne0 h)
  exact vp_in_iff.mpr (by omega)
/-- depth: 1 no such place, 2 not a depth, 0 well -/
def cDep (n : Nat) (k v : Int32) : Int32 := if hs n k.toInt then (if iw v (-1) 255 then 0 else 2) else 1
def dDep (n : Nat) (d : Nat → Int32) (k v : Int32) : Nat → Int32 := if cDep n k v = 0 then upd d k.toNatClampNeg v else d
def gDep (n : Nat) (g : Nat → Int32) (k v : Int32) : Nat → Int32 := if cDep n k v = 0 then upd g k.toNatClampNeg 0 else g
theorem cd_1 {n : Nat} {k v : Int32} (h : bI (hs n k.toInt) = 0) : cDep n k v = 1 := by rw [cDep, bI_eq0 h]; rfl
theorem cd_2 {n : Nat} {k v : Int32} (h : ¬ bI (hs n k.toInt) = 0) (h1 : bI (iw v (-1) 255) = 0) : cDep n k v = 2 := by rw [cDep, bI_ne0 h, bI_eq0 h1]; rfl
theorem cd_0 {n : Nat} {k v : Int32} (h : ¬ bI (hs n k.toInt) = 0) (h1 : ¬ bI (iw v (-1) 255) = 0) : cDep n k v = 0 := by rw [cDep, bI_ne0 h, bI_ne0 h1]; rfl
/-- place -/
def cPla (n : Nat) (k w : Int32) : Int32 := if hs n k.toInt then (if iw w 0 1 then 0 else 1) else 1
def aPla (d g : Nat → Int32) (k w : Int32) : Int32 := if w = 0 then d k.toNatClampNeg else (if g k.toNatClampNeg = 0 then 0 else 1)
theorem cp_1 {n : Nat} {k w : Int32} (h : bI (hs n k.toInt) = 0) : cPla n k w = 1 := by rw [cPla, bI_eq0 h]; rfl
theorem cp_2 {n : Nat} {k w : Int32} (h1 : bI (iw w 0 1) = 0) : cPla n k w = 1 := by rw [cPla, bI_eq0 h1]; cases hs n k.toInt <;> rfl
theorem cp_0 {n : Nat} {k w : Int32} (h : ¬ bI (hs n k.toInt) = 0) (h1 : ¬ bI (iw w 0 1) = 0) : cPla n k w = 0 := by rw [cPla, bI_ne0 h, bI_ne0 h1]; rfl
/-- sum -/
def cSum (n : Nat) (s : Int32) : Int32 := if iw s 1 (nI n - 1) then 0 else 1
def rsv (n : Nat) (d g : Nat → Int32) (S : Nat) : Int64 := rs n d g S (n - S)
theorem cs_1 {n : Nat} {s : Int32} (h : bI (iw s 1 (nI n - 1)) = 0) : cSum n s = 1 := by rw [cSum, bI_eq0 h]; rfl
theorem cs_0 {n : Nat} {s : Int32} (h : ¬ bI (iw s 1 (nI n - 1)) = 0) : cSum n s = 0 := by rw [cSum, bI_ne0 h]; rfl
theorem nat_of {x : Int32} (h : 0 ≤ x.toInt) : x = nI x.toInt.toNat := by
  rw [ieq, nI_toInt (by have := x.toInt_lt; omega)]; omega
theorem iwS {n : Nat} {s : Int32} (h4 : 4 ≤ n) (h64 : n ≤ 64) (h : ¬ bI (iw s 1 (nI n - 1)) = 0) : ∃ S : Nat, 1 ≤ S ∧ S < n ∧ s = nI S := by
  have h := bI_ne0 h
  simp only [iw, Bool.and_eq_true, decide_eq_true_eq, n1_ti h4 h64, i1] at h
  exact ⟨s.toInt.toNat, by omega, by omega, nat_of (by omega)⟩
theorem iwS0 {n : Nat} {s : Int32} (h4 : 4 ≤ n) (h64 : n ≤ 64) (h : ¬ bI (iw s 0 (nI n - 1)) = 0) : ∃ S : Nat, S < n ∧ s = nI S := by
  have h := bI_ne0 h
  simp only [iw, Bool.and_eq_true, decide_eq_true_eq, n1_ti h4 h64, i0] at h
  exact ⟨s.toInt.toNat, by omega, nat_of (by omega)⟩
theorem iwT {n F : Nat} {s : Int32} (h4 : 4 ≤ n) (h64 : n ≤ 64) (hF : F < n) (h : ¬ bI (iw s (nI F) (nI n - 1)) = 0) : ∃ S : Nat, F ≤ S ∧ S < n ∧ s = nI S := by
  have h := bI_ne0 h
  simp only [iw, Bool.and_eq_true, decide_eq_true_eq, n1_ti h4 h64, nI_toInt (show F < 2 ^ 31 by omega)] at h
  exact ⟨s.toInt.toNat, by omega, by omega, nat_of (by omega)⟩
/-- repeat -/
def cRep (n : Nat) (f t : Int32) : Int32 := if iw f 1 (nI n - 1) then (if iw t f (nI n - 1) then 0 else 1) else 1
theorem cr_1 {n : Nat} {f t : Int32} (h : bI (iw f 1 (nI n - 1)) = 0) : cRep n f t = 1 := by rw [cRep, bI_eq0 h]; rfl
theorem cr_2 {n : Nat} {f t : Int32} (h : bI (iw t f (nI n - 1)) = 0) : cRep n f t = 1 := by rw [cRep, bI_eq0 h]; cases iw f 1 (nI n - 1) <;> rfl
theorem cr_0 {n : Nat} {f t : Int32} (h : ¬ bI (iw f 1 (nI n - 1)) = 0) (h1 : ¬ bI (iw t f (nI n - 1)) = 0) : cRep n f t = 0 := by rw [cRep, bI_ne0 h, bI_ne0 h1]; rfl
/-- THE REPEAT of the steps F .. F + k -/
def rp (n : Nat) (d g : Nat → Int32) (F : Nat) : Nat → Nat
  | 0 => F
  | k + 1 => if rsv n d g (rp n d g F k) < rsv n d g (F + 1 + k) then F + 1 + k else rp n d g F k
theorem rp_le {n : Nat} {d g : Nat → Int32} {F : Nat} : ∀ k, rp n d g F k ≤ F + k
  | 0 => Nat.le_refl _
  | k + 1 => by
    rw [rp]
    split
    · omega
    · have := rp_le (n := n) (d := d) (g := g) (F := F) k
      omega
theorem cmp_le {x y : Int64} : lg_cmp x y ≤ 0 ↔ ¬ y < x := by
  rw [← cmp_gt]
  constructor
  · intro h q; rw [ile] at h; rw [ilt] at q; omega
  · intro h; rw [ile]; rw [ilt] at h; omega
/-- fill -/
def cFil (n : Nat) (s a : Int32) : Int32 := if iw s 0 (nI n - 1) then (if iw a (-1) (2 * nI n - 2) then 0 else 1) else 1
theorem cf_1 {n : Nat} {s a : Int32} (h : bI (iw s 0 (nI n - 1)) = 0) : cFil n s a = 1 := by rw [cFil, bI_eq0 h]; rfl
theorem cf_2 {n : Nat} {s a : Int32} (h : bI (iw a (-1) (2 * nI n - 2)) = 0) : cFil n s a = 1 := by rw [cFil, bI_eq0 h]; cases iw s 0 (nI n - 1) <;> rfl
theorem cf_0 {n : Nat} {s a : Int32} (h : ¬ bI (iw s 0 (nI n - 1)) = 0) (h1 : ¬ bI (iw a (-1) (2 * nI n - 2)) = 0) : cFil n s a = 0 := by rw [cFil, bI_ne0 h, bI_ne0 h1]; rfl
theorem n2_ti {n : Nat} (h4 : 4 ≤ n) (h64 : n ≤ 64) : (2 * nI n - 2).toInt = 2 * (n : Int) - 2 := by
  have e : (2 : Int32) * nI n = nI (2 * n) := pk_mul 2 n
  have := sub_ti (a := 2 * n) (b := 2) (by omega) (by omega)
  rw [e]; exact this.trans (by omega)
theorem iwA {n : Nat} {a : Int32} (h4 : 4 ≤ n) (h64 : n ≤ 64) (h : ¬ bI (iw a (-1) (2 * nI n - 2)) = 0) : -1 ≤ a.toInt ∧ a.toInt < 2 ^ 20 := by
  have h := bI_ne0 h
  simp only [iw, Bool.and_eq_true, decide_eq_true_eq, n2_ti h4 h64, im1] at h
  omega
def fil (n : Nat) (d g : Nat → Int32) (s a : Int32) : (Nat → Int32) × (Nat → Int32) × Nat := if cFil n s a = 0 then fl n s.toInt a.toInt d g n else (d, g, 0)
theorem dOK_upd {n : Nat} {d : Nat → Int32} {j : Nat} {v : Int32} (h : dOK n d) (hv : -1 ≤ v.toInt ∧ v.toInt ≤ 255) : dOK n (upd d j v) := fun k hk => by
  unfold upd
  split
  · exact hv
  · exact h k hk
theorem dOK_fl {n : Nat} {S a : Int} {d g : Nat → Int32} (h : dOK n d) : ∀ j, dOK n (fl n S a d g j).1
  | 0 => h
  | j + 1 => by
    have ih := dOK_fl (S := S) (a := a) (g := g) h j
    rw [fl]
    unfold fs
    split
    · split
      · next h2 => exact dOK_upd ih (ih _ (hs_lt h2))
      · exact ih
    · exact ih
theorem dOK_lgs {n : Nat} {d g : Nat → Int32} (h : dOK n d) : ∀ j, dOK n (lgs d g j).1
  | 0 => h
  | j + 1 => by
    have ih := dOK_lgs (g := g) h j
    rw [lgs]
    unfold lg
    split
    · exact ih
    · exact dOK_upd ih (by decide)
theorem src_m1 {n : Nat} {d g : Nat → Int32} {K S a : Int} : src n d g K S a = -1 ∨ hs n (src n d g K S a) = true := by
  have hsr : ∀ r t x, sr n d g K S r t = some x → hs n x = true := by
    intro r
    induction r with
    | zero => intro t x h; cases h
    | succ r ih =>
      intro t x h
      rw [sr] at h
      split at h
      · next h1 => cases h; exact kn_hs h1
      · split at h
        · next h1 => cases h; exact kn_hs h1
        · exact ih _ _ h
  unfold src sq
  split
  · next x h =>
    split at h
    · exact Or.inr (hsr _ _ _ h)
    · cases h
  · split
    · next h => exact Or.inr (kn_hs h.2)
    · exact Or.inl rfl
theorem fT_2 {n : Nat} {S a : Int} {j : Nat} {d g : Nat → Int32} {c : Nat} {r : Int32} (hj : j < 2 ^ 20) (h : d (nI j).toNatClampNeg = -1) (hr : r.toInt = src n d g j S a) (h2 : r < 0) : fs n S a j (d, g, c) = (d, g, c) := by
  rw [ilt, i0] at h2
  refine fs_2 hj h hr ?_
  rw [show hs n r.toInt = false by simp [hs]; omega]; rfl
theorem fT_h {n : Nat} {S a : Int} {j : Nat} {d g : Nat → Int32} {r : Int32} (hr : r.toInt = src n d g j S a) (h2 : ¬ r < 0) : ¬ bI (hs n r.toInt) = 0 := by
  rw [ilt, i0] at h2
  rcases src_m1 (n := n) (d := d) (g := g) (K := j) (S := S) (a := a) with h | h
  · rw [← hr] at h; omega
  · rw [hr, h]; decide
theorem dm1 {n : Nat} {d : Nat → Int32} {j : Nat} (hd : dOK n d) (hj : j < n) (h64 : n ≤ 64) (h : ¬ 0 ≤ d (nI j).toNatClampNeg) : d (nI j).toNatClampNeg = -1 := by
  rw [nI_clamp (by omega)] at h ⊢
  rw [ile, i0] at h
  exact ieq.mpr (by rw [im1]; have := hd j hj; omega)
theorem dn1 {d : Nat → Int32} {j : Nat} (h : 0 ≤ d (nI j).toNatClampNeg) : ¬ d (nI j).toNatClampNeg = -1 := fun e => by rw [e] at h; exact absurd h (by decide)

set_option maxHeartbeats 4000000 in
set_option maxRecDepth 100000 in
/-- the reference: depth(k, v) -/
theorem c_T_depth_ok (l : Launch) (D : va_G) (cI cZ cJ cO : ClassId) (sz : Nat) (o dT gT la ca aa na ya ta : Nat) (n ns nn nr : Nat) (d g sl cr ak no ye tl : Nat → Int32) (th be bp bm : Int32) (bo : Int64) (h4 : 4 ≤ n) (h64 : n ≤ 64) (hd : dOK n d) (k v : Int32) : Met l y_T_depth (wq y_T_depth c_T_depth 3 none) ({ frames := 2, cells := 0, slots := 0, locals := 47 }) (mP D (TY cI cZ cJ cO) [(o, .inr (7, [.int th, .int (nI n), .ref dT, .ref gT, .int (nI ns), .ref la, .ref ca, .int (nI nn), .ref aa, .ref na, .ref ya, .int (nI nr), .ref ta, .int be, .int bp, .long bo, .int bm])), (dT, .inl (cI, 64, .inl d)), (gT, .inl (cZ, 64, .inl g)), (la, .inl (cI, 8, .inl sl)), (ca, .inl (cI, 128, .inl cr)), (aa, .inl (cI, 16, .inl ak)), (na, .inl (cI, 16, .inl no)), (ya, .inl (cI, 16, .inl ye)), (ta, .inl (cI, 48, .inl tl))] [.ref o, .int k, .int v] sz) (va_Qv (fun (u : va_W) => u = [(o, .inr (7, [.int (cDep n k v), .int (nI n), .ref dT, .ref gT, .int (nI ns), .ref la, .ref ca, .int (nI nn), .ref aa, .ref na, .ref ya, .int (nI nr), .ref ta, .int be, .int bp, .long bo, .int bm])), (dT, .inl (cI, 64, .inl (dDep n d k v))), (gT, .inl (cZ, 64, .inl (gDep n g k v))), (la, .inl (cI, 8, .inl sl)), (ca, .inl (cI, 128, .inl cr)), (aa, .inl (cI, 16, .inl ak)), (na, .inl (cI, 16, .inl no)), (ya, .inl (cI, 16, .inl ye)), (ta, .inl (cI, 48, .inl tl))]) (mB D (TY cI cZ cJ cO) (va_A [(o, .inr (7, [.int th, .int (nI n), .ref dT, .ref gT, .int (nI ns), .ref la, .ref ca, .int (nI nn), .ref aa, .ref na, .ref ya, .int (nI nr), .ref ta, .int be, .int bp, .long bo, .int bm])), (dT, .inl (cI, 64, .inl d)), (gT, .inl (cZ, 64, .inl g)), (la, .inl (cI, 8, .inl sl)), (ca, .inl (cI, 128, .inl cr)), (aa, .inl (cI, 16, .inl ak)), (na, .inl (cI, 16, .inl no)), (ya, .inl (cI, 16, .inl ye)), (ta, .inl (cI, 48, .inl tl))] sz)) (va_A [(o, .inr (7, [.int th, .int (nI n), .ref dT, .ref gT, .int (nI ns), .ref la, .ref ca, .int (nI nn), .ref aa, .ref na, .ref ya, .int (nI nr), .ref ta, .int be, .int bp, .long bo, .int bm])), (dT, .inl (cI, 64, .inl d)), (gT, .inl (cZ, 64, .inl g)), (la, .inl (cI, 8, .inl sl)), (ca, .inl (cI, 128, .inl cr)), (aa, .inl (cI, 16, .inl ak)), (na, .inl (cI, 16, .inl no)), (ya, .inl (cI, 16, .inl ye)), (ta, .inl (cI, 48, .inl tl))] sz)) 0 0 (va_A [(o, .inr (7, [.int th, .int (nI n), .ref dT, .ref gT, .int (nI ns), .ref la, .ref ca, .int (nI nn), .ref aa, .ref na, .ref ya, .int (nI nr), .ref ta, .int be, .int bp, .long bo, .int bm])), (dT, .inl (cI, 64, .inl d)), (gT, .inl (cZ, 64, .inl g)), (la, .inl (cI, 8, .inl sl)), (ca, .inl (cI, 128, .inl cr)), (aa, .inl (cI, 16, .inl ak)), (na, .inl (cI, 16, .inl no)), (ya, .inl (cI, 16, .inl ye)), (ta, .inl (cI, 48, .inl tl))] sz) := by
  refine Met.ofW (cc := c_T_depth) (maxL := 3) (ret := none) (by decide) rfl ?_
  intro p e s m args below meth c s₁ B hml hv
  obtain ⟨rfl, hsz, hP, hK, hD0, hN⟩ := hv
  have hx := B.exec
  have hb := B.bytes
  have hr := B.returns
  have hg := gt_h (atoms_spec (ws := (wq y_T_depth c_T_depth 3 none)) B.pre)
  have hown : s.vm.findClass "RubbingMirrorsModel" = some m.cls := findClass_of_methodNamed B.named
  have hlocks := B.notSynchronized
  subst hsz
  have hD := hD0.self (sz := s.heap.size)
  generalize hAe : va_A [(o, .inr (7, [.int th, .int (nI n), .ref dT, .ref gT, .int (nI ns), .ref la, .ref ca, .int (nI nn), .ref aa, .ref na, .ref ya, .int (nI nr), .ref ta, .int be, .int bp, .long bo, .int bm])), (dT, .inl (cI, 64, .inl d)), (gT, .inl (cZ, 64, .inl g)), (la, .inl (cI, 8, .inl sl)), (ca, .inl (cI, 128, .inl cr)), (aa, .inl (cI, 16, .inl ak)), (na, .inl (cI, 16, .inl no)), (ya, .inl (cI, 16, .inl ye)), (ta, .inl (cI, 48, .inl tl))] s.heap.size = A at hD ⊢
  have hA : ∀ q : Nat, s.heap.size ≤ q → A q := fun q h => by rw [← hAe]; exact Or.inr h
  have hS : va_S A s.heap s.heap [] := va_S.rf
  have hl := lv_entry ([.ref o, .int k, .int v]) (n := 3) (Nat.le_of_ble_eq_true rfl)
  rw [lg_entry_eq]
  generalize (lg_sl ([.ref o, .int k, .int v]) ++ List.replicate (3 - (lg_sl ([.ref o, .int k, .int v])).length) Slot.unset).toArray = ls at hl ⊢
  have hl : lv_has ls 3 [(0, .ref o), (1, .int k), (2, .int v)] := hl
  refine lv_aload_n hx hb d_T_depth_0 rfl (lv_at hl 0 rfl) ?_
  refine lv_aload_n hx hb d_T_depth_1 rfl (lv_at hl 0 rfl) ?_
  refine lv_iload_n hx hb d_T_depth_2 rfl (lv_at hl 1 rfl) ?_
  refine lv_i2l (v := k.toInt64) hx hb d_T_depth_3 rfl ?_
  refine vp_callSi (va_Run.run (va_runV (As := [.long k.toInt64]) (rest := [.ref o]) ⟨hx, hb, hml, hown, hg⟩ (c_T_isPlace_ok l D cI cZ cJ cO o dT gT la ca aa na ya ta n ns nn nr d g sl cr ak no ye tl th be bp bm bo h4 h64 hd k.toInt64) (cwV 1 hg (gv g_699 g_701 g_9 g_26 g_702) rfl rfl rfl (by decide +kernel) ⟨Nat.le_of_ble_eq_true rfl, Nat.le_of_ble_eq_true rfl⟩) (pV hP hK hN (va_recv hK hP (ci := 7) (q0 := 0) rfl rfl)) rfl rfl hl.1 rfl (lv_room (Nat.le_of_ble_eq_true rfl)) d_T_depth_4 ⟨Nat.zero_le _, Nat.zero_le _⟩)) (fun r_1 hr_1 => ?_)
  subst hr_1
  rw [hs64]
  refine lv_if_ne (tgt := 14) hx hb d_T_depth_7 (by decide) (fun c_7 => ?_) (fun c_7 => ?_)
  · refine lv_iload_n hx hb d_T_depth_14 rfl (lv_at hl 2 rfl) ?_
    refine lv_i2l (v := v.toInt64) hx hb d_T_depth_15 rfl ?_
    refine lv_ldc2 (v := (-1)) hx hb hown (hg _ g_706) d_T_depth_16 ?_
    refine lv_ldc2 (v := 255) hx hb hown (hg _ g_707) d_T_depth_19 ?_
    refine vp_callSi (va_Run.run (va_runS (As := [.long v.toInt64, .long (-1), .long 255]) (rest := [.ref o]) ⟨hx, hb, hml, hown, hg⟩ (c_T_isIn_ok l D cI cZ cJ cO v.toInt64 (-1) 255) (va_cwS 3 hg (gs2 g_703 g_704 g_26 g_705) rfl rfl rfl (by decide +kernel) ⟨Nat.le_of_ble_eq_true rfl, Nat.le_of_ble_eq_true rfl⟩) (pS ba_nil hK hN) rfl rfl hl.1 rfl (lv_room (Nat.le_of_ble_eq_true rfl)) d_T_depth_22 ⟨Nat.zero_le _, Nat.zero_le _⟩)) (fun r_2 hr_2 => ?_)
    subst hr_2
    rw [lw_c (v := v) (lo := (-1)) (hi := 255) (by decide) (by decide)]
    refine lv_if_ne (tgt := 32) hx hb d_T_depth_25 (by decide) (fun c_25 => ?_) (fun c_25 => ?_)
    · refine lv_iconst (v := 0) hx hb d_T_depth_32 (by decide) ?_
      refine va_put (D := D) (ci := 7) (v := .int 0) (ty := .int) (C := Q_T) (T := F_T) (N := 17) hx hb hg in_T tq_T tq_T_ok n_T hown hK hP hD hS 0 rfl rfl 0 (by decide) (hg _ g_639) (fun _ h9 => h9) rfl (by decide +kernel) rfl rfl (Nat.le_of_ble_eq_true rfl) d_T_depth_33 (fun H locs hP hD hS => ?_)
      have hP : va_P D cls [(o, .inr (7, [.int 0, .int (nI n), .ref dT, .ref gT, .int (nI ns), .ref la, .ref ca, .int (nI nn), .ref aa, .ref na, .ref ya, .int (nI nr), .ref ta, .int be, .int bp, .long bo, .int bm])), (dT, .inl (cI, 64, .inl d)), (gT, .inl (cZ, 64, .inl g)), (la, .inl (cI, 8, .inl sl)), (ca, .inl (cI, 128, .inl cr)), (aa, .inl (cI, 16, .inl ak)), (na, .inl (cI, 16, .inl no)), (ya, .inl (cI, 16, .inl ye)), (ta, .inl (cI, 48, .inl tl))] H := hP
      have hD : va_D A [(o, .inr (7, [.int 0, .int (nI n), .ref dT, .ref gT, .int (nI ns), .ref la, .ref ca, .int (nI nn), .ref aa, .ref na, .ref ya, .int (nI nr), .ref ta, .int be, .int bp, .long bo, .int bm])), (dT, .inl (cI, 64, .inl d)), (gT, .inl (cZ, 64, .inl g)), (la, .inl (cI, 8, .inl sl)), (ca, .inl (cI, 128, .inl cr)), (aa, .inl (cI, 16, .inl ak)), (na, .inl (cI, 16, .inl no)), (ya, .inl (cI, 16, .inl ye)), (ta, .inl (cI, 48, .inl tl))] := hD
      refine lv_aload_n hx hb d_T_depth_36 rfl (lv_at hl 0 rfl) ?_
      refine va_get (D := D) (ci := 7) (v := .int 0) (C := Q_T) (T := F_T) (N := 17) hx hb hg in_T hown hK hP 0 rfl rfl 0 (by decide) (hg _ g_639) (fun _ h9 => h9) rfl d_T_depth_37 ?_
      refine lv_if_ne (tgt := 57) hx hb d_T_depth_40 (by decide) (fun c_40 => ?_) (fun c_40 => ?_)
      · exact absurd c_40 (by decide)
      · refine lv_aload_n hx hb d_T_depth_43 rfl (lv_at hl 0 rfl) ?_
        refine va_get (D := D) (ci := 7) (v := .ref dT) (C := Q_T) (T := F_T) (N := 17) hx hb hg in_T hown hK hP 0 rfl rfl 2 (by decide) (hg _ g_641) (fun _ h9 => h9) rfl d_T_depth_44 ?_
        refine lv_iload_n hx hb d_T_depth_47 rfl (lv_at hl 1 rfl) ?_
        refine lv_iload_n hx hb d_T_depth_48 rfl (lv_at hl 2 rfl) ?_
        refine va_iast hx hb hK hP hD hS 1 0 rfl rfl (v64h h64 c_7) d_T_depth_49 (fun H locs hP hD hS => ?_)
        have hP : va_P D cls [(o, .inr (7, [.int 0, .int (nI n), .ref dT, .ref gT, .int (nI ns), .ref la, .ref ca, .int (nI nn), .ref aa, .ref na, .ref ya, .int (nI nr), .ref ta, .int be, .int bp, .long bo, .int bm])), (dT, .inl (cI, 64, .inl (upd d k.toNatClampNeg v))), (gT, .inl (cZ, 64, .inl g)), (la, .inl (cI, 8, .inl sl)), (ca, .inl (cI, 128, .inl cr)), (aa, .inl (cI, 16, .inl ak)), (na, .inl (cI, 16, .inl no)), (ya, .inl (cI, 16, .inl ye)), (ta, .inl (cI, 48, .inl tl))] H := hP
        have hD : va_D A [(o, .inr (7, [.int 0, .int (nI n), .ref dT, .ref gT, .int (nI ns), .ref la, .ref ca, .int (nI nn), .ref aa, .ref na, .ref ya, .int (nI nr), .ref ta, .int be, .int bp, .long bo, .int bm])), (dT, .inl (cI, 64, .inl (upd d k.toNatClampNeg v))), (gT, .inl (cZ, 64, .inl g)), (la, .inl (cI, 8, .inl sl)), (ca, .inl (cI, 128, .inl cr)), (aa, .inl (cI, 16, .inl ak)), (na, .inl (cI, 16, .inl no)), (ya, .inl (cI, 16, .inl ye)), (ta, .inl (cI, 48, .inl tl))] := hD
        refine lv_aload_n hx hb d_T_depth_50 rfl (lv_at hl 0 rfl) ?_
        refine va_get (D := D) (ci := 7) (v := .ref gT) (C := Q_T) (T := F_T) (N := 17) hx hb hg in_T hown hK hP 0 rfl rfl 3 (by decide) (hg _ g_642) (fun _ h9 => h9) rfl d_T_depth_51 ?_
        refine lv_iload_n hx hb d_T_depth_54 rfl (lv_at hl 1 rfl) ?_
        refine lv_iconst (v := 0) hx hb d_T_depth_55 (by decide) ?_
        refine va_zast hx hb hK hP hD hS 2 1 rfl rfl (v64h h64 c_7) d_T_depth_56 (fun H locs hP hD hS => ?_)
        have hP : va_P D cls [(o, .inr (7, [.int 0, .int (nI n), .ref dT, .ref gT, .int (nI ns), .ref la, .ref ca, .int (nI nn), .ref aa, .ref na, .ref ya, .int (nI nr), .ref ta, .int be, .int bp, .long bo, .int bm])), (dT, .inl (cI, 64, .inl (upd d k.toNatClampNeg v))), (gT, .inl (cZ, 64, .inl (upd g k.toNatClampNeg 0))), (la, .inl (cI, 8, .inl sl)), (ca, .inl (cI, 128, .inl cr)), (aa, .inl (cI, 16, .inl ak)), (na, .inl (cI, 16, .inl no)), (ya, .inl (cI, 16, .inl ye)), (ta, .inl (cI, 48, .inl tl))] H := hP
        have hD : va_D A [(o, .inr (7, [.int 0, .int (nI n), .ref dT, .ref gT, .int (nI ns), .ref la, .ref ca, .int (nI nn), .ref aa, .ref na, .ref ya, .int (nI nr), .ref ta, .int be, .int bp, .long bo, .int bm])), (dT, .inl (cI, 64, .inl (upd d k.toNatClampNeg v))), (gT, .inl (cZ, 64, .inl (upd g k.toNatClampNeg 0))), (la, .inl (cI, 8, .inl sl)), (ca, .inl (cI, 128, .inl cr)), (aa, .inl (cI, 16, .inl ak)), (na, .inl (cI, 16, .inl no)), (ya, .inl (cI, 16, .inl ye)), (ta, .inl (cI, 48, .inl tl))] := hD
        exact W.vret hx hb hr (fun t9 ht hW => ⟨⟨[(o, .inr (7, [.int 0, .int (nI n), .ref dT, .ref gT, .int (nI ns), .ref la, .ref ca, .int (nI nn), .ref aa, .ref na, .ref ya, .int (nI nr), .ref ta, .int be, .int bp, .long bo, .int bm])), (dT, .inl (cI, 64, .inl (upd d k.toNatClampNeg v))), (gT, .inl (cZ, 64, .inl (upd g k.toNatClampNeg 0))), (la, .inl (cI, 8, .inl sl)), (ca, .inl (cI, 128, .inl cr)), (aa, .inl (cI, 16, .inl ak)), (na, .inl (cI, 16, .inl no)), (ya, .inl (cI, 16, .inl ye)), (ta, .inl (cI, 48, .inl tl))], rfl, (by dsimp only; unfold dDep gDep; (first | rw [cd_1 c_7] | rw [cd_2 c_7 c_25] | rw [cd_0 c_7 c_25]) <;> rfl), by rw [ht]; exact hP, va_K.moved hW.alike hK, hD⟩, hS.F ht⟩) hS.2.2 d_T_depth_57
    · refine lv_iconst (v := 2) hx hb d_T_depth_28 (by decide) ?_
      refine lv_goto (tgt := 33) hx hb d_T_depth_29 (by decide) ?_
      refine va_put (D := D) (ci := 7) (v := .int 2) (ty := .int) (C := Q_T) (T := F_T) (N := 17) hx hb hg in_T tq_T tq_T_ok n_T hown hK hP hD hS 0 rfl rfl 0 (by decide) (hg _ g_639) (fun _ h9 => h9) rfl (by decide +kernel) rfl rfl (Nat.le_of_ble_eq_true rfl) d_T_depth_33 (fun H locs hP hD hS => ?_)
      have hP : va_P D cls [(o, .inr (7, [.int 2, .int (nI n), .ref dT, .ref gT, .int (nI ns), .ref la, .ref ca, .int (nI nn), .ref aa, .ref na, .ref ya, .int (nI nr), .ref ta, .int be, .int bp, .long bo, .int bm])), (dT, .inl (cI, 64, .inl d)), (gT, .inl (cZ, 64, .inl g)), (la, .inl (cI, 8, .inl sl)), (ca, .inl (cI, 128, .inl cr)), (aa, .inl (cI, 16, .inl ak)), (na, .inl (cI, 16, .inl no)), (ya, .inl (cI, 16, .inl ye)), (ta, .inl (cI, 48, .inl tl))] H := hP
      have hD : va_D A [(o, .inr (7, [.int 2, .int (nI n), .ref dT, .ref gT, .int (nI ns), .ref la, .ref ca, .int (nI nn), .ref aa, .ref na, .ref ya, .int (nI nr), .ref ta, .int be, .int bp, .long bo, .int bm])), (dT, .inl (cI, 64, .inl d)), (gT, .inl (cZ, 64, .inl g)), (la, .inl (cI, 8, .inl sl)), (ca, .inl (cI, 128, .inl cr)), (aa, .inl (cI, 16, .inl ak)), (na, .inl (cI, 16, .inl no)), (ya, .inl (cI, 16, .inl ye)), (ta, .inl (cI, 48, .inl tl))] := hD
      refine lv_aload_n hx hb d_T_depth_36 rfl (lv_at hl 0 rfl) ?_
      refine va_get (D := D) (ci := 7) (v := .int 2) (C := Q_T) (T := F_T) (N := 17) hx hb hg in_T hown hK hP 0 rfl rfl 0 (by decide) (hg _ g_639) (fun _ h9 => h9) rfl d_T_depth_37 ?_
      refine lv_if_ne (tgt := 57) hx hb d_T_depth_40 (by decide) (fun c_40 => ?_) (fun c_40 => ?_)
      · exact W.vret hx hb hr (fun t9 ht hW => ⟨⟨[(o, .inr (7, [.int 2, .int (nI n), .ref dT, .ref gT, .int (nI ns), .ref la, .ref ca, .int (nI nn), .ref aa, .ref na, .ref ya, .int (nI nr), .ref ta, .int be, .int bp, .long bo, .int bm])), (dT, .inl (cI, 64, .inl d)), (gT, .inl (cZ, 64, .inl g)), (la, .inl (cI, 8, .inl sl)), (ca, .inl (cI, 128, .inl cr)), (aa, .inl (cI, 16, .inl ak)), (na, .inl (cI, 16, .inl no)), (ya, .inl (cI, 16, .inl ye)), (ta, .inl (cI, 48, .inl tl))], rfl, (by dsimp only; unfold dDep gDep; (first | rw [cd_1 c_7] | rw [cd_2 c_7 c_25] | rw [cd_0 c_7 c_25]) <;> rfl), by rw [ht]; exact hP, va_K.moved hW.alike hK, hD⟩, hS.F ht⟩) hS.2.2 d_T_depth_57
      · exact absurd c_40 (by decide)
  · refine lv_iconst (v := 1) hx hb d_T_depth_10 (by decide) ?_
    refine lv_goto (tgt := 33) hx hb d_T_depth_11 (by decide) ?_
    refine va_put (D := D) (ci := 7) (v := .int 1) (ty := .int) (C := Q_T) (T := F_T) (N := 17) hx hb hg in_T tq_T tq_T_ok n_T hown hK hP hD hS 0 rfl rfl 0 (by decide) (hg _ g_639) (fun _ h9 => h9) rfl (by decide +kernel) rfl rfl (Nat.le_of_ble_eq_true rfl) d_T_depth_33 (fun H locs hP hD hS => ?_)
    have hP : va_P D cls [(o, .inr (7, [.int 1, .int (nI n), .ref dT, .ref gT, .int (nI ns), .ref la, .ref ca, .int (nI nn), .ref aa, .ref na, .ref ya, .int (nI nr), .ref ta, .int be, .int bp, .long bo, .int bm])), (dT, .inl (cI, 64, .inl d)), (gT, .inl (cZ, 64, .inl g)), (la, .inl (cI, 8, .inl sl)), (ca, .inl (cI, 128, .inl cr)), (aa, .inl (cI, 16, .inl ak)), (na, .inl (cI, 16, .inl no)), (ya, .inl (cI, 16, .inl ye)), (ta, .inl (cI, 48, .inl tl))] H := hP
    have hD : va_D A [(o, .inr (7, [.int 1, .int (nI n), .ref dT, .ref gT, .int (nI ns), .ref la, .ref ca, .int (nI nn), .ref aa, .ref na, .ref ya, .int (nI nr), .ref ta, .int be, .int bp, .long bo, .int bm])), (dT, .inl (cI, 64, .inl d)), (gT, .inl (cZ, 64, .inl g)), (la, .inl (cI, 8, .inl sl)), (ca, .inl (cI, 128, .inl cr)), (aa, .inl (cI, 16, .inl ak)), (na, .inl (cI, 16, .inl no)), (ya, .inl (cI, 16, .inl ye)), (ta, .inl (cI, 48, .inl tl))] := hD
    refine lv_aload_n hx hb d_T_depth_36 rfl (lv_at hl 0 rfl) ?_
    refine va_get (D := D) (ci := 7) (v := .int 1) (C := Q_T) (T := F_T) (N := 17) hx hb hg in_T hown hK hP 0 rfl rfl 0 (by decide) (hg _ g_639) (fun _ h9 => h9) rfl d_T_depth_37 ?_
    refine lv_if_ne (tgt := 57) hx hb d_T_depth_40 (by decide) (fun c_40 => ?_) (fun c_40 => ?_)
    · exact W.vret hx hb hr (fun t9 ht hW => ⟨⟨[(o, .inr (7, [.int 1, .int (nI n), .ref dT, .ref gT, .int (nI ns), .ref la, .ref ca, .int (nI nn), .ref aa, .ref na, .ref ya, .int (nI nr), .ref ta, .int be, .int bp, .long bo, .int bm])), (dT, .inl (cI, 64, .inl d)), (gT, .inl (cZ, 64, .inl g)), (la, .inl (cI, 8, .inl sl)), (ca, .inl (cI, 128, .inl cr)), (aa, .inl (cI, 16, .inl ak)), (na, .inl (cI, 16, .inl no)), (ya, .inl (cI, 16, .inl ye)), (ta, .inl (cI, 48, .inl tl))], rfl, (by dsimp only; unfold dDep gDep; (first | rw [cd_1 c_7] | rw [cd_2 c_7 c_25] | rw [cd_0 c_7 c_25]) <;> rfl), by rw [ht]; exact hP, va_K.moved hW.alike hK, hD⟩, hS.F ht⟩) hS.2.2 d_T_depth_57
    · exact absurd c_40 (by decide)

set_option maxHeartbeats 4000000 in
set_option maxRecDepth 100000 in
/-- the reference: place(k, w) -/
theorem c_T_place_ok (l : Launch) (D : va_G) (cI cZ cJ cO : ClassId) (sz : Nat) (o dT gT la ca aa na ya ta : Nat) (n ns nn nr : Nat) (d g sl cr ak no ye tl : Nat → Int32) (th be bp bm : Int32) (bo : Int64) (h4 : 4 ≤ n) (h64 : n ≤ 64) (hd : dOK n d) (k w : Int32) : Met l y_T_place (wq y_T_place c_T_place 3 (some .int)) ({ frames := 2, cells := 0, slots := 0, locals := 47 }) (mP D (TY cI cZ cJ cO) [(o, .inr (7, [.int th, .int (nI n), .ref dT, .ref gT, .int (nI ns), .ref la, .ref ca, .int (nI nn), .ref aa, .ref na, .ref ya, .int (nI nr), .ref ta, .int be, .int bp, .long bo, .int bm])), (dT, .inl (cI, 64, .inl d)), (gT, .inl (cZ, 64, .inl g)), (la, .inl (cI, 8, .inl sl)), (ca, .inl (cI, 128, .inl cr)), (aa, .inl (cI, 16, .inl ak)), (na, .inl (cI, 16, .inl no)), (ya, .inl (cI, 16, .inl ye)), (ta, .inl (cI, 48, .inl tl))] [.ref o, .int k, .int w] sz) (va_Qi (fun (r : Int32) (u : va_W) => u = [(o, .inr (7, [.int (cPla n k w), .int (nI n), .ref dT, .ref gT, .int (nI ns), .ref la, .ref ca, .int (nI nn), .ref aa, .ref na, .ref ya, .int (nI nr), .ref ta, .int be, .int bp, .long bo, .int bm])), (dT, .inl (cI, 64, .inl d)), (gT, .inl (cZ, 64, .inl g)), (la, .inl (cI, 8, .inl sl)), (ca, .inl (cI, 128, .inl cr)), (aa, .inl (cI, 16, .inl ak)), (na, .inl (cI, 16, .inl no)), (ya, .inl (cI, 16, .inl ye)), (ta, .inl (cI, 48, .inl tl))] ∧ (cPla n k w = 0 → r = aPla d g k w)) (mB D (TY cI cZ cJ cO) (va_A [(o, .inr (7, [.int th, .int (nI n), .ref dT, .ref gT, .int (nI ns), .ref la, .ref ca, .int (nI nn), .ref aa, .ref na, .ref ya, .int (nI nr), .ref ta, .int be, .int bp, .long bo, .int bm])), (dT, .inl (cI, 64, .inl d)), (gT, .inl (cZ, 64, .inl g)), (la, .inl (cI, 8, .inl sl)), (ca, .inl (cI, 128, .inl cr)), (aa, .inl (cI, 16, .inl ak)), (na, .inl (cI, 16, .inl no)), (ya, .inl (cI, 16, .inl ye)), (ta, .inl (cI, 48, .inl tl))] sz)) (va_A [(o, .inr (7, [.int th, .int (nI n), .ref dT, .ref gT, .int (nI ns), .ref la, .ref ca, .int (nI nn), .ref aa, .ref na, .ref ya, .int (nI nr), .ref ta, .int be, .int bp, .long bo, .int bm])), (dT, .inl (cI, 64, .inl d)), (gT, .inl (cZ, 64, .inl g)), (la, .inl (cI, 8, .inl sl)), (ca, .inl (cI, 128, .inl cr)), (aa, .inl (cI, 16, .inl ak)), (na, .inl (cI, 16, .inl no)), (ya, .inl (cI, 16, .inl ye)), (ta, .inl (cI, 48, .inl tl))] sz)) 0 0 (va_A [(o, .inr (7, [.int th, .int (nI n), .ref dT, .ref gT, .int (nI ns), .ref la, .ref ca, .int (nI nn), .ref aa, .ref na, .ref ya, .int (nI nr), .ref ta, .int be, .int bp, .long bo, .int bm])), (dT, .inl (cI, 64, .inl d)), (gT, .inl (cZ, 64, .inl g)), (la, .inl (cI, 8, .inl sl)), (ca, .inl (cI, 128, .inl cr)), (aa, .inl (cI, 16, .inl ak)), (na, .inl (cI, 16, .inl no)), (ya, .inl (cI, 16, .inl ye)), (ta, .inl (cI, 48, .inl tl))] sz) := by
  refine Met.ofW (cc := c_T_place) (maxL := 3) (ret := (some .int)) (by decide) rfl ?_
  intro p e s m args below meth c s₁ B hml hv
  obtain ⟨rfl, hsz, hP, hK, hD0, hN⟩ := hv
  have hx := B.exec
  have hb := B.bytes
  have hr := B.returns
  have hg := gt_h (atoms_spec (ws := (wq y_T_place c_T_place 3 (some .int))) B.pre)
  have hown : s.vm.findClass "RubbingMirrorsModel" = some m.cls := findClass_of_methodNamed B.named
  have hlocks := B.notSynchronized
  subst hsz
  have hD := hD0.self (sz := s.heap.size)
  generalize hAe : va_A [(o, .inr (7, [.int th, .int (nI n), .ref dT, .ref gT, .int (nI ns), .ref la, .ref ca, .int (nI nn), .ref aa, .ref na, .ref ya, .int (nI nr), .ref ta, .int be, .int bp, .long bo, .int bm])), (dT, .inl (cI, 64, .inl d)), (gT, .inl (cZ, 64, .inl g)), (la, .inl (cI, 8, .inl sl)), (ca, .inl (cI, 128, .inl cr)), (aa, .inl (cI, 16, .inl ak)), (na, .inl (cI, 16, .inl no)), (ya, .inl (cI, 16, .inl ye)), (ta, .inl (cI, 48, .inl tl))] s.heap.size = A at hD ⊢
  have hA : ∀ q : Nat, s.heap.size ≤ q → A q := fun q h => by rw [← hAe]; exact Or.inr h
  have hS : va_S A s.heap s.heap [] := va_S.rf
  have hl := lv_entry ([.ref o, .int k, .int w]) (n := 3) (Nat.le_of_ble_eq_true rfl)
  rw [lg_entry_eq]
  generalize (lg_sl ([.ref o, .int k, .int w]) ++ List.replicate (3 - (lg_sl ([.ref o, .int k, .int w])).length) Slot.unset).toArray = ls at hl ⊢
  have hl : lv_has ls 3 [(0, .ref o), (1, .int k), (2, .int w)] := hl
  refine lv_aload_n hx hb d_T_place_0 rfl (lv_at hl 0 rfl) ?_
  refine lv_aload_n hx hb d_T_place_1 rfl (lv_at hl 0 rfl) ?_
  refine lv_iload_n hx hb d_T_place_2 rfl (lv_at hl 1 rfl) ?_
  refine lv_i2l (v := k.toInt64) hx hb d_T_place_3 rfl ?_
  refine vp_callSi (va_Run.run (va_runV (As := [.long k.toInt64]) (rest := [.ref o]) ⟨hx, hb, hml, hown, hg⟩ (c_T_isPlace_ok l D cI cZ cJ cO o dT gT la ca aa na ya ta n ns nn nr d g sl cr ak no ye tl th be bp bm bo h4 h64 hd k.toInt64) (cwV 1 hg (gv g_699 g_701 g_9 g_26 g_702) rfl rfl rfl (by decide +kernel) ⟨Nat.le_of_ble_eq_true rfl, Nat.le_of_ble_eq_true rfl⟩) (pV hP hK hN (va_recv hK hP (ci := 7) (q0 := 0) rfl rfl)) rfl rfl hl.1 rfl (lv_room (Nat.le_of_ble_eq_true rfl)) d_T_place_4 ⟨Nat.zero_le _, Nat.zero_le _⟩)) (fun r_1 hr_1 => ?_)
  subst hr_1
  rw [hs64]
  refine lv_if_eq (tgt := 20) hx hb d_T_place_7 (by decide) (fun c_7 => ?_) (fun c_7 => ?_)
  · refine lv_iconst (v := 1) hx hb d_T_place_20 (by decide) ?_
    refine lv_goto (tgt := 25) hx hb d_T_place_21 (by decide) ?_
    refine va_put (D := D) (ci := 7) (v := .int 1) (ty := .int) (C := Q_T) (T := F_T) (N := 17) hx hb hg in_T tq_T tq_T_ok n_T hown hK hP hD hS 0 rfl rfl 0 (by decide) (hg _ g_639) (fun _ h9 => h9) rfl (by decide +kernel) rfl rfl (Nat.le_of_ble_eq_true rfl) d_T_place_25 (fun H locs hP hD hS => ?_)
    have hP : va_P D cls [(o, .inr (7, [.int 1, .int (nI n), .ref dT, .ref gT, .int (nI ns), .ref la, .ref ca, .int (nI nn), .ref aa, .ref na, .ref ya, .int (nI nr), .ref ta, .int be, .int bp, .long bo, .int bm])), (dT, .inl (cI, 64, .inl d)), (gT, .inl (cZ, 64, .inl g)), (la, .inl (cI, 8, .inl sl)), (ca, .inl (cI, 128, .inl cr)), (aa, .inl (cI, 16, .inl ak)), (na, .inl (cI, 16, .inl no)), (ya, .inl (cI, 16, .inl ye)), (ta, .inl (cI, 48, .inl tl))] H := hP
    have hD : va_D A [(o, .inr (7, [.int 1, .int (nI n), .ref dT, .ref gT, .int (nI ns), .ref la, .ref ca, .int (nI nn), .ref aa, .ref na, .ref ya, .int (nI nr), .ref ta, .int be, .int bp, .long bo, .int bm])), (dT, .inl (cI, 64, .inl d)), (gT, .inl (cZ, 64, .inl g)), (la, .inl (cI, 8, .inl sl)), (ca, .inl (cI, 128, .inl cr)), (aa, .inl (cI, 16, .inl ak)), (na, .inl (cI, 16, .inl no)), (ya, .inl (cI, 16, .inl ye)), (ta, .inl (cI, 48, .inl tl))] := hD
    refine lv_aload_n hx hb d_T_place_28 rfl (lv_at hl 0 rfl) ?_
    refine va_get (D := D) (ci := 7) (v := .int 1) (C := Q_T) (T := F_T) (N := 17) hx hb hg in_T hown hK hP 0 rfl rfl 0 (by decide) (hg _ g_639) (fun _ h9 => h9) rfl d_T_place_29 ?_
    refine lv_if_le (tgt := 39) hx hb d_T_place_32 (by decide) (fun c_32 => ?_) (fun c_32 => ?_)
    · exact absurd c_32 (by decide)
    · refine lv_iconst (v := 0) hx hb d_T_place_35 (by decide) ?_
      refine lv_goto (tgt := 66) hx hb d_T_place_36 (by decide) ?_
      exact W.iret hx hb hr (fun t9 ht hW => ⟨⟨_, [(o, .inr (7, [.int 1, .int (nI n), .ref dT, .ref gT, .int (nI ns), .ref la, .ref ca, .int (nI nn), .ref aa, .ref na, .ref ya, .int (nI nr), .ref ta, .int be, .int bp, .long bo, .int bm])), (dT, .inl (cI, 64, .inl d)), (gT, .inl (cZ, 64, .inl g)), (la, .inl (cI, 8, .inl sl)), (ca, .inl (cI, 128, .inl cr)), (aa, .inl (cI, 16, .inl ak)), (na, .inl (cI, 16, .inl no)), (ya, .inl (cI, 16, .inl ye)), (ta, .inl (cI, 48, .inl tl))], rfl, ⟨by first | rw [cp_1 c_7] | rw [cp_2 c_17], fun h => absurd h (by first | (rw [cp_1 c_7]; decide) | (rw [cp_2 c_17]; decide))⟩, by rw [ht]; exact hP, va_K.moved hW.alike hK, hD⟩, hS.F ht⟩) hS.2.2 d_T_place_66
  · refine lv_iload_n hx hb d_T_place_10 rfl (lv_at hl 2 rfl) ?_
    refine lv_i2l (v := w.toInt64) hx hb d_T_place_11 rfl ?_
    refine lv_lconst (v := 0) hx hb d_T_place_12 (by decide) ?_
    refine lv_lconst (v := 1) hx hb d_T_place_13 (by decide) ?_
    refine vp_callSi (va_Run.run (va_runS (As := [.long w.toInt64, .long 0, .long 1]) (rest := [.ref o]) ⟨hx, hb, hml, hown, hg⟩ (c_T_isIn_ok l D cI cZ cJ cO w.toInt64 0 1) (va_cwS 3 hg (gs2 g_703 g_704 g_26 g_705) rfl rfl rfl (by decide +kernel) ⟨Nat.le_of_ble_eq_true rfl, Nat.le_of_ble_eq_true rfl⟩) (pS ba_nil hK hN) rfl rfl hl.1 rfl (lv_room (Nat.le_of_ble_eq_true rfl)) d_T_place_14 ⟨Nat.zero_le _, Nat.zero_le _⟩)) (fun r_2 hr_2 => ?_)
    subst hr_2
    rw [lw_c (v := w) (lo := 0) (hi := 1) (by decide) (by decide)]
    refine lv_if_ne (tgt := 24) hx hb d_T_place_17 (by decide) (fun c_17 => ?_) (fun c_17 => ?_)
    · refine lv_iconst (v := 0) hx hb d_T_place_24 (by decide) ?_
      refine va_put (D := D) (ci := 7) (v := .int 0) (ty := .int) (C := Q_T) (T := F_T) (N := 17) hx hb hg in_T tq_T tq_T_ok n_T hown hK hP hD hS 0 rfl rfl 0 (by decide) (hg _ g_639) (fun _ h9 => h9) rfl (by decide +kernel) rfl rfl (Nat.le_of_ble_eq_true rfl) d_T_place_25 (fun H locs hP hD hS => ?_)
      have hP : va_P D cls [(o, .inr (7, [.int 0, .int (nI n), .ref dT, .ref gT, .int (nI ns), .ref la, .ref ca, .int (nI nn), .ref aa, .ref na, .ref ya, .int (nI nr), .ref ta, .int be, .int bp, .long bo, .int bm])), (dT, .inl (cI, 64, .inl d)), (gT, .inl (cZ, 64, .inl g)), (la, .inl (cI, 8, .inl sl)), (ca, .inl (cI, 128, .inl cr)), (aa, .inl (cI, 16, .inl ak)), (na, .inl (cI, 16, .inl no)), (ya, .inl (cI, 16, .inl ye)), (ta, .inl (cI, 48, .inl tl))] H := hP
      have hD : va_D A [(o, .inr (7, [.int 0, .int (nI n), .ref dT, .ref gT, .int (nI ns), .ref la, .ref ca, .int (nI nn), .ref aa, .ref na, .ref ya, .int (nI nr), .ref ta, .int be, .int bp, .long bo, .int bm])), (dT, .inl (cI, 64, .inl d)), (gT, .inl (cZ, 64, .inl g)), (la, .inl (cI, 8, .inl sl)), (ca, .inl (cI, 128, .inl cr)), (aa, .inl (cI, 16, .inl ak)), (na, .inl (cI, 16, .inl no)), (ya, .inl (cI, 16, .inl ye)), (ta, .inl (cI, 48, .inl tl))] := hD
      refine lv_aload_n hx hb d_T_place_28 rfl (lv_at hl 0 rfl) ?_
      refine va_get (D := D) (ci := 7) (v := .int 0) (C := Q_T) (T := F_T) (N := 17) hx hb hg in_T hown hK hP 0 rfl rfl 0 (by decide) (hg _ g_639) (fun _ h9 => h9) rfl d_T_place_29 ?_
      refine lv_if_le (tgt := 39) hx hb d_T_place_32 (by decide) (fun c_32 => ?_) (fun c_32 => ?_)
      · refine lv_iload_n hx hb d_T_place_39 rfl (lv_at hl 2 rfl) ?_
        refine lv_if_ne (tgt := 52) hx hb d_T_place_40 (by decide) (fun c_40 => ?_) (fun c_40 => ?_)
        · refine lv_aload_n hx hb d_T_place_52 rfl (lv_at hl 0 rfl) ?_
          refine va_get (D := D) (ci := 7) (v := .ref gT) (C := Q_T) (T := F_T) (N := 17) hx hb hg in_T hown hK hP 0 rfl rfl 3 (by decide) (hg _ g_642) (fun _ h9 => h9) rfl d_T_place_53 ?_
          refine lv_iload_n hx hb d_T_place_56 rfl (lv_at hl 1 rfl) ?_
          refine va_zald hx hb hK hP 2 1 rfl rfl (v64h h64 c_7) d_T_place_57 ?_
          refine lv_if_eq (tgt := 65) hx hb d_T_place_58 (by decide) (fun c_58 => ?_) (fun c_58 => ?_)
          · refine lv_iconst (v := 0) hx hb d_T_place_65 (by decide) ?_
            exact W.iret hx hb hr (fun t9 ht hW => ⟨⟨_, [(o, .inr (7, [.int 0, .int (nI n), .ref dT, .ref gT, .int (nI ns), .ref la, .ref ca, .int (nI nn), .ref aa, .ref na, .ref ya, .int (nI nr), .ref ta, .int be, .int bp, .long bo, .int bm])), (dT, .inl (cI, 64, .inl d)), (gT, .inl (cZ, 64, .inl g)), (la, .inl (cI, 8, .inl sl)), (ca, .inl (cI, 128, .inl cr)), (aa, .inl (cI, 16, .inl ak)), (na, .inl (cI, 16, .inl no)), (ya, .inl (cI, 16, .inl ye)), (ta, .inl (cI, 48, .inl tl))], rfl, ⟨by rw [cp_0 c_7 c_17], fun _ => by unfold aPla; first | rw [if_pos c_40] | rw [if_neg c_40, if_pos c_58] | rw [if_neg c_40, if_neg c_58]⟩, by rw [ht]; exact hP, va_K.moved hW.alike hK, hD⟩, hS.F ht⟩) hS.2.2 d_T_place_66
          · refine lv_iconst (v := 1) hx hb d_T_place_61 (by decide) ?_
            refine lv_goto (tgt := 66) hx hb d_T_place_62 (by decide) ?_
            exact W.iret hx hb hr (fun t9 ht hW => ⟨⟨_, [(o, .inr (7, [.int 0, .int (nI n), .ref dT, .ref gT, .int (nI ns), .ref la, .ref ca, .int (nI nn), .ref aa, .ref na, .ref ya, .int (nI nr), .ref ta, .int be, .int bp, .long bo, .int bm])), (dT, .inl (cI, 64, .inl d)), (gT, .inl (cZ, 64, .inl g)), (la, .inl (cI, 8, .inl sl)), (ca, .inl (cI, 128, .inl cr)), (aa, .inl (cI, 16, .inl ak)), (na, .inl (cI, 16, .inl no)), (ya, .inl (cI, 16, .inl ye)), (ta, .inl (cI, 48, .inl tl))], rfl, ⟨by rw [cp_0 c_7 c_17], fun _ => by unfold aPla; first | rw [if_pos c_40] | rw [if_neg c_40, if_pos c_58] | rw [if_neg c_40, if_neg c_58]⟩, by rw [ht]; exact hP, va_K.moved hW.alike hK, hD⟩, hS.F ht⟩) hS.2.2 d_T_place_66
        · refine lv_aload_n hx hb d_T_place_43 rfl (lv_at hl 0 rfl) ?_
          refine va_get (D := D) (ci := 7) (v := .ref dT) (C := Q_T) (T := F_T) (N := 17) hx hb hg in_T hown hK hP 0 rfl rfl 2 (by decide) (hg _ g_641) (fun _ h9 => h9) rfl d_T_place_44 ?_
          refine lv_iload_n hx hb d_T_place_47 rfl (lv_at hl 1 rfl) ?_
          refine va_iald hx hb hK hP 1 0 rfl rfl (v64h h64 c_7) d_T_place_48 ?_
          refine lv_goto (tgt := 66) hx hb d_T_place_49 (by decide) ?_
          exact W.iret hx hb hr (fun t9 ht hW => ⟨⟨_, [(o, .inr (7, [.int 0, .int (nI n), .ref dT, .ref gT, .int (nI ns), .ref la, .ref ca, .int (nI nn), .ref aa, .ref na, .ref ya, .int (nI nr), .ref ta, .int be, .int bp, .long bo, .int bm])), (dT, .inl (cI, 64, .inl d)), (gT, .inl (cZ, 64, .inl g)), (la, .inl (cI, 8, .inl sl)), (ca, .inl (cI, 128, .inl cr)), (aa, .inl (cI, 16, .inl ak)), (na, .inl (cI, 16, .inl no)), (ya, .inl (cI, 16, .inl ye)), (ta, .inl (cI, 48, .inl tl))], rfl, ⟨by rw [cp_0 c_7 c_17], fun _ => by unfold aPla; first | rw [if_pos c_40] | rw [if_neg c_40, if_pos c_58] | rw [if_neg c_40, if_neg c_58]⟩, by rw [ht]; exact hP, va_K.moved hW.alike hK, hD⟩, hS.F ht⟩) hS.2.2 d_T_place_66
      · exact absurd c_32 (by decide)
    · refine lv_iconst (v := 1) hx hb d_T_place_20 (by decide) ?_
      refine lv_goto (tgt := 25) hx hb d_T_place_21 (by decide) ?_
      refine va_put (D := D) (ci := 7) (v := .int 1) (ty := .int) (C := Q_T) (T := F_T) (N := 17) hx hb hg in_T tq_T tq_T_ok n_T hown hK hP hD hS 0 rfl rfl 0 (by decide) (hg _ g_639) (fun _ h9 => h9) rfl (by decide +kernel) rfl rfl (Nat.le_of_ble_eq_true rfl) d_T_place_25 (fun H locs hP hD hS => ?_)
      have hP : va_P D cls [(o, .inr (7, [.int 1, .int (nI n), .ref dT, .ref gT, .int (nI ns), .ref la, .ref ca, .int (nI nn), .ref aa, .ref na, .ref ya, .int (nI nr), .ref ta, .int be, .int bp, .long bo, .int bm])), (dT, .inl (cI, 64, .inl d)), (gT, .inl (cZ, 64, .inl g)), (la, .inl (cI, 8, .inl sl)), (ca, .inl (cI, 128, .inl cr)), (aa, .inl (cI, 16, .inl ak)), (na, .inl (cI, 16, .inl no)), (ya, .inl (cI, 16, .inl ye)), (ta, .inl (cI, 48, .inl tl))] H := hP
      have hD : va_D A [(o, .inr (7, [.int 1, .int (nI n), .ref dT, .ref gT, .int (nI ns), .ref la, .ref ca, .int (nI nn), .ref aa, .ref na, .ref ya, .int (nI nr), .ref ta, .int be, .int bp, .long bo, .int bm])), (dT, .inl (cI, 64, .inl d)), (gT, .inl (cZ, 64, .inl g)), (la, .inl (cI, 8, .inl sl)), (ca, .inl (cI, 128, .inl cr)), (aa, .inl (cI, 16, .inl ak)), (na, .inl (cI, 16, .inl no)), (ya, .inl (cI, 16, .inl ye)), (ta, .inl (cI, 48, .inl tl))] := hD
      refine lv_aload_n hx hb d_T_place_28 rfl (lv_at hl 0 rfl) ?_
      refine va_get (D := D) (ci := 7) (v := .int 1) (C := Q_T) (T := F_T) (N := 17) hx hb hg in_T hown hK hP 0 rfl rfl 0 (by decide) (hg _ g_639) (fun _ h9 => h9) rfl d_T_place_29 ?_
      refine lv_if_le (tgt := 39) hx hb d_T_place_32 (by decide) (fun c_32 => ?_) (fun c_32 => ?_)
      · exact absurd c_32 (by decide)
      · refine lv_iconst (v := 0) hx hb d_T_place_35 (by decide) ?_
        refine lv_goto (tgt := 66) hx hb d_T_place_36 (by decide) ?_
        exact W.iret hx hb hr (fun t9 ht hW => ⟨⟨_, [(o, .inr (7, [.int 1, .int (nI n), .ref dT, .ref gT, .int (nI ns), .ref la, .ref ca, .int (nI nn), .ref aa, .ref na, .ref ya, .int (nI nr), .ref ta, .int be, .int bp, .long bo, .int bm])), (dT, .inl (cI, 64, .inl d)), (gT, .inl (cZ, 64, .inl g)), (la, .inl (cI, 8, .inl sl)), (ca, .inl (cI, 128, .inl cr)), (aa, .inl (cI, 16, .inl ak)), (na, .inl (cI, 16, .inl no)), (ya, .inl (cI, 16, .inl ye)), (ta, .inl (cI, 48, .inl tl))], rfl, ⟨by first | rw [cp_1 c_7] | rw [cp_2 c_17], fun h => absurd h (by first | (rw [cp_1 c_7]; decide) | (rw [cp_2 c_17]; decide))⟩, by rw [ht]; exact hP, va_K.moved hW.alike hK, hD⟩, hS.F ht⟩) hS.2.2 d_T_place_66

set_option maxHeartbeats 4000000 in
set_option maxRecDepth 100000 in
/-- the reference: sum(s) -/
theorem c_T_sum_ok (l : Launch) (D : va_G) (cI cZ cJ cO : ClassId) (sz : Nat) (o dT gT la ca aa na ya ta : Nat) (n ns nn nr : Nat) (d g sl cr ak no ye tl : Nat → Int32) (th be bp bm : Int32) (bo : Int64) (h4 : 4 ≤ n) (h64 : n ≤ 64) (hd : dOK n d) (s9 : Int32) : Met l y_T_sum (wq y_T_sum c_T_sum 2 (some .long)) ({ frames := 4, cells := 0, slots := 0, locals := 93 }) (mP D (TY cI cZ cJ cO) [(o, .inr (7, [.int th, .int (nI n), .ref dT, .ref gT, .int (nI ns), .ref la, .ref ca, .int (nI nn), .ref aa, .ref na, .ref ya, .int (nI nr), .ref ta, .int be, .int bp, .long bo, .int bm])), (dT, .inl (cI, 64, .inl d)), (gT, .inl (cZ, 64, .inl g)), (la, .inl (cI, 8, .inl sl)), (ca, .inl (cI, 128, .inl cr)), (aa, .inl (cI, 16, .inl ak)), (na, .inl (cI, 16, .inl no)), (ya, .inl (cI, 16, .inl ye)), (ta, .inl (cI, 48, .inl tl))] [.ref o, .int s9] sz) (va_Ql (fun (r : Int64) (u : va_W) => u = [(o, .inr (7, [.int (cSum n s9), .int (nI n), .ref dT, .ref gT, .int (nI ns), .ref la, .ref ca, .int (nI nn), .ref aa, .ref na, .ref ya, .int (nI nr), .ref ta, .int be, .int bp, .long bo, .int bm])), (dT, .inl (cI, 64, .inl d)), (gT, .inl (cZ, 64, .inl g)), (la, .inl (cI, 8, .inl sl)), (ca, .inl (cI, 128, .inl cr)), (aa, .inl (cI, 16, .inl ak)), (na, .inl (cI, 16, .inl no)), (ya, .inl (cI, 16, .inl ye)), (ta, .inl (cI, 48, .inl tl))] ∧ (cSum n s9 = 0 → r = rsv n d g s9.toNatClampNeg)) (mB D (TY cI cZ cJ cO) (va_A [(o, .inr (7, [.int th, .int (nI n), .ref dT, .ref gT, .int (nI ns), .ref la, .ref ca, .int (nI nn), .ref aa, .ref na, .ref ya, .int (nI nr), .ref ta, .int be, .int bp, .long bo, .int bm])), (dT, .inl (cI, 64, .inl d)), (gT, .inl (cZ, 64, .inl g)), (la, .inl (cI, 8, .inl sl)), (ca, .inl (cI, 128, .inl cr)), (aa, .inl (cI, 16, .inl ak)), (na, .inl (cI, 16, .inl no)), (ya, .inl (cI, 16, .inl ye)), (ta, .inl (cI, 48, .inl tl))] sz)) (va_A [(o, .inr (7, [.int th, .int (nI n), .ref dT, .ref gT, .int (nI ns), .ref la, .ref ca, .int (nI nn), .ref aa, .ref na, .ref ya, .int (nI nr), .ref ta, .int be, .int bp, .long bo, .int bm])), (dT, .inl (cI, 64, .inl d)), (gT, .inl (cZ, 64, .inl g)), (la, .inl (cI, 8, .inl sl)), (ca, .inl (cI, 128, .inl cr)), (aa, .inl (cI, 16, .inl ak)), (na, .inl (cI, 16, .inl no)), (ya, .inl (cI, 16, .inl ye)), (ta, .inl (cI, 48, .inl tl))] sz)) 0 0 (va_A [(o, .inr (7, [.int th, .int (nI n), .ref dT, .ref gT, .int (nI ns), .ref la, .ref ca, .int (nI nn), .ref aa, .ref na, .ref ya, .int (nI nr), .ref ta, .int be, .int bp, .long bo, .int bm])), (dT, .inl (cI, 64, .inl d)), (gT, .inl (cZ, 64, .inl g)), (la, .inl (cI, 8, .inl sl)), (ca, .inl (cI, 128, .inl cr)), (aa, .inl (cI, 16, .inl ak)), (na, .inl (cI, 16, .inl no)), (ya, .inl (cI, 16, .inl ye)), (ta, .inl (cI, 48, .inl tl))] sz) := by
  refine Met.ofW (cc := c_T_sum) (maxL := 2) (ret := (some .long)) (by decide) rfl ?_
  intro p e s m args below meth c s₁ B hml hv
  obtain ⟨rfl, hsz, hP, hK, hD0, hN⟩ := hv
  have hx := B.exec
  have hb := B.bytes
  have hr := B.returns
  have hg := gt_h (atoms_spec (ws := (wq y_T_sum c_T_sum 2 (some .long))) B.pre)
  have hown : s.vm.findClass "RubbingMirrorsModel" = some m.cls := findClass_of_methodNamed B.named
  have hlocks := B.notSynchronized
  subst hsz
  have hD := hD0.self (sz := s.heap.size)
  generalize hAe : va_A [(o, .inr (7, [.int th, .int (nI n), .ref dT, .ref gT, .int (nI ns), .ref la, .ref ca, .int (nI nn), .ref aa, .ref na, .ref ya, .int (nI nr), .ref ta, .int be, .int bp, .long bo, .int bm])), (dT, .inl (cI, 64, .inl d)), (gT, .inl (cZ, 64, .inl g)), (la, .inl (cI, 8, .inl sl)), (ca, .inl (cI, 128, .inl cr)), (aa, .inl (cI, 16, .inl ak)), (na, .inl (cI, 16, .inl no)), (ya, .inl (cI, 16, .inl ye)), (ta, .inl (cI, 48, .inl tl))] s.heap.size = A at hD ⊢
  have hA : ∀ q : Nat, s.heap.size ≤ q → A q := fun q h => by rw [← hAe]; exact Or.inr h
  have hS : va_S A s.heap s.heap [] := va_S.rf
  have hl := lv_entry ([.ref o, .int s9]) (n := 2) (Nat.le_of_ble_eq_true rfl)
  rw [lg_entry_eq]
  generalize (lg_sl ([.ref o, .int s9]) ++ List.replicate (2 - (lg_sl ([.ref o, .int s9])).length) Slot.unset).toArray = ls at hl ⊢
  have hl : lv_has ls 2 [(0, .ref o), (1, .int s9)] := hl
  refine lv_aload_n hx hb d_T_sum_0 rfl (lv_at hl 0 rfl) ?_
  refine lv_iload_n hx hb d_T_sum_1 rfl (lv_at hl 1 rfl) ?_
  refine lv_i2l (v := s9.toInt64) hx hb d_T_sum_2 rfl ?_
  refine lv_lconst (v := 1) hx hb d_T_sum_3 (by decide) ?_
  refine lv_aload_n hx hb d_T_sum_4 rfl (lv_at hl 0 rfl) ?_
  refine va_get (D := D) (ci := 7) (v := .int (nI n)) (C := Q_T) (T := F_T) (N := 17) hx hb hg in_T hown hK hP 0 rfl rfl 1 (by decide) (hg _ g_640) (fun _ h9 => h9) rfl d_T_sum_5 ?_
  refine lv_iconst (v := 1) hx hb d_T_sum_8 (by decide) ?_
  refine lv_isub hx hb d_T_sum_9 ?_
  refine lv_i2l (v := ((nI n) - 1).toInt64) hx hb d_T_sum_10 rfl ?_
  refine vp_callSi (va_Run.run (va_runS (As := [.long s9.toInt64, .long 1, .long (((nI n) - 1).toInt64)]) (rest := [.ref o]) ⟨hx, hb, hml, hown, hg⟩ (c_T_isIn_ok l D cI cZ cJ cO s9.toInt64 1 (((nI n) - 1).toInt64)) (va_cwS 3 hg (gs2 g_703 g_704 g_26 g_705) rfl rfl rfl (by decide +kernel) ⟨Nat.le_of_ble_eq_true rfl, Nat.le_of_ble_eq_true rfl⟩) (pS ba_nil hK hN) rfl rfl hl.1 rfl (lv_room (Nat.le_of_ble_eq_true rfl)) d_T_sum_11 ⟨Nat.zero_le _, Nat.zero_le _⟩)) (fun r_1 hr_1 => ?_)
  subst hr_1
  rw [lw_c (v := s9) (lo := 1) (hi := ((nI n) - 1)) (by decide) rfl]
  refine lv_if_ne (tgt := 21) hx hb d_T_sum_14 (by decide) (fun c_14 => ?_) (fun c_14 => ?_)
  · obtain ⟨S, hS1, hS2, rfl⟩ := iwS h4 h64 c_14
    refine lv_iconst (v := 0) hx hb d_T_sum_21 (by decide) ?_
    refine va_put (D := D) (ci := 7) (v := .int 0) (ty := .int) (C := Q_T) (T := F_T) (N := 17) hx hb hg in_T tq_T tq_T_ok n_T hown hK hP hD hS 0 rfl rfl 0 (by decide) (hg _ g_639) (fun _ h9 => h9) rfl (by decide +kernel) rfl rfl (Nat.le_of_ble_eq_true rfl) d_T_sum_22 (fun H locs hP hD hS => ?_)
    have hP : va_P D cls [(o, .inr (7, [.int 0, .int (nI n), .ref dT, .ref gT, .int (nI ns), .ref la, .ref ca, .int (nI nn), .ref aa, .ref na, .ref ya, .int (nI nr), .ref ta, .int be, .int bp, .long bo, .int bm])), (dT, .inl (cI, 64, .inl d)), (gT, .inl (cZ, 64, .inl g)), (la, .inl (cI, 8, .inl sl)), (ca, .inl (cI, 128, .inl cr)), (aa, .inl (cI, 16, .inl ak)), (na, .inl (cI, 16, .inl no)), (ya, .inl (cI, 16, .inl ye)), (ta, .inl (cI, 48, .inl tl))] H := hP
    have hD : va_D A [(o, .inr (7, [.int 0, .int (nI n), .ref dT, .ref gT, .int (nI ns), .ref la, .ref ca, .int (nI nn), .ref aa, .ref na, .ref ya, .int (nI nr), .ref ta, .int be, .int bp, .long bo, .int bm])), (dT, .inl (cI, 64, .inl d)), (gT, .inl (cZ, 64, .inl g)), (la, .inl (cI, 8, .inl sl)), (ca, .inl (cI, 128, .inl cr)), (aa, .inl (cI, 16, .inl ak)), (na, .inl (cI, 16, .inl no)), (ya, .inl (cI, 16, .inl ye)), (ta, .inl (cI, 48, .inl tl))] := hD
    refine lv_aload_n hx hb d_T_sum_25 rfl (lv_at hl 0 rfl) ?_
    refine va_get (D := D) (ci := 7) (v := .int 0) (C := Q_T) (T := F_T) (N := 17) hx hb hg in_T hown hK hP 0 rfl rfl 0 (by decide) (hg _ g_639) (fun _ h9 => h9) rfl d_T_sum_26 ?_
    refine lv_if_le (tgt := 36) hx hb d_T_sum_29 (by decide) (fun c_29 => ?_) (fun c_29 => ?_)
    · refine lv_aload_n hx hb d_T_sum_36 rfl (lv_at hl 0 rfl) ?_
      refine lv_iload_n hx hb d_T_sum_37 rfl (lv_at hl 1 rfl) ?_
      refine vp_callSl (va_Run.run (va_runV (As := [.int (nI S)]) (rest := []) ⟨hx, hb, hml, hown, hg⟩ (c_T_sumOf_ok l D cI cZ cJ cO o dT gT la ca aa na ya ta n ns nn nr d g sl cr ak no ye tl 0 be bp bm bo h4 h64 hd S (by omega)) (cwV 1 hg (gv g_733 g_735 g_13 g_26 g_736) rfl rfl rfl (by decide +kernel) ⟨Nat.le_of_ble_eq_true rfl, Nat.le_of_ble_eq_true rfl⟩) (pV hP hK hN (va_recv hK hP (ci := 7) (q0 := 0) rfl rfl)) rfl rfl hl.1 rfl (lv_room (Nat.le_of_ble_eq_true rfl)) d_T_sum_38 ⟨Nat.zero_le _, Nat.zero_le _⟩)) (fun r_2 hr_2 => ?_)
      subst hr_2
      exact W.lret hx hb hr (fun t9 ht hW => ⟨⟨_, [(o, .inr (7, [.int 0, .int (nI n), .ref dT, .ref gT, .int (nI ns), .ref la, .ref ca, .int (nI nn), .ref aa, .ref na, .ref ya, .int (nI nr), .ref ta, .int be, .int bp, .long bo, .int bm])), (dT, .inl (cI, 64, .inl d)), (gT, .inl (cZ, 64, .inl g)), (la, .inl (cI, 8, .inl sl)), (ca, .inl (cI, 128, .inl cr)), (aa, .inl (cI, 16, .inl ak)), (na, .inl (cI, 16, .inl no)), (ya, .inl (cI, 16, .inl ye)), (ta, .inl (cI, 48, .inl tl))], rfl, ⟨by rw [cs_0 c_14], fun _ => by rw [nI_clamp (by omega)]; rfl⟩, by rw [ht]; exact hP, va_K.moved hW.alike hK, hD⟩, hS.F ht⟩) hS.2.2 d_T_sum_41
    · exact absurd c_29 (by decide)
  · refine lv_iconst (v := 1) hx hb d_T_sum_17 (by decide) ?_
    refine lv_goto (tgt := 22) hx hb d_T_sum_18 (by decide) ?_
    refine va_put (D := D) (ci := 7) (v := .int 1) (ty := .int) (C := Q_T) (T := F_T) (N := 17) hx hb hg in_T tq_T tq_T_ok n_T hown hK hP hD hS 0 rfl rfl 0 (by decide) (hg _ g_639) (fun _ h9 => h9) rfl (by decide +kernel) rfl rfl (Nat.le_of_ble_eq_true rfl) d_T_sum_22 (fun H locs hP hD hS => ?_)
    have hP : va_P D cls [(o, .inr (7, [.int 1, .int (nI n), .ref dT, .ref gT, .int (nI ns), .ref la, .ref ca, .int (nI nn), .ref aa, .ref na, .ref ya, .int (nI nr), .ref ta, .int be, .int bp, .long bo, .int bm])), (dT, .inl (cI, 64, .inl d)), (gT, .inl (cZ, 64, .inl g)), (la, .inl (cI, 8, .inl sl)), (ca, .inl (cI, 128, .inl cr)), (aa, .inl (cI, 16, .inl ak)), (na, .inl (cI, 16, .inl no)), (ya, .inl (cI, 16, .inl ye)), (ta, .inl (cI, 48, .inl tl))] H := hP
    have hD : va_D A [(o, .inr (7, [.int 1, .int (nI n), .ref dT, .ref gT, .int (nI ns), .ref la, .ref ca, .int (nI nn), .ref aa, .ref na, .ref ya, .int (nI nr), .ref ta, .int be, .int bp, .long bo, .int bm])), (dT, .inl (cI, 64, .inl d)), (gT, .inl (cZ, 64, .inl g)), (la, .inl (cI, 8, .inl sl)), (ca, .inl (cI, 128, .inl cr)), (aa, .inl (cI, 16, .inl ak)), (na, .inl (cI, 16, .inl no)), (ya, .inl (cI, 16, .inl ye)), (ta, .inl (cI, 48, .inl tl))] := hD
    refine lv_aload_n hx hb d_T_sum_25 rfl (lv_at hl 0 rfl) ?_
    refine va_get (D := D) (ci := 7) (v := .int 1) (C := Q_T) (T := F_T) (N := 17) hx hb hg in_T hown hK hP 0 rfl rfl 0 (by decide) (hg _ g_639) (fun _ h9 => h9) rfl d_T_sum_26 ?_
    refine lv_if_le (tgt := 36) hx hb d_T_sum_29 (by decide) (fun c_29 => ?_) (fun c_29 => ?_)
    · exact absurd c_29 (by decide)
    · refine lv_lconst (v := 0) hx hb d_T_sum_32 (by decide) ?_
      refine lv_goto (tgt := 41) hx hb d_T_sum_33 (by decide) ?_
      exact W.lret hx hb hr (fun t9 ht hW => ⟨⟨_, [(o, .inr (7, [.int 1, .int (nI n), .ref dT, .ref gT, .int (nI ns), .ref la, .ref ca, .int (nI nn), .ref aa, .ref na, .ref ya, .int (nI nr), .ref ta, .int be, .int bp, .long bo, .int bm])), (dT, .inl (cI, 64, .inl d)), (gT, .inl (cZ, 64, .inl g)), (la, .inl (cI, 8, .inl sl)), (ca, .inl (cI, 128, .inl cr)), (aa, .inl (cI, 16, .inl ak)), (na, .inl (cI, 16, .inl no)), (ya, .inl (cI, 16, .inl ye)), (ta, .inl (cI, 48, .inl tl))], rfl, ⟨by rw [cs_1 c_14], fun h => absurd h (by rw [cs_1 c_14]; decide)⟩, by rw [ht]; exact hP, va_K.moved hW.alike hK, hD⟩, hS.F ht⟩) hS.2.2 d_T_sum_41

set_option maxHeartbeats 4000000 in
set_option maxRecDepth 100000 in
/-- the reference: forget() -/
theorem c_T_forget_ok (l : Launch) (D : va_G) (cI cZ cJ cO : ClassId) (sz : Nat) (o dT gT la ca aa na ya ta : Nat) (n ns nn nr : Nat) (d g sl cr ak no ye tl : Nat → Int32) (th be bp bm : Int32) (bo : Int64) (h4 : 4 ≤ n) (h64 : n ≤ 64) (hd : dOK n d)  : Met l y_T_forget (wq y_T_forget c_T_forget 3 (some .int)) ({ frames := 0, cells := 0, slots := 0, locals := 0 }) (mP D (TY cI cZ cJ cO) [(o, .inr (7, [.int th, .int (nI n), .ref dT, .ref gT, .int (nI ns), .ref la, .ref ca, .int (nI nn), .ref aa, .ref na, .ref ya, .int (nI nr), .ref ta, .int be, .int bp, .long bo, .int bm])), (dT, .inl (cI, 64, .inl d)), (gT, .inl (cZ, 64, .inl g)), (la, .inl (cI, 8, .inl sl)), (ca, .inl (cI, 128, .inl cr)), (aa, .inl (cI, 16, .inl ak)), (na, .inl (cI, 16, .inl no)), (ya, .inl (cI, 16, .inl ye)), (ta, .inl (cI, 48, .inl tl))] [.ref o] sz) (va_Qi (fun (r : Int32) (u : va_W) => r = nI (lgs d g n).2.2 ∧ u = [(o, .inr (7, [.int 0, .int (nI n), .ref dT, .ref gT, .int (nI ns), .ref la, .ref ca, .int (nI nn), .ref aa, .ref na, .ref ya, .int (nI nr), .ref ta, .int be, .int bp, .long bo, .int bm])), (dT, .inl (cI, 64, .inl ((lgs d g n).1))), (gT, .inl (cZ, 64, .inl ((lgs d g n).2.1))), (la, .inl (cI, 8, .inl sl)), (ca, .inl (cI, 128, .inl cr)), (aa, .inl (cI, 16, .inl ak)), (na, .inl (cI, 16, .inl no)), (ya, .inl (cI, 16, .inl ye)), (ta, .inl (cI, 48, .inl tl))]) (mB D (TY cI cZ cJ cO) (va_A [(o, .inr (7, [.int th, .int (nI n), .ref dT, .ref gT, .int (nI ns), .ref la, .ref ca, .int (nI nn), .ref aa, .ref na, .ref ya, .int (nI nr), .ref ta, .int be, .int bp, .long bo, .int bm])), (dT, .inl (cI, 64, .inl d)), (gT, .inl (cZ, 64, .inl g)), (la, .inl (cI, 8, .inl sl)), (ca, .inl (cI, 128, .inl cr)), (aa, .inl (cI, 16, .inl ak)), (na, .inl (cI, 16, .inl no)), (ya, .inl (cI, 16, .inl ye)), (ta, .inl (cI, 48, .inl tl))] sz)) (va_A [(o, .inr (7, [.int th, .int (nI n), .ref dT, .ref gT, .int (nI ns), .ref la, .ref ca, .int (nI nn), .ref aa, .ref na, .ref ya, .int (nI nr), .ref ta, .int be, .int bp, .long bo, .int bm])), (dT, .inl (cI, 64, .inl d)), (gT, .inl (cZ, 64, .inl g)), (la, .inl (cI, 8, .inl sl)), (ca, .inl (cI, 128, .inl cr)), (aa, .inl (cI, 16, .inl ak)), (na, .inl (cI, 16, .inl no)), (ya, .inl (cI, 16, .inl ye)), (ta, .inl (cI, 48, .inl tl))] sz)) 0 0 (va_A [(o, .inr (7, [.int th, .int (nI n), .ref dT, .ref gT, .int (nI ns), .ref la, .ref ca, .int (nI nn), .ref aa, .ref na, .ref ya, .int (nI nr), .ref ta, .int be, .int bp, .long bo, .int bm])), (dT, .inl (cI, 64, .inl d)), (gT, .inl (cZ, 64, .inl g)), (la, .inl (cI, 8, .inl sl)), (ca, .inl (cI, 128, .inl cr)), (aa, .inl (cI, 16, .inl ak)), (na, .inl (cI, 16, .inl no)), (ya, .inl (cI, 16, .inl ye)), (ta, .inl (cI, 48, .inl tl))] sz) := by
  refine Met.ofW (cc := c_T_forget) (maxL := 3) (ret := (some .int)) (by decide) rfl ?_
  intro p e s m args below meth c s₁ B hml hv
  obtain ⟨rfl, hsz, hP, hK, hD0, hN⟩ := hv
  have hx := B.exec
  have hb := B.bytes
  have hr := B.returns
  have hg := gt_h (atoms_spec (ws := (wq y_T_forget c_T_forget 3 (some .int))) B.pre)
  have hown : s.vm.findClass "RubbingMirrorsModel" = some m.cls := findClass_of_methodNamed B.named
  have hlocks := B.notSynchronized
  subst hsz
  have hD := hD0.self (sz := s.heap.size)
  generalize hAe : va_A [(o, .inr (7, [.int th, .int (nI n), .ref dT, .ref gT, .int (nI ns), .ref la, .ref ca, .int (nI nn), .ref aa, .ref na, .ref ya, .int (nI nr), .ref ta, .int be, .int bp, .long bo, .int bm])), (dT, .inl (cI, 64, .inl d)), (gT, .inl (cZ, 64, .inl g)), (la, .inl (cI, 8, .inl sl)), (ca, .inl (cI, 128, .inl cr)), (aa, .inl (cI, 16, .inl ak)), (na, .inl (cI, 16, .inl no)), (ya, .inl (cI, 16, .inl ye)), (ta, .inl (cI, 48, .inl tl))] s.heap.size = A at hD ⊢
  have hA : ∀ q : Nat, s.heap.size ≤ q → A q := fun q h => by rw [← hAe]; exact Or.inr h
  have hS : va_S A s.heap s.heap [] := va_S.rf
  have hl := lv_entry ([.ref o]) (n := 3) (Nat.le_of_ble_eq_true rfl)
  rw [lg_entry_eq]
  generalize (lg_sl ([.ref o]) ++ List.replicate (3 - (lg_sl ([.ref o])).length) Slot.unset).toArray = ls at hl ⊢
  have hl : lv_has ls 3 [(0, .ref o)] := hl
  refine lv_aload_n hx hb d_T_forget_0 rfl (lv_at hl 0 rfl) ?_
  refine lv_iconst (v := 0) hx hb d_T_forget_1 (by decide) ?_
  refine va_put (D := D) (ci := 7) (v := .int 0) (ty := .int) (C := Q_T) (T := F_T) (N := 17) hx hb hg in_T tq_T tq_T_ok n_T hown hK hP hD hS 0 rfl rfl 0 (by decide) (hg _ g_639) (fun _ h9 => h9) rfl (by decide +kernel) rfl rfl (Nat.le_of_ble_eq_true rfl) d_T_forget_2 (fun H locs hP hD hS => ?_)
  have hP : va_P D cls [(o, .inr (7, [.int 0, .int (nI n), .ref dT, .ref gT, .int (nI ns), .ref la, .ref ca, .int (nI nn), .ref aa, .ref na, .ref ya, .int (nI nr), .ref ta, .int be, .int bp, .long bo, .int bm])), (dT, .inl (cI, 64, .inl d)), (gT, .inl (cZ, 64, .inl g)), (la, .inl (cI, 8, .inl sl)), (ca, .inl (cI, 128, .inl cr)), (aa, .inl (cI, 16, .inl ak)), (na, .inl (cI, 16, .inl no)), (ya, .inl (cI, 16, .inl ye)), (ta, .inl (cI, 48, .inl tl))] H := hP
  have hD : va_D A [(o, .inr (7, [.int 0, .int (nI n), .ref dT, .ref gT, .int (nI ns), .ref la, .ref ca, .int (nI nn), .ref aa, .ref na, .ref ya, .int (nI nr), .ref ta, .int be, .int bp, .long bo, .int bm])), (dT, .inl (cI, 64, .inl d)), (gT, .inl (cZ, 64, .inl g)), (la, .inl (cI, 8, .inl sl)), (ca, .inl (cI, 128, .inl cr)), (aa, .inl (cI, 16, .inl ak)), (na, .inl (cI, 16, .inl no)), (ya, .inl (cI, 16, .inl ye)), (ta, .inl (cI, 48, .inl tl))] := hD
  refine lv_iconst (v := 0) hx hb d_T_forget_5 (by decide) ?_
  refine lv_istore_n (lv' := [(1, .int 0), (0, .ref o)]) hx hb d_T_forget_6 rfl hl (by decide) rfl (fun ls hl => ?_)
  refine lv_iconst (v := 0) hx hb d_T_forget_7 (by decide) ?_
  refine lv_istore_n (lv' := [(2, .int 0), (1, .int 0), (0, .ref o)]) hx hb d_T_forget_8 rfl hl (by decide) rfl (fun ls hl => ?_)
  have loop_9 : ∀ (f9 : Nat) (j : Nat) (d1 g1 : Nat → Int32) (c1 : Nat) (x1 : Int32) (x2 : Int32) (H : Heap) (locs : List Loc) (ls : Array Slot), (j ≤ n ∧ n < j + f9 ∧ x1 = nI c1 ∧ x2 = nI j ∧ (d1, g1, c1) = lgs d g j) → va_P D cls [(o, .inr (7, [.int 0, .int (nI n), .ref dT, .ref gT, .int (nI ns), .ref la, .ref ca, .int (nI nn), .ref aa, .ref na, .ref ya, .int (nI nr), .ref ta, .int be, .int bp, .long bo, .int bm])), (dT, .inl (cI, 64, .inl d1)), (gT, .inl (cZ, 64, .inl g1)), (la, .inl (cI, 8, .inl sl)), (ca, .inl (cI, 128, .inl cr)), (aa, .inl (cI, 16, .inl ak)), (na, .inl (cI, 16, .inl no)), (ya, .inl (cI, 16, .inl ye)), (ta, .inl (cI, 48, .inl tl))] H → va_D A [(o, .inr (7, [.int 0, .int (nI n), .ref dT, .ref gT, .int (nI ns), .ref la, .ref ca, .int (nI nn), .ref aa, .ref na, .ref ya, .int (nI nr), .ref ta, .int be, .int bp, .long bo, .int bm])), (dT, .inl (cI, 64, .inl d1)), (gT, .inl (cZ, 64, .inl g1)), (la, .inl (cI, 8, .inl sl)), (ca, .inl (cI, 128, .inl cr)), (aa, .inl (cI, 16, .inl ak)), (na, .inl (cI, 16, .inl no)), (ya, .inl (cI, 16, .inl ye)), (ta, .inl (cI, 48, .inl tl))] → va_S A s.heap H locs → lv_has ls 3 [(0, .ref o), (1, .int x1), (2, .int x2)] → W p l e (headSpec (wq y_T_forget c_T_forget 3 (some .int)) ({ frames := 0, cells := 0, slots := 0, locals := 0 })).room s m ([.ref o] : List Value).toArray below meth c H locs 0 0 (MQ below (va_Qi (fun (r : Int32) (u : va_W) => r = nI (lgs d g n).2.2 ∧ u = [(o, .inr (7, [.int 0, .int (nI n), .ref dT, .ref gT, .int (nI ns), .ref la, .ref ca, .int (nI nn), .ref aa, .ref na, .ref ya, .int (nI nr), .ref ta, .int be, .int bp, .long bo, .int bm])), (dT, .inl (cI, 64, .inl ((lgs d g n).1))), (gT, .inl (cZ, 64, .inl ((lgs d g n).2.1))), (la, .inl (cI, 8, .inl sl)), (ca, .inl (cI, 128, .inl cr)), (aa, .inl (cI, 16, .inl ak)), (na, .inl (cI, 16, .inl no)), (ya, .inl (cI, 16, .inl ye)), (ta, .inl (cI, 48, .inl tl))]) (mB D (TY cI cZ cJ cO) A) A) ([.ref o] : List Value).toArray s 0 0 A) (F0 m 9 ls []) := by
    intro f9
    induction f9 with
    | zero =>
      intro j d1 g1 c1 x1 x2 H locs ls hI hP hD hS hl
      obtain ⟨hj1, hj2, rfl, rfl, hq⟩ := hI
      omega
    | succ f9 ih9 =>
      intro j d1 g1 c1 x1 x2 H locs ls hI hP hD hS hl
      obtain ⟨hj1, hj2, rfl, rfl, hq⟩ := hI
      refine lv_iload_n hx hb d_T_forget_9 rfl (lv_at hl 2 rfl) ?_
      refine lv_aload_n hx hb d_T_forget_10 rfl (lv_at hl 0 rfl) ?_
      refine va_get (D := D) (ci := 7) (v := .int (nI n)) (C := Q_T) (T := F_T) (N := 17) hx hb hg in_T hown hK hP 0 rfl rfl 1 (by decide) (hg _ g_640) (fun _ h9 => h9) rfl d_T_forget_11 ?_
      refine lv_icmp_ge (tgt := 49) hx hb d_T_forget_14 (by decide) (fun c_14 => ?_) (fun c_14 => ?_)
      · refine lv_iload_n hx hb d_T_forget_49 rfl (lv_at hl 1 rfl) ?_
        exact W.iret hx hb hr (fun t9 ht hW => ⟨⟨_, [(o, .inr (7, [.int 0, .int (nI n), .ref dT, .ref gT, .int (nI ns), .ref la, .ref ca, .int (nI nn), .ref aa, .ref na, .ref ya, .int (nI nr), .ref ta, .int be, .int bp, .long bo, .int bm])), (dT, .inl (cI, 64, .inl d1)), (gT, .inl (cZ, 64, .inl g1)), (la, .inl (cI, 8, .inl sl)), (ca, .inl (cI, 128, .inl cr)), (aa, .inl (cI, 16, .inl ak)), (na, .inl (cI, 16, .inl no)), (ya, .inl (cI, 16, .inl ye)), (ta, .inl (cI, 48, .inl tl))], rfl, (by rw [gj_out (by omega) hj1 c_14] at hq; rw [← hq]; exact ⟨rfl, rfl⟩), by rw [ht]; exact hP, va_K.moved hW.alike hK, hD⟩, hS.F ht⟩) hS.2.2 d_T_forget_50
      · refine lv_aload_n hx hb d_T_forget_17 rfl (lv_at hl 0 rfl) ?_
        refine va_get (D := D) (ci := 7) (v := .ref gT) (C := Q_T) (T := F_T) (N := 17) hx hb hg in_T hown hK hP 0 rfl rfl 3 (by decide) (hg _ g_642) (fun _ h9 => h9) rfl d_T_forget_18 ?_
        refine lv_iload_n hx hb d_T_forget_21 rfl (lv_at hl 2 rfl) ?_
        refine va_zald hx hb hK hP 2 1 rfl rfl (v64 h64 (gj_in (by omega) hj1 c_14)) d_T_forget_22 ?_
        refine lv_if_eq (tgt := 43) hx hb d_T_forget_23 (by decide) (fun c_23 => ?_) (fun c_23 => ?_)
        · refine lv_iinc (v := (nI j) + 1) (lv' := [(2, .int ((nI j) + 1)), (0, .ref o), (1, .int (nI c1))]) hx hb d_T_forget_43 hl (k := 2) rfl rfl (by decide) rfl (fun ls hl => ?_)
          refine lv_goto (tgt := 9) hx hb d_T_forget_46 (by decide) ?_
          exact ih9 (j + 1) d1 g1 c1 (nI c1) ((nI j) + 1) _ _ ls (⟨by have := gj_in (by omega) hj1 c_14; omega, by omega, rfl, nI_1 j, by rw [lgs, ← hq]; exact (lg_1 (by omega) c_23).symm⟩) hP hD hS (lv_sub hl [1, 2, 0] rfl)
        · refine lv_aload_n hx hb d_T_forget_26 rfl (lv_at hl 0 rfl) ?_
          refine va_get (D := D) (ci := 7) (v := .ref dT) (C := Q_T) (T := F_T) (N := 17) hx hb hg in_T hown hK hP 0 rfl rfl 2 (by decide) (hg _ g_641) (fun _ h9 => h9) rfl d_T_forget_27 ?_
          refine lv_iload_n hx hb d_T_forget_30 rfl (lv_at hl 2 rfl) ?_
          refine lv_iconst (v := (-1)) hx hb d_T_forget_31 (by decide) ?_
          refine va_iast hx hb hK hP hD hS 1 0 rfl rfl (v64 h64 (gj_in (by omega) hj1 c_14)) d_T_forget_32 (fun H locs hP hD hS => ?_)
          rw [nI_clamp (show j < 2 ^ 31 by omega)] at hP hD
          have hP : va_P D cls [(o, .inr (7, [.int 0, .int (nI n), .ref dT, .ref gT, .int (nI ns), .ref la, .ref ca, .int (nI nn), .ref aa, .ref na, .ref ya, .int (nI nr), .ref ta, .int be, .int bp, .long bo, .int bm])), (dT, .inl (cI, 64, .inl (upd d1 j (-1)))), (gT, .inl (cZ, 64, .inl g1)), (la, .inl (cI, 8, .inl sl)), (ca, .inl (cI, 128, .inl cr)), (aa, .inl (cI, 16, .inl ak)), (na, .inl (cI, 16, .inl no)), (ya, .inl (cI, 16, .inl ye)), (ta, .inl (cI, 48, .inl tl))] H := hP
          have hD : va_D A [(o, .inr (7, [.int 0, .int (nI n), .ref dT, .ref gT, .int (nI ns), .ref la, .ref ca, .int (nI nn), .ref aa, .ref na, .ref ya, .int (nI nr), .ref ta, .int be, .int bp, .long bo, .int bm])), (dT, .inl (cI, 64, .inl (upd d1 j (-1)))), (gT, .inl (cZ, 64, .inl g1)), (la, .inl (cI, 8, .inl sl)), (ca, .inl (cI, 128, .inl cr)), (aa, .inl (cI, 16, .inl ak)), (na, .inl (cI, 16, .inl no)), (ya, .inl (cI, 16, .inl ye)), (ta, .inl (cI, 48, .inl tl))] := hD
          refine lv_aload_n hx hb d_T_forget_33 rfl (lv_at hl 0 rfl) ?_
          refine va_get (D := D) (ci := 7) (v := .ref gT) (C := Q_T) (T := F_T) (N := 17) hx hb hg in_T hown hK hP 0 rfl rfl 3 (by decide) (hg _ g_642) (fun _ h9 => h9) rfl d_T_forget_34 ?_
          refine lv_iload_n hx hb d_T_forget_37 rfl (lv_at hl 2 rfl) ?_
          refine lv_iconst (v := 0) hx hb d_T_forget_38 (by decide) ?_
          refine va_zast hx hb hK hP hD hS 2 1 rfl rfl (v64 h64 (gj_in (by omega) hj1 c_14)) d_T_forget_39 (fun H locs hP hD hS => ?_)
          rw [nI_clamp (show j < 2 ^ 31 by omega)] at hP hD
          have hP : va_P D cls [(o, .inr (7, [.int 0, .int (nI n), .ref dT, .ref gT, .int (nI ns), .ref la, .ref ca, .int (nI nn), .ref aa, .ref na, .ref ya, .int (nI nr), .ref ta, .int be, .int bp, .long bo, .int bm])), (dT, .inl (cI, 64, .inl (upd d1 j (-1)))), (gT, .inl (cZ, 64, .inl (upd g1 j 0))), (la, .inl (cI, 8, .inl sl)), (ca, .inl (cI, 128, .inl cr)), (aa, .inl (cI, 16, .inl ak)), (na, .inl (cI, 16, .inl no)), (ya, .inl (cI, 16, .inl ye)), (ta, .inl (cI, 48, .inl tl))] H := hP
          have hD : va_D A [(o, .inr (7, [.int 0, .int (nI n), .ref dT, .ref gT, .int (nI ns), .ref la, .ref ca, .int (nI nn), .ref aa, .ref na, .ref ya, .int (nI nr), .ref ta, .int be, .int bp, .long bo, .int bm])), (dT, .inl (cI, 64, .inl (upd d1 j (-1)))), (gT, .inl (cZ, 64, .inl (upd g1 j 0))), (la, .inl (cI, 8, .inl sl)), (ca, .inl (cI, 128, .inl cr)), (aa, .inl (cI, 16, .inl ak)), (na, .inl (cI, 16, .inl no)), (ya, .inl (cI, 16, .inl ye)), (ta, .inl (cI, 48, .inl tl))] := hD
          refine lv_iinc (v := (nI c1) + 1) (lv' := [(1, .int ((nI c1) + 1)), (0, .ref o), (2, .int (nI j))]) hx hb d_T_forget_40 hl (k := 1) rfl rfl (by decide) rfl (fun ls hl => ?_)
          refine lv_iinc (v := (nI j) + 1) (lv' := [(2, .int ((nI j) + 1)), (1, .int ((nI c1) + 1)), (0, .ref o)]) hx hb d_T_forget_43 hl (k := 2) rfl rfl (by decide) rfl (fun ls hl => ?_)
          refine lv_goto (tgt := 9) hx hb d_T_forget_46 (by decide) ?_
          exact ih9 (j + 1) (upd d1 j (-1)) (upd g1 j 0) (c1 + 1) ((nI c1) + 1) ((nI j) + 1) _ _ ls (⟨by have := gj_in (by omega) hj1 c_14; omega, by omega, nI_1 c1, nI_1 j, by rw [lgs, ← hq]; exact (lg_2 (by omega) c_23).symm⟩) hP hD hS (lv_sub hl [2, 1, 0] rfl)
  exact loop_9 (n + 1) 0 d g 0 0 0 _ _ ls (⟨by omega, by omega, rfl, rfl, rfl⟩) hP hD hS (lv_sub hl [2, 1, 0] rfl)


theorem rj2_in {F T j : Nat} (hT : T < 2 ^ 20 ∧ F < 2 ^ 20 ∧ j < 2 ^ 20) (c : ¬ nI T < nI (F + 1 + j)) : F + 1 + j ≤ T := by
  rcases Nat.lt_or_ge T (F + 1 + j) with q | q
  · exact absurd (nI_lt q (by omega)) c
  · exact q
theorem rj2_out {F T j : Nat} (hT : T < 2 ^ 20 ∧ F < 2 ^ 20 ∧ j < 2 ^ 20) (h : j ≤ T - F) (hF : F ≤ T) (c : nI T < nI (F + 1 + j)) : j = T - F := by
  have := (nI_ltI (by omega) (by omega)).mp c
  omega

set_option maxHeartbeats 4000000 in
set_option maxRecDepth 100000 in
/-- the reference: repeat(f, t) -/
theorem c_T_repeat__ok (l : Launch) (D : va_G) (cI cZ cJ cO : ClassId) (sz : Nat) (o dT gT la ca aa na ya ta : Nat) (n ns nn nr : Nat) (d g sl cr ak no ye tl : Nat → Int32) (th be bp bm : Int32) (bo : Int64) (h4 : 4 ≤ n) (h64 : n ≤ 64) (hd : dOK n d) (f9 t9 : Int32) : Met l y_T_repeat_ (wq y_T_repeat_ c_T_repeat_ 5 (some .int)) ({ frames := 4, cells := 0, slots := 0, locals := 93 }) (mP D (TY cI cZ cJ cO) [(o, .inr (7, [.int th, .int (nI n), .ref dT, .ref gT, .int (nI ns), .ref la, .ref ca, .int (nI nn), .ref aa, .ref na, .ref ya, .int (nI nr), .ref ta, .int be, .int bp, .long bo, .int bm])), (dT, .inl (cI, 64, .inl d)), (gT, .inl (cZ, 64, .inl g)), (la, .inl (cI, 8, .inl sl)), (ca, .inl (cI, 128, .inl cr)), (aa, .inl (cI, 16, .inl ak)), (na, .inl (cI, 16, .inl no)), (ya, .inl (cI, 16, .inl ye)), (ta, .inl (cI, 48, .inl tl))] [.ref o, .int f9, .int t9] sz) (va_Qi (fun (r : Int32) (u : va_W) => u = [(o, .inr (7, [.int (cRep n f9 t9), .int (nI n), .ref dT, .ref gT, .int (nI ns), .ref la, .ref ca, .int (nI nn), .ref aa, .ref na, .ref ya, .int (nI nr), .ref ta, .int be, .int bp, .long bo, .int bm])), (dT, .inl (cI, 64, .inl d)), (gT, .inl (cZ, 64, .inl g)), (la, .inl (cI, 8, .inl sl)), (ca, .inl (cI, 128, .inl cr)), (aa, .inl (cI, 16, .inl ak)), (na, .inl (cI, 16, .inl no)), (ya, .inl (cI, 16, .inl ye)), (ta, .inl (cI, 48, .inl tl))] ∧ (cRep n f9 t9 = 0 → r = nI (rp n d g f9.toNatClampNeg (t9.toNatClampNeg - f9.toNatClampNeg)))) (mB D (TY cI cZ cJ cO) (va_A [(o, .inr (7, [.int th, .int (nI n), .ref dT, .ref gT, .int (nI ns), .ref la, .ref ca, .int (nI nn), .ref aa, .ref na, .ref ya, .int (nI nr), .ref ta, .int be, .int bp, .long bo, .int bm])), (dT, .inl (cI, 64, .inl d)), (gT, .inl (cZ, 64, .inl g)), (la, .inl (cI, 8, .inl sl)), (ca, .inl (cI, 128, .inl cr)), (aa, .inl (cI, 16, .inl ak)), (na, .inl (cI, 16, .inl no)), (ya, .inl (cI, 16, .inl ye)), (ta, .inl (cI, 48, .inl tl))] sz)) (va_A [(o, .inr (7, [.int th, .int (nI n), .ref dT, .ref gT, .int (nI ns), .ref la, .ref ca, .int (nI nn), .ref aa, .ref na, .ref ya, .int (nI nr), .ref ta, .int be, .int bp, .long bo, .int bm])), (dT, .inl (cI, 64, .inl d)), (gT, .inl (cZ, 64, .inl g)), (la, .inl (cI, 8, .inl sl)), (ca, .inl (cI, 128, .inl cr)), (aa, .inl (cI, 16, .inl ak)), (na, .inl (cI, 16, .inl no)), (ya, .inl (cI, 16, .inl ye)), (ta, .inl (cI, 48, .inl tl))] sz)) 0 0 (va_A [(o, .inr (7, [.int th, .int (nI n), .ref dT, .ref gT, .int (nI ns), .ref la, .ref ca, .int (nI nn), .ref aa, .ref na, .ref ya, .int (nI nr), .ref ta, .int be, .int bp, .long bo, .int bm])), (dT, .inl (cI, 64, .inl d)), (gT, .inl (cZ, 64, .inl g)), (la, .inl (cI, 8, .inl sl)), (ca, .inl (cI, 128, .inl cr)), (aa, .inl (cI, 16, .inl ak)), (na, .inl (cI, 16, .inl no)), (ya, .inl (cI, 16, .inl ye)), (ta, .inl (cI, 48, .inl tl))] sz) := by
  refine Met.ofW (cc := c_T_repeat_) (maxL := 5) (ret := (some .int)) (by decide) rfl ?_
  intro p e s m args below meth c s₁ B hml hv
  obtain ⟨rfl, hsz, hP, hK, hD0, hN⟩ := hv
  have hx := B.exec
  have hb := B.bytes
  have hr := B.returns
  have hg := gt_h (atoms_spec (ws := (wq y_T_repeat_ c_T_repeat_ 5 (some .int))) B.pre)
  have hown : s.vm.findClass "RubbingMirrorsModel" = some m.cls := findClass_of_methodNamed B.named
  have hlocks := B.notSynchronized
  subst hsz
  have hD := hD0.self (sz := s.heap.size)
  generalize hAe : va_A [(o, .inr (7, [.int th, .int (nI n), .ref dT, .ref gT, .int (nI ns), .ref la, .ref ca, .int (nI nn), .ref aa, .ref na, .ref ya, .int (nI nr), .ref ta, .int be, .int bp, .long bo, .int bm])), (dT, .inl (cI, 64, .inl d)), (gT, .inl (cZ, 64, .inl g)), (la, .inl (cI, 8, .inl sl)), (ca, .inl (cI, 128, .inl cr)), (aa, .inl (cI, 16, .inl ak)), (na, .inl (cI, 16, .inl no)), (ya, .inl (cI, 16, .inl ye)), (ta, .inl (cI, 48, .inl tl))] s.heap.size = A at hD ⊢
  have hA : ∀ q : Nat, s.heap.size ≤ q → A q := fun q h => by rw [← hAe]; exact Or.inr h
  have hS : va_S A s.heap s.heap [] := va_S.rf
  have hl := lv_entry ([.ref o, .int f9, .int t9]) (n := 5) (Nat.le_of_ble_eq_true rfl)
  rw [lg_entry_eq]
  generalize (lg_sl ([.ref o, .int f9, .int t9]) ++ List.replicate (5 - (lg_sl ([.ref o, .int f9, .int t9])).length) Slot.unset).toArray = ls at hl ⊢
  have hl : lv_has ls 5 [(0, .ref o), (1, .int f9), (2, .int t9)] := hl
  refine lv_aload_n hx hb d_T_repeat__0 rfl (lv_at hl 0 rfl) ?_
  refine lv_iload_n hx hb d_T_repeat__1 rfl (lv_at hl 1 rfl) ?_
  refine lv_i2l (v := f9.toInt64) hx hb d_T_repeat__2 rfl ?_
  refine lv_lconst (v := 1) hx hb d_T_repeat__3 (by decide) ?_
  refine lv_aload_n hx hb d_T_repeat__4 rfl (lv_at hl 0 rfl) ?_
  refine va_get (D := D) (ci := 7) (v := .int (nI n)) (C := Q_T) (T := F_T) (N := 17) hx hb hg in_T hown hK hP 0 rfl rfl 1 (by decide) (hg _ g_640) (fun _ h9 => h9) rfl d_T_repeat__5 ?_
  refine lv_iconst (v := 1) hx hb d_T_repeat__8 (by decide) ?_
  refine lv_isub hx hb d_T_repeat__9 ?_
  refine lv_i2l (v := ((nI n) - 1).toInt64) hx hb d_T_repeat__10 rfl ?_
  refine vp_callSi (va_Run.run (va_runS (As := [.long f9.toInt64, .long 1, .long (((nI n) - 1).toInt64)]) (rest := [.ref o]) ⟨hx, hb, hml, hown, hg⟩ (c_T_isIn_ok l D cI cZ cJ cO f9.toInt64 1 (((nI n) - 1).toInt64)) (va_cwS 3 hg (gs2 g_703 g_704 g_26 g_705) rfl rfl rfl (by decide +kernel) ⟨Nat.le_of_ble_eq_true rfl, Nat.le_of_ble_eq_true rfl⟩) (pS ba_nil hK hN) rfl rfl hl.1 rfl (lv_room (Nat.le_of_ble_eq_true rfl)) d_T_repeat__11 ⟨Nat.zero_le _, Nat.zero_le _⟩)) (fun r_1 hr_1 => ?_)
  subst hr_1
  rw [lw_c (v := f9) (lo := 1) (hi := ((nI n) - 1)) (by decide) rfl]
  refine lv_if_eq (tgt := 34) hx hb d_T_repeat__14 (by decide) (fun c_14 => ?_) (fun c_14 => ?_)
  · refine lv_iconst (v := 1) hx hb d_T_repeat__34 (by decide) ?_
    refine lv_goto (tgt := 39) hx hb d_T_repeat__35 (by decide) ?_
    refine va_put (D := D) (ci := 7) (v := .int 1) (ty := .int) (C := Q_T) (T := F_T) (N := 17) hx hb hg in_T tq_T tq_T_ok n_T hown hK hP hD hS 0 rfl rfl 0 (by decide) (hg _ g_639) (fun _ h9 => h9) rfl (by decide +kernel) rfl rfl (Nat.le_of_ble_eq_true rfl) d_T_repeat__39 (fun H locs hP hD hS => ?_)
    have hP : va_P D cls [(o, .inr (7, [.int 1, .int (nI n), .ref dT, .ref gT, .int (nI ns), .ref la, .ref ca, .int (nI nn), .ref aa, .ref na, .ref ya, .int (nI nr), .ref ta, .int be, .int bp, .long bo, .int bm])), (dT, .inl (cI, 64, .inl d)), (gT, .inl (cZ, 64, .inl g)), (la, .inl (cI, 8, .inl sl)), (ca, .inl (cI, 128, .inl cr)), (aa, .inl (cI, 16, .inl ak)), (na, .inl (cI, 16, .inl no)), (ya, .inl (cI, 16, .inl ye)), (ta, .inl (cI, 48, .inl tl))] H := hP
    have hD : va_D A [(o, .inr (7, [.int 1, .int (nI n), .ref dT, .ref gT, .int (nI ns), .ref la, .ref ca, .int (nI nn), .ref aa, .ref na, .ref ya, .int (nI nr), .ref ta, .int be, .int bp, .long bo, .int bm])), (dT, .inl (cI, 64, .inl d)), (gT, .inl (cZ, 64, .inl g)), (la, .inl (cI, 8, .inl sl)), (ca, .inl (cI, 128, .inl cr)), (aa, .inl (cI, 16, .inl ak)), (na, .inl (cI, 16, .inl no)), (ya, .inl (cI, 16, .inl ye)), (ta, .inl (cI, 48, .inl tl))] := hD
    refine lv_aload_n hx hb d_T_repeat__42 rfl (lv_at hl 0 rfl) ?_
    refine va_get (D := D) (ci := 7) (v := .int 1) (C := Q_T) (T := F_T) (N := 17) hx hb hg in_T hown hK hP 0 rfl rfl 0 (by decide) (hg _ g_639) (fun _ h9 => h9) rfl d_T_repeat__43 ?_
    refine lv_if_le (tgt := 51) hx hb d_T_repeat__46 (by decide) (fun c_46 => ?_) (fun c_46 => ?_)
    · exact absurd c_46 (by decide)
    · refine lv_iconst (v := 0) hx hb d_T_repeat__49 (by decide) ?_
      exact W.iret hx hb hr (fun t9 ht hW => ⟨⟨_, [(o, .inr (7, [.int 1, .int (nI n), .ref dT, .ref gT, .int (nI ns), .ref la, .ref ca, .int (nI nn), .ref aa, .ref na, .ref ya, .int (nI nr), .ref ta, .int be, .int bp, .long bo, .int bm])), (dT, .inl (cI, 64, .inl d)), (gT, .inl (cZ, 64, .inl g)), (la, .inl (cI, 8, .inl sl)), (ca, .inl (cI, 128, .inl cr)), (aa, .inl (cI, 16, .inl ak)), (na, .inl (cI, 16, .inl no)), (ya, .inl (cI, 16, .inl ye)), (ta, .inl (cI, 48, .inl tl))], rfl, ⟨by first | rw [cr_1 c_14] | rw [cr_2 c_31], fun h => absurd h (by first | (rw [cr_1 c_14]; decide) | (rw [cr_2 c_31]; decide))⟩, by rw [ht]; exact hP, va_K.moved hW.alike hK, hD⟩, hS.F ht⟩) hS.2.2 d_T_repeat__50
  · refine lv_iload_n hx hb d_T_repeat__17 rfl (lv_at hl 2 rfl) ?_
    refine lv_i2l (v := t9.toInt64) hx hb d_T_repeat__18 rfl ?_
    refine lv_iload_n hx hb d_T_repeat__19 rfl (lv_at hl 1 rfl) ?_
    refine lv_i2l (v := f9.toInt64) hx hb d_T_repeat__20 rfl ?_
    refine lv_aload_n hx hb d_T_repeat__21 rfl (lv_at hl 0 rfl) ?_
    refine va_get (D := D) (ci := 7) (v := .int (nI n)) (C := Q_T) (T := F_T) (N := 17) hx hb hg in_T hown hK hP 0 rfl rfl 1 (by decide) (hg _ g_640) (fun _ h9 => h9) rfl d_T_repeat__22 ?_
    refine lv_iconst (v := 1) hx hb d_T_repeat__25 (by decide) ?_
    refine lv_isub hx hb d_T_repeat__26 ?_
    refine lv_i2l (v := ((nI n) - 1).toInt64) hx hb d_T_repeat__27 rfl ?_
    refine vp_callSi (va_Run.run (va_runS (As := [.long t9.toInt64, .long f9.toInt64, .long (((nI n) - 1).toInt64)]) (rest := [.ref o]) ⟨hx, hb, hml, hown, hg⟩ (c_T_isIn_ok l D cI cZ cJ cO t9.toInt64 f9.toInt64 (((nI n) - 1).toInt64)) (va_cwS 3 hg (gs2 g_703 g_704 g_26 g_705) rfl rfl rfl (by decide +kernel) ⟨Nat.le_of_ble_eq_true rfl, Nat.le_of_ble_eq_true rfl⟩) (pS ba_nil hK hN) rfl rfl hl.1 rfl (lv_room (Nat.le_of_ble_eq_true rfl)) d_T_repeat__28 ⟨Nat.zero_le _, Nat.zero_le _⟩)) (fun r_2 hr_2 => ?_)
    subst hr_2
    rw [lw_c (v := t9) (lo := f9) (hi := ((nI n) - 1)) rfl rfl]
    refine lv_if_ne (tgt := 38) hx hb d_T_repeat__31 (by decide) (fun c_31 => ?_) (fun c_31 => ?_)
    · obtain ⟨F, hF1, hF2, rfl⟩ := iwS h4 h64 c_14
      obtain ⟨T, hT1, hT2, rfl⟩ := iwT h4 h64 hF2 c_31
      refine lv_iconst (v := 0) hx hb d_T_repeat__38 (by decide) ?_
      refine va_put (D := D) (ci := 7) (v := .int 0) (ty := .int) (C := Q_T) (T := F_T) (N := 17) hx hb hg in_T tq_T tq_T_ok n_T hown hK hP hD hS 0 rfl rfl 0 (by decide) (hg _ g_639) (fun _ h9 => h9) rfl (by decide +kernel) rfl rfl (Nat.le_of_ble_eq_true rfl) d_T_repeat__39 (fun H locs hP hD hS => ?_)
      have hP : va_P D cls [(o, .inr (7, [.int 0, .int (nI n), .ref dT, .ref gT, .int (nI ns), .ref la, .ref ca, .int (nI nn), .ref aa, .ref na, .ref ya, .int (nI nr), .ref ta, .int be, .int bp, .long bo, .int bm])), (dT, .inl (cI, 64, .inl d)), (gT, .inl (cZ, 64, .inl g)), (la, .inl (cI, 8, .inl sl)), (ca, .inl (cI, 128, .inl cr)), (aa, .inl (cI, 16, .inl ak)), (na, .inl (cI, 16, .inl no)), (ya, .inl (cI, 16, .inl ye)), (ta, .inl (cI, 48, .inl tl))] H := hP
      have hD : va_D A [(o, .inr (7, [.int 0, .int (nI n), .ref dT, .ref gT, .int (nI ns), .ref la, .ref ca, .int (nI nn), .ref aa, .ref na, .ref ya, .int (nI nr), .ref ta, .int be, .int bp, .long bo, .int bm])), (dT, .inl (cI, 64, .inl d)), (gT, .inl (cZ, 64, .inl g)), (la, .inl (cI, 8, .inl sl)), (ca, .inl (cI, 128, .inl cr)), (aa, .inl (cI, 16, .inl ak)), (na, .inl (cI, 16, .inl no)), (ya, .inl (cI, 16, .inl ye)), (ta, .inl (cI, 48, .inl tl))] := hD
      refine lv_aload_n hx hb d_T_repeat__42 rfl (lv_at hl 0 rfl) ?_
      refine va_get (D := D) (ci := 7) (v := .int 0) (C := Q_T) (T := F_T) (N := 17) hx hb hg in_T hown hK hP 0 rfl rfl 0 (by decide) (hg _ g_639) (fun _ h9 => h9) rfl d_T_repeat__43 ?_
      refine lv_if_le (tgt := 51) hx hb d_T_repeat__46 (by decide) (fun c_46 => ?_) (fun c_46 => ?_)
      · refine lv_iload_n hx hb d_T_repeat__51 rfl (lv_at hl 1 rfl) ?_
        refine lv_istore_n (lv' := [(3, .int (nI F)), (0, .ref o), (1, .int (nI F)), (2, .int (nI T))]) hx hb d_T_repeat__52 rfl hl (by decide) rfl (fun ls hl => ?_)
        refine lv_iload_n hx hb d_T_repeat__53 rfl (lv_at hl 2 rfl) ?_
        refine lv_iconst (v := 1) hx hb d_T_repeat__54 (by decide) ?_
        refine lv_iadd hx hb d_T_repeat__55 ?_
        refine lv_istore (lv' := [(4, .int ((nI F) + 1)), (3, .int (nI F)), (0, .ref o), (1, .int (nI F)), (2, .int (nI T))]) hx hb d_T_repeat__56 hl (by decide) rfl (fun ls hl => ?_)
        have loop_58 : ∀ (f58 : Nat) (j : Nat) (x3 : Int32) (x4 : Int32) (ls : Array Slot), (j ≤ T - F ∧ T - F < j + f58 ∧ x3 = nI (rp n d g F j) ∧ x4 = nI (F + 1 + j)) → lv_has ls 5 [(0, .ref o), (1, .int (nI F)), (2, .int (nI T)), (3, .int x3), (4, .int x4)] → W p l e (headSpec (wq y_T_repeat_ c_T_repeat_ 5 (some .int)) ({ frames := 4, cells := 0, slots := 0, locals := 93 })).room s m ([.ref o, .int (nI F), .int (nI T)] : List Value).toArray below meth c H locs 0 0 (MQ below (va_Qi (fun (r : Int32) (u : va_W) => u = [(o, .inr (7, [.int (cRep n (nI F) (nI T)), .int (nI n), .ref dT, .ref gT, .int (nI ns), .ref la, .ref ca, .int (nI nn), .ref aa, .ref na, .ref ya, .int (nI nr), .ref ta, .int be, .int bp, .long bo, .int bm])), (dT, .inl (cI, 64, .inl d)), (gT, .inl (cZ, 64, .inl g)), (la, .inl (cI, 8, .inl sl)), (ca, .inl (cI, 128, .inl cr)), (aa, .inl (cI, 16, .inl ak)), (na, .inl (cI, 16, .inl no)), (ya, .inl (cI, 16, .inl ye)), (ta, .inl (cI, 48, .inl tl))] ∧ (cRep n (nI F) (nI T) = 0 → r = nI (rp n d g (nI F).toNatClampNeg ((nI T).toNatClampNeg - (nI F).toNatClampNeg)))) (mB D (TY cI cZ cJ cO) A) A) ([.ref o, .int (nI F), .int (nI T)] : List Value).toArray s 0 0 A) (F0 m 58 ls []) := by
          intro f58
          induction f58 with
          | zero =>
            intro j x3 x4 ls hI hl
            obtain ⟨hj1, hj2, rfl, rfl⟩ := hI
            omega
          | succ f58 ih58 =>
            intro j x3 x4 ls hI hl
            obtain ⟨hj1, hj2, rfl, rfl⟩ := hI
            refine lv_iload hx hb d_T_repeat__58 (lv_at hl 4 rfl) ?_
            refine lv_iload_n hx hb d_T_repeat__60 rfl (lv_at hl 2 rfl) ?_
            refine lv_icmp_gt (tgt := 92) hx hb d_T_repeat__61 (by decide) (fun c_61 => ?_) (fun c_61 => ?_)
            · refine lv_iload_n hx hb d_T_repeat__92 rfl (lv_at hl 3 rfl) ?_
              exact W.iret hx hb hr (fun t9 ht hW => ⟨⟨_, [(o, .inr (7, [.int 0, .int (nI n), .ref dT, .ref gT, .int (nI ns), .ref la, .ref ca, .int (nI nn), .ref aa, .ref na, .ref ya, .int (nI nr), .ref ta, .int be, .int bp, .long bo, .int bm])), (dT, .inl (cI, 64, .inl d)), (gT, .inl (cZ, 64, .inl g)), (la, .inl (cI, 8, .inl sl)), (ca, .inl (cI, 128, .inl cr)), (aa, .inl (cI, 16, .inl ak)), (na, .inl (cI, 16, .inl no)), (ya, .inl (cI, 16, .inl ye)), (ta, .inl (cI, 48, .inl tl))], rfl, ⟨by rw [cr_0 c_14 c_31], fun _ => by rw [nI_clamp (show F < 2 ^ 31 by omega), nI_clamp (show T < 2 ^ 31 by omega), ← rj2_out (by omega) hj1 hT1 c_61]⟩, by rw [ht]; exact hP, va_K.moved hW.alike hK, hD⟩, hS.F ht⟩) hS.2.2 d_T_repeat__93
            · refine lv_aload_n hx hb d_T_repeat__64 rfl (lv_at hl 0 rfl) ?_
              refine lv_iload hx hb d_T_repeat__65 (lv_at hl 4 rfl) ?_
              refine vp_callSl (va_Run.run (va_runV (As := [.int (nI (F + 1 + j))]) (rest := []) ⟨hx, hb, hml, hown, hg⟩ (c_T_sumOf_ok l D cI cZ cJ cO o dT gT la ca aa na ya ta n ns nn nr d g sl cr ak no ye tl 0 be bp bm bo h4 h64 hd (F + 1 + j) (by omega)) (cwV 1 hg (gv g_733 g_735 g_13 g_26 g_736) rfl rfl rfl (by decide +kernel) ⟨Nat.le_of_ble_eq_true rfl, Nat.le_of_ble_eq_true rfl⟩) (pV hP hK hN (va_recv hK hP (ci := 7) (q0 := 0) rfl rfl)) rfl rfl hl.1 rfl (lv_room (Nat.le_of_ble_eq_true rfl)) d_T_repeat__67 ⟨Nat.zero_le _, Nat.zero_le _⟩)) (fun r_3 hr_3 => ?_)
              subst hr_3
              refine lv_aload_n hx hb d_T_repeat__70 rfl (lv_at hl 0 rfl) ?_
              refine lv_iload_n hx hb d_T_repeat__71 rfl (lv_at hl 3 rfl) ?_
              refine vp_callSl (va_Run.run (va_runV (As := [.int (nI (rp n d g F j))]) (rest := [.long (rsv n d g (F + 1 + j))]) ⟨hx, hb, hml, hown, hg⟩ (c_T_sumOf_ok l D cI cZ cJ cO o dT gT la ca aa na ya ta n ns nn nr d g sl cr ak no ye tl 0 be bp bm bo h4 h64 hd (rp n d g F j) (by have := rp_le (n := n) (d := d) (g := g) (F := F) j; omega)) (cwV 1 hg (gv g_733 g_735 g_13 g_26 g_736) rfl rfl rfl (by decide +kernel) ⟨Nat.le_of_ble_eq_true rfl, Nat.le_of_ble_eq_true rfl⟩) (pV hP hK hN (va_recv hK hP (ci := 7) (q0 := 0) rfl rfl)) rfl rfl hl.1 rfl (lv_room (Nat.le_of_ble_eq_true rfl)) d_T_repeat__72 ⟨Nat.zero_le _, Nat.zero_le _⟩)) (fun r_4 hr_4 => ?_)
              subst hr_4
              refine W.lcmp hx hb d_T_repeat__75 ?_
              refine lv_if_le (tgt := 84) hx hb d_T_repeat__76 (by decide) (fun c_76 => ?_) (fun c_76 => ?_)
              · refine lv_iload_n hx hb d_T_repeat__84 rfl (lv_at hl 3 rfl) ?_
                refine lv_istore_n (lv' := [(3, .int (nI (rp n d g F j))), (0, .ref o), (1, .int (nI F)), (2, .int (nI T)), (4, .int (nI (F + 1 + j)))]) hx hb d_T_repeat__85 rfl hl (by decide) rfl (fun ls hl => ?_)
                refine lv_iinc (v := (nI (F + 1 + j)) + 1) (lv' := [(4, .int ((nI (F + 1 + j)) + 1)), (3, .int (nI (rp n d g F j))), (0, .ref o), (1, .int (nI F)), (2, .int (nI T))]) hx hb d_T_repeat__86 hl (k := 4) rfl rfl (by decide) rfl (fun ls hl => ?_)
                refine lv_goto (tgt := 58) hx hb d_T_repeat__89 (by decide) ?_
                exact ih58 (j + 1) (nI (rp n d g F j)) ((nI (F + 1 + j)) + 1) ls (⟨by have := rj2_in (by omega) c_61; omega, by omega, (by rw [rp, if_neg (show ¬ rsv n d g (rp n d g F j) < rsv n d g (F + 1 + j) from cmp_le.mp c_76)]), nI_1 _⟩) (lv_sub hl [2, 3, 4, 1, 0] rfl)
              · refine lv_iload hx hb d_T_repeat__79 (lv_at hl 4 rfl) ?_
                refine lv_goto (tgt := 85) hx hb d_T_repeat__81 (by decide) ?_
                refine lv_istore_n (lv' := [(3, .int (nI (F + 1 + j))), (0, .ref o), (1, .int (nI F)), (2, .int (nI T)), (4, .int (nI (F + 1 + j)))]) hx hb d_T_repeat__85 rfl hl (by decide) rfl (fun ls hl => ?_)
                refine lv_iinc (v := (nI (F + 1 + j)) + 1) (lv' := [(4, .int ((nI (F + 1 + j)) + 1)), (3, .int (nI (F + 1 + j))), (0, .ref o), (1, .int (nI F)), (2, .int (nI T))]) hx hb d_T_repeat__86 hl (k := 4) rfl rfl (by decide) rfl (fun ls hl => ?_)
                refine lv_goto (tgt := 58) hx hb d_T_repeat__89 (by decide) ?_
                exact ih58 (j + 1) (nI (F + 1 + j)) ((nI (F + 1 + j)) + 1) ls (⟨by have := rj2_in (by omega) c_61; omega, by omega, (by rw [rp, if_pos (show rsv n d g (rp n d g F j) < rsv n d g (F + 1 + j) from Decidable.not_not.mp (fun q => c_76 (cmp_le.mpr q)))]), nI_1 _⟩) (lv_sub hl [2, 3, 4, 1, 0] rfl)
        exact loop_58 (T + 1) 0 (nI F) ((nI F) + 1) ls (⟨by omega, by omega, rfl, nI_1 F⟩) (lv_sub hl [2, 3, 4, 1, 0] rfl)
      · exact absurd c_46 (by decide)
    · refine lv_iconst (v := 1) hx hb d_T_repeat__34 (by decide) ?_
      refine lv_goto (tgt := 39) hx hb d_T_repeat__35 (by decide) ?_
      refine va_put (D := D) (ci := 7) (v := .int 1) (ty := .int) (C := Q_T) (T := F_T) (N := 17) hx hb hg in_T tq_T tq_T_ok n_T hown hK hP hD hS 0 rfl rfl 0 (by decide) (hg _ g_639) (fun _ h9 => h9) rfl (by decide +kernel) rfl rfl (Nat.le_of_ble_eq_true rfl) d_T_repeat__39 (fun H locs hP hD hS => ?_)
      have hP : va_P D cls [(o, .inr (7, [.int 1, .int (nI n), .ref dT, .ref gT, .int (nI ns), .ref la, .ref ca, .int (nI nn), .ref aa, .ref na, .ref ya, .int (nI nr), .ref ta, .int be, .int bp, .long bo, .int bm])), (dT, .inl (cI, 64, .inl d)), (gT, .inl (cZ, 64, .inl g)), (la, .inl (cI, 8, .inl sl)), (ca, .inl (cI, 128, .inl cr)), (aa, .inl (cI, 16, .inl ak)), (na, .inl (cI, 16, .inl no)), (ya, .inl (cI, 16, .inl ye)), (ta, .inl (cI, 48, .inl tl))] H := hP
      have hD : va_D A [(o, .inr (7, [.int 1, .int (nI n), .ref dT, .ref gT, .int (nI ns), .ref la, .ref ca, .int (nI nn), .ref aa, .ref na, .ref ya, .int (nI nr), .ref ta, .int be, .int bp, .long bo, .int bm])), (dT, .inl (cI, 64, .inl d)), (gT, .inl (cZ, 64, .inl g)), (la, .inl (cI, 8, .inl sl)), (ca, .inl (cI, 128, .inl cr)), (aa, .inl (cI, 16, .inl ak)), (na, .inl (cI, 16, .inl no)), (ya, .inl (cI, 16, .inl ye)), (ta, .inl (cI, 48, .inl tl))] := hD
      refine lv_aload_n hx hb d_T_repeat__42 rfl (lv_at hl 0 rfl) ?_
      refine va_get (D := D) (ci := 7) (v := .int 1) (C := Q_T) (T := F_T) (N := 17) hx hb hg in_T hown hK hP 0 rfl rfl 0 (by decide) (hg _ g_639) (fun _ h9 => h9) rfl d_T_repeat__43 ?_
      refine lv_if_le (tgt := 51) hx hb d_T_repeat__46 (by decide) (fun c_46 => ?_) (fun c_46 => ?_)
      · exact absurd c_46 (by decide)
      · refine lv_iconst (v := 0) hx hb d_T_repeat__49 (by decide) ?_
        exact W.iret hx hb hr (fun t9 ht hW => ⟨⟨_, [(o, .inr (7, [.int 1, .int (nI n), .ref dT, .ref gT, .int (nI ns), .ref la, .ref ca, .int (nI nn), .ref aa, .ref na, .ref ya, .int (nI nr), .ref ta, .int be, .int bp, .long bo, .int bm])), (dT, .inl (cI, 64, .inl d)), (gT, .inl (cZ, 64, .inl g)), (la, .inl (cI, 8, .inl sl)), (ca, .inl (cI, 128, .inl cr)), (aa, .inl (cI, 16, .inl ak)), (na, .inl (cI, 16, .inl no)), (ya, .inl (cI, 16, .inl ye)), (ta, .inl (cI, 48, .inl tl))], rfl, ⟨by first | rw [cr_1 c_14] | rw [cr_2 c_31], fun h => absurd h (by first | (rw [cr_1 c_14]; decide) | (rw [cr_2 c_31]; decide))⟩, by rw [ht]; exact hP, va_K.moved hW.alike hK, hD⟩, hS.F ht⟩) hS.2.2 d_T_repeat__50

set_option maxHeartbeats 4000000 in
set_option maxRecDepth 100000 in
/-- the reference: fill(s, a) -/
theorem c_T_fill_ok (l : Launch) (D : va_G) (cI cZ cJ cO : ClassId) (sz : Nat) (o dT gT la ca aa na ya ta : Nat) (n ns nn nr : Nat) (d g sl cr ak no ye tl : Nat → Int32) (th be bp bm : Int32) (bo : Int64) (h4 : 4 ≤ n) (h64 : n ≤ 64) (hd : dOK n d) (s9 a : Int32) : Met l y_T_fill (wq y_T_fill c_T_fill 6 (some .int)) ({ frames := 4, cells := 0, slots := 0, locals := 95 }) (mP D (TY cI cZ cJ cO) [(o, .inr (7, [.int th, .int (nI n), .ref dT, .ref gT, .int (nI ns), .ref la, .ref ca, .int (nI nn), .ref aa, .ref na, .ref ya, .int (nI nr), .ref ta, .int be, .int bp, .long bo, .int bm])), (dT, .inl (cI, 64, .inl d)), (gT, .inl (cZ, 64, .inl g)), (la, .inl (cI, 8, .inl sl)), (ca, .inl (cI, 128, .inl cr)), (aa, .inl (cI, 16, .inl ak)), (na, .inl (cI, 16, .inl no)), (ya, .inl (cI, 16, .inl ye)), (ta, .inl (cI, 48, .inl tl))] [.ref o, .int s9, .int a] sz) (va_Qi (fun (r : Int32) (u : va_W) => u = [(o, .inr (7, [.int (cFil n s9 a), .int (nI n), .ref dT, .ref gT, .int (nI ns), .ref la, .ref ca, .int (nI nn), .ref aa, .ref na, .ref ya, .int (nI nr), .ref ta, .int be, .int bp, .long bo, .int bm])), (dT, .inl (cI, 64, .inl ((fil n d g s9 a).1))), (gT, .inl (cZ, 64, .inl ((fil n d g s9 a).2.1))), (la, .inl (cI, 8, .inl sl)), (ca, .inl (cI, 128, .inl cr)), (aa, .inl (cI, 16, .inl ak)), (na, .inl (cI, 16, .inl no)), (ya, .inl (cI, 16, .inl ye)), (ta, .inl (cI, 48, .inl tl))] ∧ (cFil n s9 a = 0 → r = nI (fil n d g s9 a).2.2)) (mB D (TY cI cZ cJ cO) (va_A [(o, .inr (7, [.int th, .int (nI n), .ref dT, .ref gT, .int (nI ns), .ref la, .ref ca, .int (nI nn), .ref aa, .ref na, .ref ya, .int (nI nr), .ref ta, .int be, .int bp, .long bo, .int bm])), (dT, .inl (cI, 64, .inl d)), (gT, .inl (cZ, 64, .inl g)), (la, .inl (cI, 8, .inl sl)), (ca, .inl (cI, 128, .inl cr)), (aa, .inl (cI, 16, .inl ak)), (na, .inl (cI, 16, .inl no)), (ya, .inl (cI, 16, .inl ye)), (ta, .inl (cI, 48, .inl tl))] sz)) (va_A [(o, .inr (7, [.int th, .int (nI n), .ref dT, .ref gT, .int (nI ns), .ref la, .ref ca, .int (nI nn), .ref aa, .ref na, .ref ya, .int (nI nr), .ref ta, .int be, .int bp, .long bo, .int bm])), (dT, .inl (cI, 64, .inl d)), (gT, .inl (cZ, 64, .inl g)), (la, .inl (cI, 8, .inl sl)), (ca, .inl (cI, 128, .inl cr)), (aa, .inl (cI, 16, .inl ak)), (na, .inl (cI, 16, .inl no)), (ya, .inl (cI, 16, .inl ye)), (ta, .inl (cI, 48, .inl tl))] sz)) 0 0 (va_A [(o, .inr (7, [.int th, .int (nI n), .ref dT, .ref gT, .int (nI ns), .ref la, .ref ca, .int (nI nn), .ref aa, .ref na, .ref ya, .int (nI nr), .ref ta, .int be, .int bp, .long bo, .int bm])), (dT, .inl (cI, 64, .inl d)), (gT, .inl (cZ, 64, .inl g)), (la, .inl (cI, 8, .inl sl)), (ca, .inl (cI, 128, .inl cr)), (aa, .inl (cI, 16, .inl ak)), (na, .inl (cI, 16, .inl no)), (ya, .inl (cI, 16, .inl ye)), (ta, .inl (cI, 48, .inl tl))] sz) := by
  refine Met.ofW (cc := c_T_fill) (maxL := 6) (ret := (some .int)) (by decide) rfl ?_
  intro p e s m args below meth c s₁ B hml hv
  obtain ⟨rfl, hsz, hP, hK, hD0, hN⟩ := hv
  have hx := B.exec
  have hb := B.bytes
  have hr := B.returns
  have hg := gt_h (atoms_spec (ws := (wq y_T_fill c_T_fill 6 (some .int))) B.pre)
  have hown : s.vm.findClass "RubbingMirrorsModel" = some m.cls := findClass_of_methodNamed B.named
  have hlocks := B.notSynchronized
  subst hsz
  have hD := hD0.self (sz := s.heap.size)
  generalize hAe : va_A [(o, .inr (7, [.int th, .int (nI n), .ref dT, .ref gT, .int (nI ns), .ref la, .ref ca, .int (nI nn), .ref aa, .ref na, .ref ya, .int (nI nr), .ref ta, .int be, .int bp, .long bo, .int bm])), (dT, .inl (cI, 64, .inl d)), (gT, .inl (cZ, 64, .inl g)), (la, .inl (cI, 8, .inl sl)), (ca, .inl (cI, 128, .inl cr)), (aa, .inl (cI, 16, .inl ak)), (na, .inl (cI, 16, .inl no)), (ya, .inl (cI, 16, .inl ye)), (ta, .inl (cI, 48, .inl tl))] s.heap.size = A at hD ⊢
  have hA : ∀ q : Nat, s.heap.size ≤ q → A q := fun q h => by rw [← hAe]; exact Or.inr h
  have hS : va_S A s.heap s.heap [] := va_S.rf
  have hl := lv_entry ([.ref o, .int s9, .int a]) (n := 6) (Nat.le_of_ble_eq_true rfl)
  rw [lg_entry_eq]
  generalize (lg_sl ([.ref o, .int s9, .int a]) ++ List.replicate (6 - (lg_sl ([.ref o, .int s9, .int a])).length) Slot.unset).toArray = ls at hl ⊢
  have hl : lv_has ls 6 [(0, .ref o), (1, .int s9), (2, .int a)] := hl
  refine lv_aload_n hx hb d_T_fill_0 rfl (lv_at hl 0 rfl) ?_
  refine lv_iload_n hx hb d_T_fill_1 rfl (lv_at hl 1 rfl) ?_
  refine lv_i2l (v := s9.toInt64) hx hb d_T_fill_2 rfl ?_
  refine lv_lconst (v := 0) hx hb d_T_fill_3 (by decide) ?_
  refine lv_aload_n hx hb d_T_fill_4 rfl (lv_at hl 0 rfl) ?_
  refine va_get (D := D) (ci := 7) (v := .int (nI n)) (C := Q_T) (T := F_T) (N := 17) hx hb hg in_T hown hK hP 0 rfl rfl 1 (by decide) (hg _ g_640) (fun _ h9 => h9) rfl d_T_fill_5 ?_
  refine lv_iconst (v := 1) hx hb d_T_fill_8 (by decide) ?_
  refine lv_isub hx hb d_T_fill_9 ?_
  refine lv_i2l (v := ((nI n) - 1).toInt64) hx hb d_T_fill_10 rfl ?_
  refine vp_callSi (va_Run.run (va_runS (As := [.long s9.toInt64, .long 0, .long (((nI n) - 1).toInt64)]) (rest := [.ref o]) ⟨hx, hb, hml, hown, hg⟩ (c_T_isIn_ok l D cI cZ cJ cO s9.toInt64 0 (((nI n) - 1).toInt64)) (va_cwS 3 hg (gs2 g_703 g_704 g_26 g_705) rfl rfl rfl (by decide +kernel) ⟨Nat.le_of_ble_eq_true rfl, Nat.le_of_ble_eq_true rfl⟩) (pS ba_nil hK hN) rfl rfl hl.1 rfl (lv_room (Nat.le_of_ble_eq_true rfl)) d_T_fill_11 ⟨Nat.zero_le _, Nat.zero_le _⟩)) (fun r_1 hr_1 => ?_)
  subst hr_1
  rw [lw_c (v := s9) (lo := 0) (hi := ((nI n) - 1)) (by decide) rfl]
  refine lv_if_eq (tgt := 37) hx hb d_T_fill_14 (by decide) (fun c_14 => ?_) (fun c_14 => ?_)
  · refine lv_iconst (v := 1) hx hb d_T_fill_37 (by decide) ?_
    refine lv_goto (tgt := 42) hx hb d_T_fill_38 (by decide) ?_
    refine va_put (D := D) (ci := 7) (v := .int 1) (ty := .int) (C := Q_T) (T := F_T) (N := 17) hx hb hg in_T tq_T tq_T_ok n_T hown hK hP hD hS 0 rfl rfl 0 (by decide) (hg _ g_639) (fun _ h9 => h9) rfl (by decide +kernel) rfl rfl (Nat.le_of_ble_eq_true rfl) d_T_fill_42 (fun H locs hP hD hS => ?_)
    have hP : va_P D cls [(o, .inr (7, [.int 1, .int (nI n), .ref dT, .ref gT, .int (nI ns), .ref la, .ref ca, .int (nI nn), .ref aa, .ref na, .ref ya, .int (nI nr), .ref ta, .int be, .int bp, .long bo, .int bm])), (dT, .inl (cI, 64, .inl d)), (gT, .inl (cZ, 64, .inl g)), (la, .inl (cI, 8, .inl sl)), (ca, .inl (cI, 128, .inl cr)), (aa, .inl (cI, 16, .inl ak)), (na, .inl (cI, 16, .inl no)), (ya, .inl (cI, 16, .inl ye)), (ta, .inl (cI, 48, .inl tl))] H := hP
    have hD : va_D A [(o, .inr (7, [.int 1, .int (nI n), .ref dT, .ref gT, .int (nI ns), .ref la, .ref ca, .int (nI nn), .ref aa, .ref na, .ref ya, .int (nI nr), .ref ta, .int be, .int bp, .long bo, .int bm])), (dT, .inl (cI, 64, .inl d)), (gT, .inl (cZ, 64, .inl g)), (la, .inl (cI, 8, .inl sl)), (ca, .inl (cI, 128, .inl cr)), (aa, .inl (cI, 16, .inl ak)), (na, .inl (cI, 16, .inl no)), (ya, .inl (cI, 16, .inl ye)), (ta, .inl (cI, 48, .inl tl))] := hD
    refine lv_iconst (v := 0) hx hb d_T_fill_45 (by decide) ?_
    refine lv_istore_n (lv' := [(3, .int 0), (0, .ref o), (1, .int s9), (2, .int a)]) hx hb d_T_fill_46 rfl hl (by decide) rfl (fun ls hl => ?_)
    refine lv_iconst (v := 0) hx hb d_T_fill_47 (by decide) ?_
    refine lv_istore (lv' := [(4, .int 0), (3, .int 0), (0, .ref o), (1, .int s9), (2, .int a)]) hx hb d_T_fill_48 hl (by decide) rfl (fun ls hl => ?_)
    refine lv_iload hx hb d_T_fill_50 (lv_at hl 0 rfl) ?_
    refine lv_aload_n hx hb d_T_fill_52 rfl (lv_at hl 2 rfl) ?_
    refine va_get (D := D) (ci := 7) (v := .int (nI n)) (C := Q_T) (T := F_T) (N := 17) hx hb hg in_T hown hK hP 0 rfl rfl 1 (by decide) (hg _ g_640) (fun _ h9 => h9) rfl d_T_fill_53 ?_
    refine lv_icmp_ge (tgt := 126) hx hb d_T_fill_56 (by decide) (fun c_56 => ?_) (fun c_56 => ?_)
    · exact absurd (gj_out (n := n) (j := 0) (by omega) (by omega) c_56) (by omega)
    · refine lv_aload_n hx hb d_T_fill_59 rfl (lv_at hl 2 rfl) ?_
      refine va_get (D := D) (ci := 7) (v := .int 1) (C := Q_T) (T := F_T) (N := 17) hx hb hg in_T hown hK hP 0 rfl rfl 0 (by decide) (hg _ g_639) (fun _ h9 => h9) rfl d_T_fill_60 ?_
      refine lv_if_ne (tgt := 126) hx hb d_T_fill_63 (by decide) (fun c_63 => ?_) (fun c_63 => ?_)
      · refine lv_iload_n hx hb d_T_fill_126 rfl (lv_at hl 1 rfl) ?_
        exact W.iret hx hb hr (fun t9 ht hW => ⟨⟨_, [(o, .inr (7, [.int 1, .int (nI n), .ref dT, .ref gT, .int (nI ns), .ref la, .ref ca, .int (nI nn), .ref aa, .ref na, .ref ya, .int (nI nr), .ref ta, .int be, .int bp, .long bo, .int bm])), (dT, .inl (cI, 64, .inl d)), (gT, .inl (cZ, 64, .inl g)), (la, .inl (cI, 8, .inl sl)), (ca, .inl (cI, 128, .inl cr)), (aa, .inl (cI, 16, .inl ak)), (na, .inl (cI, 16, .inl no)), (ya, .inl (cI, 16, .inl ye)), (ta, .inl (cI, 48, .inl tl))], rfl, ⟨by unfold fil; (first | rw [cf_1 c_14] | rw [cf_2 c_34]); rfl, fun h => absurd h (by first | (rw [cf_1 c_14]; decide) | (rw [cf_2 c_34]; decide))⟩, by rw [ht]; exact hP, va_K.moved hW.alike hK, hD⟩, hS.F ht⟩) hS.2.2 d_T_fill_127
      · exact absurd c_63 (by decide)
  · refine lv_iload_n hx hb d_T_fill_17 rfl (lv_at hl 2 rfl) ?_
    refine lv_i2l (v := a.toInt64) hx hb d_T_fill_18 rfl ?_
    refine lv_ldc2 (v := (-1)) hx hb hown (hg _ g_706) d_T_fill_19 ?_
    refine lv_iconst (v := 2) hx hb d_T_fill_22 (by decide) ?_
    refine lv_aload_n hx hb d_T_fill_23 rfl (lv_at hl 0 rfl) ?_
    refine va_get (D := D) (ci := 7) (v := .int (nI n)) (C := Q_T) (T := F_T) (N := 17) hx hb hg in_T hown hK hP 0 rfl rfl 1 (by decide) (hg _ g_640) (fun _ h9 => h9) rfl d_T_fill_24 ?_
    refine lv_imul hx hb d_T_fill_27 ?_
    refine lv_iconst (v := 2) hx hb d_T_fill_28 (by decide) ?_
    refine lv_isub hx hb d_T_fill_29 ?_
    refine lv_i2l (v := ((2 * (nI n)) - 2).toInt64) hx hb d_T_fill_30 rfl ?_
    refine vp_callSi (va_Run.run (va_runS (As := [.long a.toInt64, .long (-1), .long (((2 * (nI n)) - 2).toInt64)]) (rest := [.ref o]) ⟨hx, hb, hml, hown, hg⟩ (c_T_isIn_ok l D cI cZ cJ cO a.toInt64 (-1) (((2 * (nI n)) - 2).toInt64)) (va_cwS 3 hg (gs2 g_703 g_704 g_26 g_705) rfl rfl rfl (by decide +kernel) ⟨Nat.le_of_ble_eq_true rfl, Nat.le_of_ble_eq_true rfl⟩) (pS ba_nil hK hN) rfl rfl hl.1 rfl (lv_room (Nat.le_of_ble_eq_true rfl)) d_T_fill_31 ⟨Nat.zero_le _, Nat.zero_le _⟩)) (fun r_2 hr_2 => ?_)
    subst hr_2
    rw [lw_c (v := a) (lo := (-1)) (hi := ((2 * (nI n)) - 2)) (by decide) rfl]
    refine lv_if_ne (tgt := 41) hx hb d_T_fill_34 (by decide) (fun c_34 => ?_) (fun c_34 => ?_)
    · obtain ⟨S, hS2, rfl⟩ := iwS0 h4 h64 c_14
      obtain ⟨ha1, ha2⟩ := iwA h4 h64 c_34
      refine lv_iconst (v := 0) hx hb d_T_fill_41 (by decide) ?_
      refine va_put (D := D) (ci := 7) (v := .int 0) (ty := .int) (C := Q_T) (T := F_T) (N := 17) hx hb hg in_T tq_T tq_T_ok n_T hown hK hP hD hS 0 rfl rfl 0 (by decide) (hg _ g_639) (fun _ h9 => h9) rfl (by decide +kernel) rfl rfl (Nat.le_of_ble_eq_true rfl) d_T_fill_42 (fun H locs hP hD hS => ?_)
      have hP : va_P D cls [(o, .inr (7, [.int 0, .int (nI n), .ref dT, .ref gT, .int (nI ns), .ref la, .ref ca, .int (nI nn), .ref aa, .ref na, .ref ya, .int (nI nr), .ref ta, .int be, .int bp, .long bo, .int bm])), (dT, .inl (cI, 64, .inl d)), (gT, .inl (cZ, 64, .inl g)), (la, .inl (cI, 8, .inl sl)), (ca, .inl (cI, 128, .inl cr)), (aa, .inl (cI, 16, .inl ak)), (na, .inl (cI, 16, .inl no)), (ya, .inl (cI, 16, .inl ye)), (ta, .inl (cI, 48, .inl tl))] H := hP
      have hD : va_D A [(o, .inr (7, [.int 0, .int (nI n), .ref dT, .ref gT, .int (nI ns), .ref la, .ref ca, .int (nI nn), .ref aa, .ref na, .ref ya, .int (nI nr), .ref ta, .int be, .int bp, .long bo, .int bm])), (dT, .inl (cI, 64, .inl d)), (gT, .inl (cZ, 64, .inl g)), (la, .inl (cI, 8, .inl sl)), (ca, .inl (cI, 128, .inl cr)), (aa, .inl (cI, 16, .inl ak)), (na, .inl (cI, 16, .inl no)), (ya, .inl (cI, 16, .inl ye)), (ta, .inl (cI, 48, .inl tl))] := hD
      refine lv_iconst (v := 0) hx hb d_T_fill_45 (by decide) ?_
      refine lv_istore_n (lv' := [(3, .int 0), (0, .ref o), (1, .int (nI S)), (2, .int a)]) hx hb d_T_fill_46 rfl hl (by decide) rfl (fun ls hl => ?_)
      refine lv_iconst (v := 0) hx hb d_T_fill_47 (by decide) ?_
      refine lv_istore (lv' := [(4, .int 0), (3, .int 0), (0, .ref o), (1, .int (nI S)), (2, .int a)]) hx hb d_T_fill_48 hl (by decide) rfl (fun ls hl => ?_)
      have loop_50 : ∀ (f50 : Nat) (j : Nat) (d1 g1 : Nat → Int32) (c1 : Nat) (x3 : Int32) (x4 : Int32) (H : Heap) (locs : List Loc) (ls : Array Slot), (j ≤ n ∧ n < j + f50 ∧ x3 = nI c1 ∧ x4 = nI j ∧ (d1, g1, c1) = fl n S a.toInt d g j) → va_P D cls [(o, .inr (7, [.int 0, .int (nI n), .ref dT, .ref gT, .int (nI ns), .ref la, .ref ca, .int (nI nn), .ref aa, .ref na, .ref ya, .int (nI nr), .ref ta, .int be, .int bp, .long bo, .int bm])), (dT, .inl (cI, 64, .inl d1)), (gT, .inl (cZ, 64, .inl g1)), (la, .inl (cI, 8, .inl sl)), (ca, .inl (cI, 128, .inl cr)), (aa, .inl (cI, 16, .inl ak)), (na, .inl (cI, 16, .inl no)), (ya, .inl (cI, 16, .inl ye)), (ta, .inl (cI, 48, .inl tl))] H → va_D A [(o, .inr (7, [.int 0, .int (nI n), .ref dT, .ref gT, .int (nI ns), .ref la, .ref ca, .int (nI nn), .ref aa, .ref na, .ref ya, .int (nI nr), .ref ta, .int be, .int bp, .long bo, .int bm])), (dT, .inl (cI, 64, .inl d1)), (gT, .inl (cZ, 64, .inl g1)), (la, .inl (cI, 8, .inl sl)), (ca, .inl (cI, 128, .inl cr)), (aa, .inl (cI, 16, .inl ak)), (na, .inl (cI, 16, .inl no)), (ya, .inl (cI, 16, .inl ye)), (ta, .inl (cI, 48, .inl tl))] → va_S A s.heap H locs → lv_has ls 6 [(0, .ref o), (1, .int (nI S)), (2, .int a), (3, .int x3), (4, .int x4)] → W p l e (headSpec (wq y_T_fill c_T_fill 6 (some .int)) ({ frames := 4, cells := 0, slots := 0, locals := 95 })).room s m ([.ref o, .int (nI S), .int a] : List Value).toArray below meth c H locs 0 0 (MQ below (va_Qi (fun (r : Int32) (u : va_W) => u = [(o, .inr (7, [.int (cFil n (nI S) a), .int (nI n), .ref dT, .ref gT, .int (nI ns), .ref la, .ref ca, .int (nI nn), .ref aa, .ref na, .ref ya, .int (nI nr), .ref ta, .int be, .int bp, .long bo, .int bm])), (dT, .inl (cI, 64, .inl ((fil n d g (nI S) a).1))), (gT, .inl (cZ, 64, .inl ((fil n d g (nI S) a).2.1))), (la, .inl (cI, 8, .inl sl)), (ca, .inl (cI, 128, .inl cr)), (aa, .inl (cI, 16, .inl ak)), (na, .inl (cI, 16, .inl no)), (ya, .inl (cI, 16, .inl ye)), (ta, .inl (cI, 48, .inl tl))] ∧ (cFil n (nI S) a = 0 → r = nI (fil n d g (nI S) a).2.2)) (mB D (TY cI cZ cJ cO) A) A) ([.ref o, .int (nI S), .int a] : List Value).toArray s 0 0 A) (F0 m 50 ls []) := by
        intro f50
        induction f50 with
        | zero =>
          intro j d1 g1 c1 x3 x4 H locs ls hI hP hD hS hl
          obtain ⟨hj1, hj2, rfl, rfl, hq⟩ := hI
          omega
        | succ f50 ih50 =>
          intro j d1 g1 c1 x3 x4 H locs ls hI hP hD hS hl
          obtain ⟨hj1, hj2, rfl, rfl, hq⟩ := hI
          have hd1 : dOK n d1 := by have := dOK_fl (S := S) (a := a.toInt) (g := g) hd j; rw [← hq] at this; exact this
          refine lv_iload hx hb d_T_fill_50 (lv_at hl 4 rfl) ?_
          refine lv_aload_n hx hb d_T_fill_52 rfl (lv_at hl 0 rfl) ?_
          refine va_get (D := D) (ci := 7) (v := .int (nI n)) (C := Q_T) (T := F_T) (N := 17) hx hb hg in_T hown hK hP 0 rfl rfl 1 (by decide) (hg _ g_640) (fun _ h9 => h9) rfl d_T_fill_53 ?_
          refine lv_icmp_ge (tgt := 126) hx hb d_T_fill_56 (by decide) (fun c_56 => ?_) (fun c_56 => ?_)
          · refine lv_iload_n hx hb d_T_fill_126 rfl (lv_at hl 3 rfl) ?_
            exact W.iret hx hb hr (fun t9 ht hW => ⟨⟨_, [(o, .inr (7, [.int 0, .int (nI n), .ref dT, .ref gT, .int (nI ns), .ref la, .ref ca, .int (nI nn), .ref aa, .ref na, .ref ya, .int (nI nr), .ref ta, .int be, .int bp, .long bo, .int bm])), (dT, .inl (cI, 64, .inl d1)), (gT, .inl (cZ, 64, .inl g1)), (la, .inl (cI, 8, .inl sl)), (ca, .inl (cI, 128, .inl cr)), (aa, .inl (cI, 16, .inl ak)), (na, .inl (cI, 16, .inl no)), (ya, .inl (cI, 16, .inl ye)), (ta, .inl (cI, 48, .inl tl))], rfl, (by unfold fil; rw [cf_0 c_14 c_34, if_pos rfl, nI_toInt (show S < 2 ^ 31 by omega)]; rw [gj_out (by omega) hj1 c_56] at hq; rw [← hq]; exact ⟨rfl, fun _ => rfl⟩), by rw [ht]; exact hP, va_K.moved hW.alike hK, hD⟩, hS.F ht⟩) hS.2.2 d_T_fill_127
          · refine lv_aload_n hx hb d_T_fill_59 rfl (lv_at hl 0 rfl) ?_
            refine va_get (D := D) (ci := 7) (v := .int 0) (C := Q_T) (T := F_T) (N := 17) hx hb hg in_T hown hK hP 0 rfl rfl 0 (by decide) (hg _ g_639) (fun _ h9 => h9) rfl d_T_fill_60 ?_
            refine lv_if_ne (tgt := 126) hx hb d_T_fill_63 (by decide) (fun c_63 => ?_) (fun c_63 => ?_)
            · exact absurd c_63 (by decide)
            · refine lv_aload_n hx hb d_T_fill_66 rfl (lv_at hl 0 rfl) ?_
              refine va_get (D := D) (ci := 7) (v := .ref dT) (C := Q_T) (T := F_T) (N := 17) hx hb hg in_T hown hK hP 0 rfl rfl 2 (by decide) (hg _ g_641) (fun _ h9 => h9) rfl d_T_fill_67 ?_
              refine lv_iload hx hb d_T_fill_70 (lv_at hl 4 rfl) ?_
              refine va_iald hx hb hK hP 1 0 rfl rfl (v64 h64 (gj_in (by omega) hj1 c_56)) d_T_fill_72 ?_
              refine lv_if_ge (tgt := 87) hx hb d_T_fill_73 (by decide) (fun c_73 => ?_) (fun c_73 => ?_)
              · refine lv_iconst (v := (-1)) hx hb d_T_fill_87 (by decide) ?_
                refine lv_istore (lv' := [(5, .int (-1)), (0, .ref o), (1, .int (nI S)), (2, .int a), (3, .int (nI c1)), (4, .int (nI j))]) hx hb d_T_fill_88 hl (by decide) rfl (fun ls hl => ?_)
                refine lv_iload hx hb d_T_fill_90 (lv_at hl 0 rfl) ?_
                refine lv_if_lt (tgt := 120) hx hb d_T_fill_92 (by decide) (fun c_92 => ?_) (fun c_92 => ?_)
                · refine lv_iinc (v := (nI j) + 1) (lv' := [(4, .int ((nI j) + 1)), (5, .int (-1)), (0, .ref o), (1, .int (nI S)), (2, .int a), (3, .int (nI c1))]) hx hb d_T_fill_120 hl (k := 5) rfl rfl (by decide) rfl (fun ls hl => ?_)
                  refine lv_goto (tgt := 50) hx hb d_T_fill_123 (by decide) ?_
                  exact ih50 (j + 1) d1 g1 c1 (nI c1) ((nI j) + 1) _ _ ls (⟨by have := gj_in (by omega) hj1 c_56; omega, by omega, rfl, nI_1 j, by rw [fl, ← hq]; exact (fs_1 (by omega) (dn1 c_73)).symm⟩) hP hD hS (lv_sub hl [2, 3, 4, 5, 0] rfl)
                · exact absurd c_92 (by decide)
              · refine lv_aload_n hx hb d_T_fill_76 rfl (lv_at hl 0 rfl) ?_
                refine lv_iload hx hb d_T_fill_77 (lv_at hl 4 rfl) ?_
                refine lv_iload_n hx hb d_T_fill_79 rfl (lv_at hl 1 rfl) ?_
                refine lv_iload_n hx hb d_T_fill_80 rfl (lv_at hl 2 rfl) ?_
                refine vp_callSi (va_Run.run (va_runV (As := [.int (nI j), .int (nI S), .int a]) (rest := []) ⟨hx, hb, hml, hown, hg⟩ (c_T_source_ok l D cI cZ cJ cO o dT gT la ca aa na ya ta n ns nn nr d1 g1 sl cr ak no ye tl 0 be bp bm bo h4 h64 hd1 j S a (by omega) (by omega) ha1 ha2) (cwV 3 hg (gv g_745 g_747 g_14 g_26 g_748) rfl rfl rfl (by decide +kernel) ⟨Nat.le_of_ble_eq_true rfl, Nat.le_of_ble_eq_true rfl⟩) (pV hP hK hN (va_recv hK hP (ci := 7) (q0 := 0) rfl rfl)) rfl rfl hl.1 rfl (lv_room (Nat.le_of_ble_eq_true rfl)) d_T_fill_81 ⟨Nat.zero_le _, Nat.zero_le _⟩)) (fun r_3 hr_3 => ?_)
                refine lv_goto (tgt := 88) hx hb d_T_fill_84 (by decide) ?_
                refine lv_istore (lv' := [(5, .int r_3), (0, .ref o), (1, .int (nI S)), (2, .int a), (3, .int (nI c1)), (4, .int (nI j))]) hx hb d_T_fill_88 hl (by decide) rfl (fun ls hl => ?_)
                refine lv_iload hx hb d_T_fill_90 (lv_at hl 0 rfl) ?_
                refine lv_if_lt (tgt := 120) hx hb d_T_fill_92 (by decide) (fun c_92 => ?_) (fun c_92 => ?_)
                · refine lv_iinc (v := (nI j) + 1) (lv' := [(4, .int ((nI j) + 1)), (5, .int r_3), (0, .ref o), (1, .int (nI S)), (2, .int a), (3, .int (nI c1))]) hx hb d_T_fill_120 hl (k := 5) rfl rfl (by decide) rfl (fun ls hl => ?_)
                  refine lv_goto (tgt := 50) hx hb d_T_fill_123 (by decide) ?_
                  exact ih50 (j + 1) d1 g1 c1 (nI c1) ((nI j) + 1) _ _ ls (⟨by have := gj_in (by omega) hj1 c_56; omega, by omega, rfl, nI_1 j, by rw [fl, ← hq]; exact (fT_2 (by omega) (dm1 hd1 (gj_in (by omega) hj1 c_56) h64 c_73) hr_3 c_92).symm⟩) hP hD hS (lv_sub hl [2, 3, 4, 5, 0] rfl)
                · refine lv_aload_n hx hb d_T_fill_95 rfl (lv_at hl 1 rfl) ?_
                  refine va_get (D := D) (ci := 7) (v := .ref dT) (C := Q_T) (T := F_T) (N := 17) hx hb hg in_T hown hK hP 0 rfl rfl 2 (by decide) (hg _ g_641) (fun _ h9 => h9) rfl d_T_fill_96 ?_
                  refine lv_iload hx hb d_T_fill_99 (lv_at hl 5 rfl) ?_
                  refine lv_aload_n hx hb d_T_fill_101 rfl (lv_at hl 1 rfl) ?_
                  refine va_get (D := D) (ci := 7) (v := .ref dT) (C := Q_T) (T := F_T) (N := 17) hx hb hg in_T hown hK hP 0 rfl rfl 2 (by decide) (hg _ g_641) (fun _ h9 => h9) rfl d_T_fill_102 ?_
                  refine lv_iload hx hb d_T_fill_105 (lv_at hl 0 rfl) ?_
                  refine va_iald hx hb hK hP 1 0 rfl rfl (v64h h64 (fT_h hr_3 c_92)) d_T_fill_107 ?_
                  refine va_iast hx hb hK hP hD hS 1 0 rfl rfl (v64 h64 (gj_in (by omega) hj1 c_56)) d_T_fill_108 (fun H locs hP hD hS => ?_)
                  rw [nI_clamp (show j < 2 ^ 31 by omega)] at hP hD
                  have hP : va_P D cls [(o, .inr (7, [.int 0, .int (nI n), .ref dT, .ref gT, .int (nI ns), .ref la, .ref ca, .int (nI nn), .ref aa, .ref na, .ref ya, .int (nI nr), .ref ta, .int be, .int bp, .long bo, .int bm])), (dT, .inl (cI, 64, .inl (upd d1 j (d1 r_3.toNatClampNeg)))), (gT, .inl (cZ, 64, .inl g1)), (la, .inl (cI, 8, .inl sl)), (ca, .inl (cI, 128, .inl cr)), (aa, .inl (cI, 16, .inl ak)), (na, .inl (cI, 16, .inl no)), (ya, .inl (cI, 16, .inl ye)), (ta, .inl (cI, 48, .inl tl))] H := hP
                  have hD : va_D A [(o, .inr (7, [.int 0, .int (nI n), .ref dT, .ref gT, .int (nI ns), .ref la, .ref ca, .int (nI nn), .ref aa, .ref na, .ref ya, .int (nI nr), .ref ta, .int be, .int bp, .long bo, .int bm])), (dT, .inl (cI, 64, .inl (upd d1 j (d1 r_3.toNatClampNeg)))), (gT, .inl (cZ, 64, .inl g1)), (la, .inl (cI, 8, .inl sl)), (ca, .inl (cI, 128, .inl cr)), (aa, .inl (cI, 16, .inl ak)), (na, .inl (cI, 16, .inl no)), (ya, .inl (cI, 16, .inl ye)), (ta, .inl (cI, 48, .inl tl))] := hD
                  refine lv_aload_n hx hb d_T_fill_109 rfl (lv_at hl 1 rfl) ?_
                  refine va_get (D := D) (ci := 7) (v := .ref gT) (C := Q_T) (T := F_T) (N := 17) hx hb hg in_T hown hK hP 0 rfl rfl 3 (by decide) (hg _ g_642) (fun _ h9 => h9) rfl d_T_fill_110 ?_
                  refine lv_iload hx hb d_T_fill_113 (lv_at hl 5 rfl) ?_
                  refine lv_iconst (v := 1) hx hb d_T_fill_115 (by decide) ?_
                  refine va_zast hx hb hK hP hD hS 2 1 rfl rfl (v64 h64 (gj_in (by omega) hj1 c_56)) d_T_fill_116 (fun H locs hP hD hS => ?_)
                  rw [nI_clamp (show j < 2 ^ 31 by omega)] at hP hD
                  have hP : va_P D cls [(o, .inr (7, [.int 0, .int (nI n), .ref dT, .ref gT, .int (nI ns), .ref la, .ref ca, .int (nI nn), .ref aa, .ref na, .ref ya, .int (nI nr), .ref ta, .int be, .int bp, .long bo, .int bm])), (dT, .inl (cI, 64, .inl (upd d1 j (d1 r_3.toNatClampNeg)))), (gT, .inl (cZ, 64, .inl (upd g1 j 1))), (la, .inl (cI, 8, .inl sl)), (ca, .inl (cI, 128, .inl cr)), (aa, .inl (cI, 16, .inl ak)), (na, .inl (cI, 16, .inl no)), (ya, .inl (cI, 16, .inl ye)), (ta, .inl (cI, 48, .inl tl))] H := hP
                  have hD : va_D A [(o, .inr (7, [.int 0, .int (nI n), .ref dT, .ref gT, .int (nI ns), .ref la, .ref ca, .int (nI nn), .ref aa, .ref na, .ref ya, .int (nI nr), .ref ta, .int be, .int bp, .long bo, .int bm])), (dT, .inl (cI, 64, .inl (upd d1 j (d1 r_3.toNatClampNeg)))), (gT, .inl (cZ, 64, .inl (upd g1 j 1))), (la, .inl (cI, 8, .inl sl)), (ca, .inl (cI, 128, .inl cr)), (aa, .inl (cI, 16, .inl ak)), (na, .inl (cI, 16, .inl no)), (ya, .inl (cI, 16, .inl ye)), (ta, .inl (cI, 48, .inl tl))] := hD
                  refine lv_iinc (v := (nI c1) + 1) (lv' := [(3, .int ((nI c1) + 1)), (5, .int r_3), (0, .ref o), (1, .int (nI S)), (2, .int a), (4, .int (nI j))]) hx hb d_T_fill_117 hl (k := 4) rfl rfl (by decide) rfl (fun ls hl => ?_)
                  refine lv_iinc (v := (nI j) + 1) (lv' := [(4, .int ((nI j) + 1)), (3, .int ((nI c1) + 1)), (5, .int r_3), (0, .ref o), (1, .int (nI S)), (2, .int a)]) hx hb d_T_fill_120 hl (k := 5) rfl rfl (by decide) rfl (fun ls hl => ?_)
                  refine lv_goto (tgt := 50) hx hb d_T_fill_123 (by decide) ?_
                  exact ih50 (j + 1) (upd d1 j (d1 r_3.toNatClampNeg)) (upd g1 j 1) (c1 + 1) ((nI c1) + 1) ((nI j) + 1) _ _ ls (⟨by have := gj_in (by omega) hj1 c_56; omega, by omega, nI_1 c1, nI_1 j, by rw [fl, ← hq]; exact (fs_3 (by omega) (dm1 hd1 (gj_in (by omega) hj1 c_56) h64 c_73) hr_3 (fT_h hr_3 c_92)).symm⟩) hP hD hS (lv_sub hl [3, 4, 5, 1, 0] rfl)
      exact loop_50 (n + 1) 0 d g 0 0 0 _ _ ls (⟨by omega, by omega, rfl, rfl, rfl⟩) hP hD hS (lv_sub hl [2, 3, 4, 1, 0] rfl)
    · refine lv_iconst (v := 1) hx hb d_T_fill_37 (by decide) ?_
      refine lv_goto (tgt := 42) hx hb d_T_fill_38 (by decide) ?_
      refine va_put (D := D) (ci := 7) (v := .int 1) (ty := .int) (C := Q_T) (T := F_T) (N := 17) hx hb hg in_T tq_T tq_T_ok n_T hown hK hP hD hS 0 rfl rfl 0 (by decide) (hg _ g_639) (fun _ h9 => h9) rfl (by decide +kernel) rfl rfl (Nat.le_of_ble_eq_true rfl) d_T_fill_42 (fun H locs hP hD hS => ?_)
      have hP : va_P D cls [(o, .inr (7, [.int 1, .int (nI n), .ref dT, .ref gT, .int (nI ns), .ref la, .ref ca, .int (nI nn), .ref aa, .ref na, .ref ya, .int (nI nr), .ref ta, .int be, .int bp, .long bo, .int bm])), (dT, .inl (cI, 64, .inl d)), (gT, .inl (cZ, 64, .inl g)), (la, .inl (cI, 8, .inl sl)), (ca, .inl (cI, 128, .inl cr)), (aa, .inl (cI, 16, .inl ak)), (na, .inl (cI, 16, .inl no)), (ya, .inl (cI, 16, .inl ye)), (ta, .inl (cI, 48, .inl tl))] H := hP
      have hD : va_D A [(o, .inr (7, [.int 1, .int (nI n), .ref dT, .ref gT, .int (nI ns), .ref la, .ref ca, .int (nI nn), .ref aa, .ref na, .ref ya, .int (nI nr), .ref ta, .int be, .int bp, .long bo, .int bm])), (dT, .inl (cI, 64, .inl d)), (gT, .inl (cZ, 64, .inl g)), (la, .inl (cI, 8, .inl sl)), (ca, .inl (cI, 128, .inl cr)), (aa, .inl (cI, 16, .inl ak)), (na, .inl (cI, 16, .inl no)), (ya, .inl (cI, 16, .inl ye)), (ta, .inl (cI, 48, .inl tl))] := hD
      refine lv_iconst (v := 0) hx hb d_T_fill_45 (by decide) ?_
      refine lv_istore_n (lv' := [(3, .int 0), (0, .ref o), (1, .int s9), (2, .int a)]) hx hb d_T_fill_46 rfl hl (by decide) rfl (fun ls hl => ?_)
      refine lv_iconst (v := 0) hx hb d_T_fill_47 (by decide) ?_
      refine lv_istore (lv' := [(4, .int 0), (3, .int 0), (0, .ref o), (1, .int s9), (2, .int a)]) hx hb d_T_fill_48 hl (by decide) rfl (fun ls hl => ?_)
      refine lv_iload hx hb d_T_fill_50 (lv_at hl 0 rfl) ?_
      refine lv_aload_n hx hb d_T_fill_52 rfl (lv_at hl 2 rfl) ?_
      refine va_get (D := D) (ci := 7) (v := .int (nI n)) (C := Q_T) (T := F_T) (N := 17) hx hb hg in_T hown hK hP 0 rfl rfl 1 (by decide) (hg _ g_640) (fun _ h9 => h9) rfl d_T_fill_53 ?_
      refine lv_icmp_ge (tgt := 126) hx hb d_T_fill_56 (by decide) (fun c_56 => ?_) (fun c_56 => ?_)
      · exact absurd (gj_out (n := n) (j := 0) (by omega) (by omega) c_56) (by omega)
      · refine lv_aload_n hx hb d_T_fill_59 rfl (lv_at hl 2 rfl) ?_
        refine va_get (D := D) (ci := 7) (v := .int 1) (C := Q_T) (T := F_T) (N := 17) hx hb hg in_T hown hK hP 0 rfl rfl 0 (by decide) (hg _ g_639) (fun _ h9 => h9) rfl d_T_fill_60 ?_
        refine lv_if_ne (tgt := 126) hx hb d_T_fill_63 (by decide) (fun c_63 => ?_) (fun c_63 => ?_)
        · refine lv_iload_n hx hb d_T_fill_126 rfl (lv_at hl 1 rfl) ?_
          exact W.iret hx hb hr (fun t9 ht hW => ⟨⟨_, [(o, .inr (7, [.int 1, .int (nI n), .ref dT, .ref gT, .int (nI ns), .ref la, .ref ca, .int (nI nn), .ref aa, .ref na, .ref ya, .int (nI nr), .ref ta, .int be, .int bp, .long bo, .int bm])), (dT, .inl (cI, 64, .inl d)), (gT, .inl (cZ, 64, .inl g)), (la, .inl (cI, 8, .inl sl)), (ca, .inl (cI, 128, .inl cr)), (aa, .inl (cI, 16, .inl ak)), (na, .inl (cI, 16, .inl no)), (ya, .inl (cI, 16, .inl ye)), (ta, .inl (cI, 48, .inl tl))], rfl, ⟨by unfold fil; (first | rw [cf_1 c_14] | rw [cf_2 c_34]); rfl, fun h => absurd h (by first | (rw [cf_1 c_14]; decide) | (rw [cf_2 c_34]; decide))⟩, by rw [ht]; exact hP, va_K.moved hW.alike hK, hD⟩, hS.F ht⟩) hS.2.2 d_T_fill_127
        · exact absurd c_63 (by decide)
