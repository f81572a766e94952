
def absT (x : Int32) : Int32 := if 0 ≤ x then x else -x
/-- the MISS of a shape f at p, its first j places, by the reference -/
def misL (n : Nat) (d f : Nat → Int32) (p : Nat) : Nat → Int64
  | 0 => 0
  | j + 1 => misL n d f p j + (if dpt n d ((p : Int) + j) = -1 then 0 else (absT (dpt n d ((p : Int) + j) - f j)).toInt64)
theorem dpt_off {n : Nat} {d : Nat → Int32} {x : Int} (h : (n : Int) ≤ x) : dpt n d x = -1 := by
  rw [dpt, if_neg (by rw [hs_iff]; omega)]
theorem cv_off {n : Nat} {d : Nat → Int32} {p j : Nat} (h : n ≤ p + j) : ∀ k, cv n d p (j + k) = cv n d p j
  | 0 => rfl
  | k + 1 => by rw [← Nat.add_assoc, cv, if_pos (dpt_off (by omega)), Nat.add_zero, cv_off h k]
theorem mi_off {n : Nat} {d f : Nat → Int32} {p j : Nat} (h : n ≤ p + j) : ∀ k, misL n d f p (j + k) = misL n d f p j
  | 0 => rfl
  | k + 1 => by rw [← Nat.add_assoc, misL, if_pos (dpt_off (by omega)), Int64.add_zero, mi_off h k]
theorem pj_c {n p j : Nat} (h64 : n ≤ 64) (h : p + j < n) : (nI p + nI j).toNatClampNeg = p + j := by rw [nI_add, nI_clamp (by omega)]
theorem pj_in {n p j L : Nat} (h64 : n ≤ 64) (hp : p < n) (hj : j ≤ L) (hL : L ≤ 16) (c : ¬ nI n ≤ nI p + nI j) : p + j < n := by
  rcases Nat.lt_or_ge (p + j) n with q | q
  · exact q
  · exact absurd (by rw [nI_add]; exact nI_le q (by omega)) c
theorem pj_out {n p j L : Nat} (h64 : n ≤ 64) (hp : p < n) (hj : j ≤ L) (hL : L ≤ 16) (c : nI n ≤ nI p + nI j) : n ≤ p + j := by
  rw [nI_add] at c
  exact (nI_leI (by omega) (by omega)).mp c
theorem v64p {n p j : Nat} (h64 : n ≤ 64) (h : p + j < n) : vp_in (nI p + nI j) 64 := by rw [nI_add]; exact vp_in_nI (by omega) (by decide)
theorem dpt_pj {n : Nat} {d : Nat → Int32} {p j : Nat} (h64 : n ≤ 64) (h : p + j < n) : d (nI p + nI j).toNatClampNeg = dpt n d ((p : Int) + j) := by
  rw [pj_c h64 h, show ((p : Int) + (j : Int)) = ((p + j : Nat) : Int) by omega, dpt_in h]
theorem dneg {n : Nat} {d : Nat → Int32} {p j : Nat} (hd : dOK n d) (h64 : n ≤ 64) (h : p + j < n) (c : d (nI p + nI j).toNatClampNeg < 0) : dpt n d ((p : Int) + j) = -1 := by
  rw [← dpt_pj h64 h]
  rw [pj_c h64 h] at c ⊢
  rw [ilt, i0] at c
  exact ieq.mpr (by rw [im1]; have := hd _ h; omega)
theorem dpos {n : Nat} {d : Nat → Int32} {p j : Nat} (h64 : n ≤ 64) (h : p + j < n) (c : ¬ d (nI p + nI j).toNatClampNeg < 0) : ¬ dpt n d ((p : Int) + j) = -1 := by
  rw [← dpt_pj h64 h]
  intro e; rw [e] at c; exact c (by decide)
theorem cvT_1 {n : Nat} {d : Nat → Int32} {p j : Nat} (h : dpt n d ((p : Int) + j) = -1) : nI (cv n d p j) = nI (cv n d p (j + 1)) := by rw [cv, if_pos h, Nat.add_zero]
theorem cvT_2 {n : Nat} {d : Nat → Int32} {p j : Nat} (h : ¬ dpt n d ((p : Int) + j) = -1) : nI (cv n d p j) + 1 = nI (cv n d p (j + 1)) := by rw [cv, if_neg h, nI_1]
theorem miT_1 {n : Nat} {d f : Nat → Int32} {p j : Nat} (h : dpt n d ((p : Int) + j) = -1) : misL n d f p j = misL n d f p (j + 1) := by rw [misL, if_pos h, Int64.add_zero]
theorem miT_2 {n : Nat} {d f : Nat → Int32} {p j : Nat} {x : Int32} (h : ¬ dpt n d ((p : Int) + j) = -1) (h64 : n ≤ 64) (hp : p + j < n) (hx : x = d (nI p + nI j).toNatClampNeg - f j) (h0 : 0 ≤ x) : misL n d f p j + x.toInt64 = misL n d f p (j + 1) := by
  rw [misL, if_neg h, ← dpt_pj h64 hp, ← hx, absT, if_pos h0]
theorem miT_3 {n : Nat} {d f : Nat → Int32} {p j : Nat} {x : Int32} (h : ¬ dpt n d ((p : Int) + j) = -1) (h64 : n ≤ 64) (hp : p + j < n) (hx : x = d (nI p + nI j).toNatClampNeg - f j) (h0 : ¬ 0 ≤ x) : misL n d f p j + (-x).toInt64 = misL n d f p (j + 1) := by
  rw [misL, if_neg h, ← dpt_pj h64 hp, ← hx, absT, if_neg h0]
abbrev M4 : Type := Int32 × Int32 × Int64 × Int32
/-- one place of one shape in the reference's search -/
def mt1 (n : Nat) (d f : Nat → Int32) (L s p : Nat) (t : M4) : M4 := if nI L ≤ 2 * nI (cv n d p L) ∧ (decide (t.1 = -1) || btL t.2.2.1 t.2.2.2 (misL n d f p L) (nI (cv n d p L))) = true then (nI s, nI p, misL n d f p L, nI (cv n d p L)) else t
def mtP (n : Nat) (d f : Nat → Int32) (L s : Nat) (t : M4) : Nat → M4
  | 0 => t
  | p + 1 => mt1 n d f L s p (mtP n d f L s t p)
def mtS (n : Nat) (d sl cr : Nat → Int32) (t : M4) : Nat → M4
  | 0 => t
  | s + 1 => mtP n d (fun j => cr (16 * s + j)) (sl s).toNatClampNeg s (mtS n d sl cr t s) n
theorem m1_1 {n : Nat} {d f : Nat → Int32} {L s p : Nat} {t : M4} (h : 2 * nI (cv n d p L) < nI L) : mt1 n d f L s p t = t := if_neg (fun q => by rw [ilt] at h; have := q.1; rw [ile] at this; omega)
theorem m1_2 {n : Nat} {d f : Nat → Int32} {L s p : Nat} {a b c : Int32} {o : Int64} (h : bI (decide (a = -1) || btL o c (misL n d f p L) (nI (cv n d p L))) = 0) : mt1 n d f L s p (a, b, o, c) = (a, b, o, c) := if_neg (fun q => by have := q.2; rw [bI_eq0 h] at this; cases this)
theorem m1_3 {n : Nat} {d f : Nat → Int32} {L s p : Nat} {a b c : Int32} {o : Int64} (h0 : ¬ 2 * nI (cv n d p L) < nI L) (h : ¬ bI (decide (a = -1) || btL o c (misL n d f p L) (nI (cv n d p L))) = 0) : mt1 n d f L s p (a, b, o, c) = (nI s, nI p, misL n d f p L, nI (cv n d p L)) := if_pos ⟨by rw [ile]; rw [ilt] at h0; omega, bI_ne0 h⟩
theorem slL {x : Int32} (h : 2 ≤ x.toInt ∧ x.toInt ≤ 16) : ∃ L : Nat, x = nI L ∧ 2 ≤ L ∧ L ≤ 16 := ⟨x.toInt.toNat, nat_of (by omega), by omega, by omega⟩
def cMat (be w : Int32) : Int32 := if be = -1 then 1 else if iw w 0 3 then 0 else 2
theorem cx_1 {be w : Int32} (h : be = -1) : cMat be w = 1 := if_pos h
theorem cx_2 {be w : Int32} (h : ¬ be = -1) (h1 : bI (iw w 0 3) = 0) : cMat be w = 2 := by rw [cMat, if_neg h, bI_eq0 h1]; rfl
theorem cx_0 {be w : Int32} (h : ¬ be = -1) (h1 : ¬ bI (iw w 0 3) = 0) : cMat be w = 0 := by rw [cMat, if_neg h, bI_ne0 h1]; rfl
def aMat (t : M4) (w : Int32) : Int32 := if w = 0 then t.1 else if w = 1 then t.2.1 else if w = 2 then t.2.2.1.toInt32 else t.2.2.2
/-- so many places: the nearest of 4 .. 64 -/
def ncl (k : Int32) : Nat := if k < 4 then 4 else if 64 < k then 64 else k.toNatClampNeg
theorem ncl_1 {k : Int32} (h : ¬ 4 ≤ k) : 4 = nI (ncl k) := by
  rw [ncl, if_pos (by rw [ilt]; rw [ile] at h; omega)]; rfl
theorem ncl_2 {k : Int32} (h : 4 ≤ k) (h1 : ¬ k ≤ 64) : 64 = nI (ncl k) := by
  rw [ncl, if_neg (by rw [ilt]; rw [ile] at h; omega), if_pos (by rw [ilt]; rw [ile] at h1; omega)]; rfl
theorem ncl_3 {k : Int32} (h : 4 ≤ k) (h1 : k ≤ 64) : k = nI (ncl k) := by
  have a := ile.mp h; have b := ile.mp h1
  have e4 : (4 : Int32).toInt = 4 := rfl
  have e64 : (64 : Int32).toInt = 64 := rfl
  rw [ncl, if_neg (by rw [ilt]; omega), if_neg (by rw [ilt]; omega)]
  exact nat_of (by omega)
theorem ncl_b (k : Int32) : 4 ≤ ncl k ∧ ncl k ≤ 64 := by
  have e4 : (4 : Int32).toInt = 4 := rfl
  have e64 : (64 : Int32).toInt = 64 := rfl
  unfold ncl
  split
  · omega
  · next h =>
    split
    · omega
    · next h1 =>
      rw [ilt] at h h1
      show 4 ≤ k.toInt.toNat ∧ k.toInt.toNat ≤ 64
      omega
theorem i64 {j : Nat} (hj : j ≤ 64) (c : ¬ (64 : Int32) ≤ nI j) : j < 64 := by
  rcases Nat.lt_or_ge j 64 with q | q
  · exact q
  · exact absurd (show nI 64 ≤ nI j from nI_le q (by omega)) c
theorem o64 {j : Nat} (hj : j ≤ 64) (c : (64 : Int32) ≤ nI j) : j = 64 := by
  have := (nI_leI (a := 64) (b := j) (by omega) (by omega)).mp c
  omega

set_option maxHeartbeats 4000000 in
set_option maxRecDepth 100000 in
/-- the reference: findMatch() -/
theorem c_T_findMatch_ok (l : Launch) (D : va_G) (cI cZ cJ cO : ClassId) (sz : Nat) (o dT gT la ca aa na ya ta : Nat) (n ns nn nr : Nat) (d g sl cr ak no ye tl : Nat → Int32) (th be bp bm : Int32) (bo : Int64) (h4 : 4 ≤ n) (h64 : n ≤ 64) (hd : dOK n d) (hns : ns ≤ 8) (hsl : ∀ i, i < ns → 2 ≤ (sl i).toInt ∧ (sl i).toInt ≤ 16) : Met l y_T_findMatch (wq y_T_findMatch c_T_findMatch 8 none) ({ frames := 1, cells := 0, slots := 0, locals := 27 }) (mP D (TY cI cZ cJ cO) [(o, .inr (7, [.int th, .int (nI n), .ref dT, .ref gT, .int (nI ns), .ref la, .ref ca, .int (nI nn), .ref aa, .ref na, .ref ya, .int (nI nr), .ref ta, .int be, .int bp, .long bo, .int bm])), (dT, .inl (cI, 64, .inl d)), (gT, .inl (cZ, 64, .inl g)), (la, .inl (cI, 8, .inl sl)), (ca, .inl (cI, 128, .inl cr)), (aa, .inl (cI, 16, .inl ak)), (na, .inl (cI, 16, .inl no)), (ya, .inl (cI, 16, .inl ye)), (ta, .inl (cI, 48, .inl tl))] [.ref o] sz) (va_Qv (fun (u : va_W) => u = [(o, .inr (7, [.int th, .int (nI n), .ref dT, .ref gT, .int (nI ns), .ref la, .ref ca, .int (nI nn), .ref aa, .ref na, .ref ya, .int (nI nr), .ref ta, .int ((mtS n d sl cr (-1, bp, bo, bm) ns).1), .int ((mtS n d sl cr (-1, bp, bo, bm) ns).2.1), .long ((mtS n d sl cr (-1, bp, bo, bm) ns).2.2.1), .int ((mtS n d sl cr (-1, bp, bo, bm) ns).2.2.2)])), (dT, .inl (cI, 64, .inl d)), (gT, .inl (cZ, 64, .inl g)), (la, .inl (cI, 8, .inl sl)), (ca, .inl (cI, 128, .inl cr)), (aa, .inl (cI, 16, .inl ak)), (na, .inl (cI, 16, .inl no)), (ya, .inl (cI, 16, .inl ye)), (ta, .inl (cI, 48, .inl tl))]) (mB D (TY cI cZ cJ cO) (va_A [(o, .inr (7, [.int th, .int (nI n), .ref dT, .ref gT, .int (nI ns), .ref la, .ref ca, .int (nI nn), .ref aa, .ref na, .ref ya, .int (nI nr), .ref ta, .int be, .int bp, .long bo, .int bm])), (dT, .inl (cI, 64, .inl d)), (gT, .inl (cZ, 64, .inl g)), (la, .inl (cI, 8, .inl sl)), (ca, .inl (cI, 128, .inl cr)), (aa, .inl (cI, 16, .inl ak)), (na, .inl (cI, 16, .inl no)), (ya, .inl (cI, 16, .inl ye)), (ta, .inl (cI, 48, .inl tl))] sz)) (va_A [(o, .inr (7, [.int th, .int (nI n), .ref dT, .ref gT, .int (nI ns), .ref la, .ref ca, .int (nI nn), .ref aa, .ref na, .ref ya, .int (nI nr), .ref ta, .int be, .int bp, .long bo, .int bm])), (dT, .inl (cI, 64, .inl d)), (gT, .inl (cZ, 64, .inl g)), (la, .inl (cI, 8, .inl sl)), (ca, .inl (cI, 128, .inl cr)), (aa, .inl (cI, 16, .inl ak)), (na, .inl (cI, 16, .inl no)), (ya, .inl (cI, 16, .inl ye)), (ta, .inl (cI, 48, .inl tl))] sz)) 0 0 (va_A [(o, .inr (7, [.int th, .int (nI n), .ref dT, .ref gT, .int (nI ns), .ref la, .ref ca, .int (nI nn), .ref aa, .ref na, .ref ya, .int (nI nr), .ref ta, .int be, .int bp, .long bo, .int bm])), (dT, .inl (cI, 64, .inl d)), (gT, .inl (cZ, 64, .inl g)), (la, .inl (cI, 8, .inl sl)), (ca, .inl (cI, 128, .inl cr)), (aa, .inl (cI, 16, .inl ak)), (na, .inl (cI, 16, .inl no)), (ya, .inl (cI, 16, .inl ye)), (ta, .inl (cI, 48, .inl tl))] sz) := by
  refine Met.ofW (cc := c_T_findMatch) (maxL := 8) (ret := none) (by decide) rfl ?_
  intro p e s m args below meth c s₁ B hml hv
  obtain ⟨rfl, hsz, hP, hK, hD0, hN⟩ := hv
  have hx := B.exec
  have hb := B.bytes
  have hr := B.returns
  have hg := gt_h (atoms_spec (ws := (wq y_T_findMatch c_T_findMatch 8 none)) B.pre)
  have hown : s.vm.findClass "RubbingMirrorsModel" = some m.cls := findClass_of_methodNamed B.named
  have hlocks := B.notSynchronized
  subst hsz
  have hD := hD0.self (sz := s.heap.size)
  generalize hAe : va_A [(o, .inr (7, [.int th, .int (nI n), .ref dT, .ref gT, .int (nI ns), .ref la, .ref ca, .int (nI nn), .ref aa, .ref na, .ref ya, .int (nI nr), .ref ta, .int be, .int bp, .long bo, .int bm])), (dT, .inl (cI, 64, .inl d)), (gT, .inl (cZ, 64, .inl g)), (la, .inl (cI, 8, .inl sl)), (ca, .inl (cI, 128, .inl cr)), (aa, .inl (cI, 16, .inl ak)), (na, .inl (cI, 16, .inl no)), (ya, .inl (cI, 16, .inl ye)), (ta, .inl (cI, 48, .inl tl))] s.heap.size = A at hD ⊢
  have hA : ∀ q : Nat, s.heap.size ≤ q → A q := fun q h => by rw [← hAe]; exact Or.inr h
  have hS : va_S A s.heap s.heap [] := va_S.rf
  have hl := lv_entry ([.ref o]) (n := 8) (Nat.le_of_ble_eq_true rfl)
  rw [lg_entry_eq]
  generalize (lg_sl ([.ref o]) ++ List.replicate (8 - (lg_sl ([.ref o])).length) Slot.unset).toArray = ls at hl ⊢
  have hl : lv_has ls 8 [(0, .ref o)] := hl
  refine lv_aload_n hx hb d_T_findMatch_0 rfl (lv_at hl 0 rfl) ?_
  refine lv_iconst (v := (-1)) hx hb d_T_findMatch_1 (by decide) ?_
  refine va_put (D := D) (ci := 7) (v := .int (-1)) (ty := .int) (C := Q_T) (T := F_T) (N := 17) hx hb hg in_T tq_T tq_T_ok n_T hown hK hP hD hS 0 rfl rfl 13 (by decide) (hg _ g_652) (fun _ h9 => h9) rfl (by decide +kernel) rfl rfl (Nat.le_of_ble_eq_true rfl) d_T_findMatch_2 (fun H locs hP hD hS => ?_)
  have hP : va_P D cls [(o, .inr (7, [.int th, .int (nI n), .ref dT, .ref gT, .int (nI ns), .ref la, .ref ca, .int (nI nn), .ref aa, .ref na, .ref ya, .int (nI nr), .ref ta, .int (-1), .int bp, .long bo, .int bm])), (dT, .inl (cI, 64, .inl d)), (gT, .inl (cZ, 64, .inl g)), (la, .inl (cI, 8, .inl sl)), (ca, .inl (cI, 128, .inl cr)), (aa, .inl (cI, 16, .inl ak)), (na, .inl (cI, 16, .inl no)), (ya, .inl (cI, 16, .inl ye)), (ta, .inl (cI, 48, .inl tl))] H := hP
  have hD : va_D A [(o, .inr (7, [.int th, .int (nI n), .ref dT, .ref gT, .int (nI ns), .ref la, .ref ca, .int (nI nn), .ref aa, .ref na, .ref ya, .int (nI nr), .ref ta, .int (-1), .int bp, .long bo, .int bm])), (dT, .inl (cI, 64, .inl d)), (gT, .inl (cZ, 64, .inl g)), (la, .inl (cI, 8, .inl sl)), (ca, .inl (cI, 128, .inl cr)), (aa, .inl (cI, 16, .inl ak)), (na, .inl (cI, 16, .inl no)), (ya, .inl (cI, 16, .inl ye)), (ta, .inl (cI, 48, .inl tl))] := hD
  refine lv_iconst (v := 0) hx hb d_T_findMatch_5 (by decide) ?_
  refine lv_istore_n (lv' := [(1, .int 0), (0, .ref o)]) hx hb d_T_findMatch_6 rfl hl (by decide) rfl (fun ls hl => ?_)
  have loop_7 : ∀ (f7 : Nat) (a : Nat) (be1 bp1 bm1 : Int32) (bo1 : Int64) (x1 : Int32) (H : Heap) (locs : List Loc) (ls : Array Slot), (a ≤ ns ∧ ns < a + f7 ∧ x1 = nI a ∧ (be1, bp1, bo1, bm1) = mtS n d sl cr (-1, bp, bo, bm) a) → va_P D cls [(o, .inr (7, [.int th, .int (nI n), .ref dT, .ref gT, .int (nI ns), .ref la, .ref ca, .int (nI nn), .ref aa, .ref na, .ref ya, .int (nI nr), .ref ta, .int be1, .int bp1, .long bo1, .int bm1])), (dT, .inl (cI, 64, .inl d)), (gT, .inl (cZ, 64, .inl g)), (la, .inl (cI, 8, .inl sl)), (ca, .inl (cI, 128, .inl cr)), (aa, .inl (cI, 16, .inl ak)), (na, .inl (cI, 16, .inl no)), (ya, .inl (cI, 16, .inl ye)), (ta, .inl (cI, 48, .inl tl))] H → va_D A [(o, .inr (7, [.int th, .int (nI n), .ref dT, .ref gT, .int (nI ns), .ref la, .ref ca, .int (nI nn), .ref aa, .ref na, .ref ya, .int (nI nr), .ref ta, .int be1, .int bp1, .long bo1, .int bm1])), (dT, .inl (cI, 64, .inl d)), (gT, .inl (cZ, 64, .inl g)), (la, .inl (cI, 8, .inl sl)), (ca, .inl (cI, 128, .inl cr)), (aa, .inl (cI, 16, .inl ak)), (na, .inl (cI, 16, .inl no)), (ya, .inl (cI, 16, .inl ye)), (ta, .inl (cI, 48, .inl tl))] → va_S A s.heap H locs → lv_has ls 8 [(0, .ref o), (1, .int x1)] → W p l e (headSpec (wq y_T_findMatch c_T_findMatch 8 none) ({ frames := 1, cells := 0, slots := 0, locals := 27 })).room s m ([.ref o] : List Value).toArray below meth c H locs 0 0 (MQ below (va_Qv (fun (u : va_W) => u = [(o, .inr (7, [.int th, .int (nI n), .ref dT, .ref gT, .int (nI ns), .ref la, .ref ca, .int (nI nn), .ref aa, .ref na, .ref ya, .int (nI nr), .ref ta, .int ((mtS n d sl cr (-1, bp, bo, bm) ns).1), .int ((mtS n d sl cr (-1, bp, bo, bm) ns).2.1), .long ((mtS n d sl cr (-1, bp, bo, bm) ns).2.2.1), .int ((mtS n d sl cr (-1, bp, bo, bm) ns).2.2.2)])), (dT, .inl (cI, 64, .inl d)), (gT, .inl (cZ, 64, .inl g)), (la, .inl (cI, 8, .inl sl)), (ca, .inl (cI, 128, .inl cr)), (aa, .inl (cI, 16, .inl ak)), (na, .inl (cI, 16, .inl no)), (ya, .inl (cI, 16, .inl ye)), (ta, .inl (cI, 48, .inl tl))]) (mB D (TY cI cZ cJ cO) A) A) ([.ref o] : List Value).toArray s 0 0 A) (F0 m 7 ls []) := by
    intro f7
    induction f7 with
    | zero =>
      intro a be1 bp1 bm1 bo1 x1 H locs ls hI hP hD hS hl
      obtain ⟨ha1, ha2, rfl, hq1⟩ := hI
      omega
    | succ f7 ih7 =>
      intro a be1 bp1 bm1 bo1 x1 H locs ls hI hP hD hS hl
      obtain ⟨ha1, ha2, rfl, hq1⟩ := hI
      refine lv_iload_n hx hb d_T_findMatch_7 rfl (lv_at hl 1 rfl) ?_
      refine lv_aload_n hx hb d_T_findMatch_8 rfl (lv_at hl 0 rfl) ?_
      refine va_get (D := D) (ci := 7) (v := .int (nI ns)) (C := Q_T) (T := F_T) (N := 17) hx hb hg in_T hown hK hP 0 rfl rfl 4 (by decide) (hg _ g_643) (fun _ h9 => h9) rfl d_T_findMatch_9 ?_
      refine lv_icmp_ge (tgt := 173) hx hb d_T_findMatch_12 (by decide) (fun c_12 => ?_) (fun c_12 => ?_)
      · exact W.vret hx hb hr (fun t9 ht hW => ⟨⟨[(o, .inr (7, [.int th, .int (nI n), .ref dT, .ref gT, .int (nI ns), .ref la, .ref ca, .int (nI nn), .ref aa, .ref na, .ref ya, .int (nI nr), .ref ta, .int be1, .int bp1, .long bo1, .int bm1])), (dT, .inl (cI, 64, .inl d)), (gT, .inl (cZ, 64, .inl g)), (la, .inl (cI, 8, .inl sl)), (ca, .inl (cI, 128, .inl cr)), (aa, .inl (cI, 16, .inl ak)), (na, .inl (cI, 16, .inl no)), (ya, .inl (cI, 16, .inl ye)), (ta, .inl (cI, 48, .inl tl))], rfl, (by dsimp only; rw [gj_out (by omega) ha1 c_12] at hq1; rw [← hq1]), by rw [ht]; exact hP, va_K.moved hW.alike hK, hD⟩, hS.F ht⟩) hS.2.2 d_T_findMatch_173
      · have ha3 := gj_in (by omega) ha1 c_12
        obtain ⟨L, hL, hL2, hL16⟩ := slL (hsl a ha3)
        refine lv_iconst (v := 0) hx hb d_T_findMatch_15 (by decide) ?_
        refine lv_istore_n (lv' := [(2, .int 0), (0, .ref o), (1, .int (nI a))]) hx hb d_T_findMatch_16 rfl hl (by decide) rfl (fun ls hl => ?_)
        have loop_17 : ∀ (f17 : Nat) (b : Nat) (be2 bp2 bm2 : Int32) (bo2 : Int64) (x2 : Int32) (H : Heap) (locs : List Loc) (ls : Array Slot), (b ≤ n ∧ n < b + f17 ∧ x2 = nI b ∧ (be2, bp2, bo2, bm2) = mtP n d (fun j => cr (16 * a + j)) L a (mtS n d sl cr (-1, bp, bo, bm) a) b) → va_P D cls [(o, .inr (7, [.int th, .int (nI n), .ref dT, .ref gT, .int (nI ns), .ref la, .ref ca, .int (nI nn), .ref aa, .ref na, .ref ya, .int (nI nr), .ref ta, .int be2, .int bp2, .long bo2, .int bm2])), (dT, .inl (cI, 64, .inl d)), (gT, .inl (cZ, 64, .inl g)), (la, .inl (cI, 8, .inl sl)), (ca, .inl (cI, 128, .inl cr)), (aa, .inl (cI, 16, .inl ak)), (na, .inl (cI, 16, .inl no)), (ya, .inl (cI, 16, .inl ye)), (ta, .inl (cI, 48, .inl tl))] H → va_D A [(o, .inr (7, [.int th, .int (nI n), .ref dT, .ref gT, .int (nI ns), .ref la, .ref ca, .int (nI nn), .ref aa, .ref na, .ref ya, .int (nI nr), .ref ta, .int be2, .int bp2, .long bo2, .int bm2])), (dT, .inl (cI, 64, .inl d)), (gT, .inl (cZ, 64, .inl g)), (la, .inl (cI, 8, .inl sl)), (ca, .inl (cI, 128, .inl cr)), (aa, .inl (cI, 16, .inl ak)), (na, .inl (cI, 16, .inl no)), (ya, .inl (cI, 16, .inl ye)), (ta, .inl (cI, 48, .inl tl))] → va_S A s.heap H locs → lv_has ls 8 [(0, .ref o), (1, .int (nI a)), (2, .int x2)] → W p l e (headSpec (wq y_T_findMatch c_T_findMatch 8 none) ({ frames := 1, cells := 0, slots := 0, locals := 27 })).room s m ([.ref o] : List Value).toArray below meth c H locs 0 0 (MQ below (va_Qv (fun (u : va_W) => u = [(o, .inr (7, [.int th, .int (nI n), .ref dT, .ref gT, .int (nI ns), .ref la, .ref ca, .int (nI nn), .ref aa, .ref na, .ref ya, .int (nI nr), .ref ta, .int ((mtS n d sl cr (-1, bp, bo, bm) ns).1), .int ((mtS n d sl cr (-1, bp, bo, bm) ns).2.1), .long ((mtS n d sl cr (-1, bp, bo, bm) ns).2.2.1), .int ((mtS n d sl cr (-1, bp, bo, bm) ns).2.2.2)])), (dT, .inl (cI, 64, .inl d)), (gT, .inl (cZ, 64, .inl g)), (la, .inl (cI, 8, .inl sl)), (ca, .inl (cI, 128, .inl cr)), (aa, .inl (cI, 16, .inl ak)), (na, .inl (cI, 16, .inl no)), (ya, .inl (cI, 16, .inl ye)), (ta, .inl (cI, 48, .inl tl))]) (mB D (TY cI cZ cJ cO) A) A) ([.ref o] : List Value).toArray s 0 0 A) (F0 m 17 ls []) := by
          intro f17
          induction f17 with
          | zero =>
            intro b be2 bp2 bm2 bo2 x2 H locs ls hI hP hD hS hl
            obtain ⟨hb1, hb2, rfl, hq2⟩ := hI
            omega
          | succ f17 ih17 =>
            intro b be2 bp2 bm2 bo2 x2 H locs ls hI hP hD hS hl
            obtain ⟨hb1, hb2, rfl, hq2⟩ := hI
            refine lv_iload_n hx hb d_T_findMatch_17 rfl (lv_at hl 2 rfl) ?_
            refine lv_aload_n hx hb d_T_findMatch_18 rfl (lv_at hl 0 rfl) ?_
            refine va_get (D := D) (ci := 7) (v := .int (nI n)) (C := Q_T) (T := F_T) (N := 17) hx hb hg in_T hown hK hP 0 rfl rfl 1 (by decide) (hg _ g_640) (fun _ h9 => h9) rfl d_T_findMatch_19 ?_
            refine lv_icmp_ge (tgt := 167) hx hb d_T_findMatch_22 (by decide) (fun c_22 => ?_) (fun c_22 => ?_)
            · refine lv_iinc (v := (nI a) + 1) (lv' := [(1, .int ((nI a) + 1)), (0, .ref o), (2, .int (nI b))]) hx hb d_T_findMatch_167 hl (k := 1) rfl rfl (by decide) rfl (fun ls hl => ?_)
              refine lv_goto (tgt := 7) hx hb d_T_findMatch_170 (by decide) ?_
              exact ih7 (a + 1) be2 bp2 bm2 bo2 ((nI a) + 1) _ _ ls (⟨by omega, by omega, nI_1 a, by rw [mtS, show (sl a).toNatClampNeg = L by rw [hL]; exact nI_clamp (by omega), hq2, gj_out (by omega) hb1 c_22]⟩) hP hD hS (lv_sub hl [1, 0] rfl)
            · have hb3 := gj_in (by omega) hb1 c_22
              refine lv_lconst (v := 0) hx hb d_T_findMatch_25 (by decide) ?_
              refine lv_lstore_n (lv' := [(3, .long 0), (0, .ref o), (1, .int (nI a)), (2, .int (nI b))]) hx hb d_T_findMatch_26 rfl hl (by decide) rfl (fun ls hl => ?_)
              refine lv_iconst (v := 0) hx hb d_T_findMatch_27 (by decide) ?_
              refine lv_istore (lv' := [(5, .int 0), (3, .long 0), (0, .ref o), (1, .int (nI a)), (2, .int (nI b))]) hx hb d_T_findMatch_28 hl (by decide) rfl (fun ls hl => ?_)
              refine lv_iconst (v := 0) hx hb d_T_findMatch_30 (by decide) ?_
              refine lv_istore (lv' := [(6, .int 0), (5, .int 0), (3, .long 0), (0, .ref o), (1, .int (nI a)), (2, .int (nI b))]) hx hb d_T_findMatch_31 hl (by decide) rfl (fun ls hl => ?_)
              have loop_33 : ∀ (f33 : Nat) (j : Nat) (y3 : Int64) (y5 : Int32) (y6 : Int32) (ls : Array Slot), (j ≤ L ∧ L < j + f33 ∧ y3 = misL n d (fun j => cr (16 * a + j)) b j ∧ y5 = nI (cv n d b j) ∧ y6 = nI j) → lv_has ls 8 [(0, .ref o), (1, .int (nI a)), (2, .int (nI b)), (3, .long y3), (5, .int y5), (6, .int y6)] → W p l e (headSpec (wq y_T_findMatch c_T_findMatch 8 none) ({ frames := 1, cells := 0, slots := 0, locals := 27 })).room s m ([.ref o] : List Value).toArray below meth c H locs 0 0 (MQ below (va_Qv (fun (u : va_W) => u = [(o, .inr (7, [.int th, .int (nI n), .ref dT, .ref gT, .int (nI ns), .ref la, .ref ca, .int (nI nn), .ref aa, .ref na, .ref ya, .int (nI nr), .ref ta, .int ((mtS n d sl cr (-1, bp, bo, bm) ns).1), .int ((mtS n d sl cr (-1, bp, bo, bm) ns).2.1), .long ((mtS n d sl cr (-1, bp, bo, bm) ns).2.2.1), .int ((mtS n d sl cr (-1, bp, bo, bm) ns).2.2.2)])), (dT, .inl (cI, 64, .inl d)), (gT, .inl (cZ, 64, .inl g)), (la, .inl (cI, 8, .inl sl)), (ca, .inl (cI, 128, .inl cr)), (aa, .inl (cI, 16, .inl ak)), (na, .inl (cI, 16, .inl no)), (ya, .inl (cI, 16, .inl ye)), (ta, .inl (cI, 48, .inl tl))]) (mB D (TY cI cZ cJ cO) A) A) ([.ref o] : List Value).toArray s 0 0 A) (F0 m 33 ls []) := by
                intro f33
                induction f33 with
                | zero =>
                  intro j y3 y5 y6 ls hI hl
                  obtain ⟨hi1, hi2, rfl, rfl, rfl⟩ := hI
                  omega
                | succ f33 ih33 =>
                  intro j y3 y5 y6 ls hI hl
                  obtain ⟨hi1, hi2, rfl, rfl, rfl⟩ := hI
                  refine lv_iload hx hb d_T_findMatch_33 (lv_at hl 5 rfl) ?_
                  refine lv_aload_n hx hb d_T_findMatch_35 rfl (lv_at hl 0 rfl) ?_
                  refine va_get (D := D) (ci := 7) (v := .ref la) (C := Q_T) (T := F_T) (N := 17) hx hb hg in_T hown hK hP 0 rfl rfl 5 (by decide) (hg _ g_644) (fun _ h9 => h9) rfl d_T_findMatch_36 ?_
                  refine lv_iload_n hx hb d_T_findMatch_39 rfl (lv_at hl 1 rfl) ?_
                  refine va_iald hx hb hK hP 3 0 rfl rfl (v8 (by omega)) d_T_findMatch_40 ?_
                  refine lv_topi (fun y_1 ey_1 => ?_)
                  obtain rfl : y_1 = nI L := ey_1.trans (by rw [nI_clamp (show a < 2 ^ 31 by omega)]; exact hL)
                  refine lv_icmp_ge (tgt := 117) hx hb d_T_findMatch_41 (by decide) (fun c_41 => ?_) (fun c_41 => ?_)
                  · obtain rfl := gj_out (by omega) hi1 c_41
                    refine lv_iconst (v := 2) hx hb d_T_findMatch_117 (by decide) ?_
                    refine lv_iload hx hb d_T_findMatch_118 (lv_at hl 4 rfl) ?_
                    refine lv_imul hx hb d_T_findMatch_120 ?_
                    refine lv_aload_n hx hb d_T_findMatch_121 rfl (lv_at hl 0 rfl) ?_
                    refine va_get (D := D) (ci := 7) (v := .ref la) (C := Q_T) (T := F_T) (N := 17) hx hb hg in_T hown hK hP 0 rfl rfl 5 (by decide) (hg _ g_644) (fun _ h9 => h9) rfl d_T_findMatch_122 ?_
                    refine lv_iload_n hx hb d_T_findMatch_125 rfl (lv_at hl 1 rfl) ?_
                    refine va_iald hx hb hK hP 3 0 rfl rfl (v8 (by omega)) d_T_findMatch_126 ?_
                    refine lv_topi (fun y_2 ey_2 => ?_)
                    obtain rfl : y_2 = nI j := ey_2.trans (by rw [nI_clamp (show a < 2 ^ 31 by omega)]; exact hL)
                    refine lv_icmp_lt (tgt := 161) hx hb d_T_findMatch_127 (by decide) (fun c_127 => ?_) (fun c_127 => ?_)
                    · refine lv_iinc (v := (nI b) + 1) (lv' := [(2, .int ((nI b) + 1)), (0, .ref o), (1, .int (nI a)), (3, .long (misL n d (fun j => cr (16 * a + j)) b j)), (5, .int (nI (cv n d b j))), (6, .int (nI j))]) hx hb d_T_findMatch_161 hl (k := 2) rfl rfl (by decide) rfl (fun ls hl => ?_)
                      refine lv_goto (tgt := 17) hx hb d_T_findMatch_164 (by decide) ?_
                      exact ih17 (b + 1) be2 bp2 bm2 bo2 ((nI b) + 1) _ _ ls (⟨by omega, by omega, nI_1 b, by rw [mtP, ← hq2]; exact (m1_1 c_127).symm⟩) hP hD hS (lv_sub hl [1, 2, 0] rfl)
                    · refine lv_aload_n hx hb d_T_findMatch_130 rfl (lv_at hl 0 rfl) ?_
                      refine lv_lload_n hx hb d_T_findMatch_131 rfl (lv_at hl 3 rfl) ?_
                      refine lv_iload hx hb d_T_findMatch_132 (lv_at hl 4 rfl) ?_
                      refine vp_callSi (va_Run.run (va_runV (As := [.long (misL n d (fun j => cr (16 * a + j)) b j), .int (nI (cv n d b j))]) (rest := []) ⟨hx, hb, hml, hown, hg⟩ (c_T_isBetter_ok l D cI cZ cJ cO o dT gT la ca aa na ya ta n ns nn nr d g sl cr ak no ye tl th be2 bp2 bm2 bo2 h4 h64 hd (misL n d (fun j => cr (16 * a + j)) b j) (nI (cv n d b j))) (cwV 2 hg (gv g_724 g_726 g_12 g_26 g_727) rfl rfl rfl (by decide +kernel) ⟨Nat.le_of_ble_eq_true rfl, Nat.le_of_ble_eq_true rfl⟩) (pV hP hK hN (va_recv hK hP (ci := 7) (q0 := 0) rfl rfl)) rfl rfl hl.1 rfl (lv_room (Nat.le_of_ble_eq_true rfl)) d_T_findMatch_134 ⟨Nat.zero_le _, Nat.zero_le _⟩)) (fun r_3 hr_3 => ?_)
                      subst hr_3
                      refine lv_if_eq (tgt := 161) hx hb d_T_findMatch_137 (by decide) (fun c_137 => ?_) (fun c_137 => ?_)
                      · refine lv_iinc (v := (nI b) + 1) (lv' := [(2, .int ((nI b) + 1)), (0, .ref o), (1, .int (nI a)), (3, .long (misL n d (fun j => cr (16 * a + j)) b j)), (5, .int (nI (cv n d b j))), (6, .int (nI j))]) hx hb d_T_findMatch_161 hl (k := 2) rfl rfl (by decide) rfl (fun ls hl => ?_)
                        refine lv_goto (tgt := 17) hx hb d_T_findMatch_164 (by decide) ?_
                        exact ih17 (b + 1) be2 bp2 bm2 bo2 ((nI b) + 1) _ _ ls (⟨by omega, by omega, nI_1 b, by rw [mtP, ← hq2]; exact (m1_2 c_137).symm⟩) hP hD hS (lv_sub hl [1, 2, 0] rfl)
                      · refine lv_aload_n hx hb d_T_findMatch_140 rfl (lv_at hl 0 rfl) ?_
                        refine lv_iload_n hx hb d_T_findMatch_141 rfl (lv_at hl 1 rfl) ?_
                        refine va_put (D := D) (ci := 7) (v := .int (nI a)) (ty := .int) (C := Q_T) (T := F_T) (N := 17) hx hb hg in_T tq_T tq_T_ok n_T hown hK hP hD hS 0 rfl rfl 13 (by decide) (hg _ g_652) (fun _ h9 => h9) rfl (by decide +kernel) rfl rfl (Nat.le_of_ble_eq_true rfl) d_T_findMatch_142 (fun H locs hP hD hS => ?_)
                        have hP : va_P D cls [(o, .inr (7, [.int th, .int (nI n), .ref dT, .ref gT, .int (nI ns), .ref la, .ref ca, .int (nI nn), .ref aa, .ref na, .ref ya, .int (nI nr), .ref ta, .int (nI a), .int bp2, .long bo2, .int bm2])), (dT, .inl (cI, 64, .inl d)), (gT, .inl (cZ, 64, .inl g)), (la, .inl (cI, 8, .inl sl)), (ca, .inl (cI, 128, .inl cr)), (aa, .inl (cI, 16, .inl ak)), (na, .inl (cI, 16, .inl no)), (ya, .inl (cI, 16, .inl ye)), (ta, .inl (cI, 48, .inl tl))] H := hP
                        have hD : va_D A [(o, .inr (7, [.int th, .int (nI n), .ref dT, .ref gT, .int (nI ns), .ref la, .ref ca, .int (nI nn), .ref aa, .ref na, .ref ya, .int (nI nr), .ref ta, .int (nI a), .int bp2, .long bo2, .int bm2])), (dT, .inl (cI, 64, .inl d)), (gT, .inl (cZ, 64, .inl g)), (la, .inl (cI, 8, .inl sl)), (ca, .inl (cI, 128, .inl cr)), (aa, .inl (cI, 16, .inl ak)), (na, .inl (cI, 16, .inl no)), (ya, .inl (cI, 16, .inl ye)), (ta, .inl (cI, 48, .inl tl))] := hD
                        refine lv_aload_n hx hb d_T_findMatch_145 rfl (lv_at hl 0 rfl) ?_
                        refine lv_iload_n hx hb d_T_findMatch_146 rfl (lv_at hl 2 rfl) ?_
                        refine va_put (D := D) (ci := 7) (v := .int (nI b)) (ty := .int) (C := Q_T) (T := F_T) (N := 17) hx hb hg in_T tq_T tq_T_ok n_T hown hK hP hD hS 0 rfl rfl 14 (by decide) (hg _ g_653) (fun _ h9 => h9) rfl (by decide +kernel) rfl rfl (Nat.le_of_ble_eq_true rfl) d_T_findMatch_147 (fun H locs hP hD hS => ?_)
                        have hP : va_P D cls [(o, .inr (7, [.int th, .int (nI n), .ref dT, .ref gT, .int (nI ns), .ref la, .ref ca, .int (nI nn), .ref aa, .ref na, .ref ya, .int (nI nr), .ref ta, .int (nI a), .int (nI b), .long bo2, .int bm2])), (dT, .inl (cI, 64, .inl d)), (gT, .inl (cZ, 64, .inl g)), (la, .inl (cI, 8, .inl sl)), (ca, .inl (cI, 128, .inl cr)), (aa, .inl (cI, 16, .inl ak)), (na, .inl (cI, 16, .inl no)), (ya, .inl (cI, 16, .inl ye)), (ta, .inl (cI, 48, .inl tl))] H := hP
                        have hD : va_D A [(o, .inr (7, [.int th, .int (nI n), .ref dT, .ref gT, .int (nI ns), .ref la, .ref ca, .int (nI nn), .ref aa, .ref na, .ref ya, .int (nI nr), .ref ta, .int (nI a), .int (nI b), .long bo2, .int bm2])), (dT, .inl (cI, 64, .inl d)), (gT, .inl (cZ, 64, .inl g)), (la, .inl (cI, 8, .inl sl)), (ca, .inl (cI, 128, .inl cr)), (aa, .inl (cI, 16, .inl ak)), (na, .inl (cI, 16, .inl no)), (ya, .inl (cI, 16, .inl ye)), (ta, .inl (cI, 48, .inl tl))] := hD
                        refine lv_aload_n hx hb d_T_findMatch_150 rfl (lv_at hl 0 rfl) ?_
                        refine lv_lload_n hx hb d_T_findMatch_151 rfl (lv_at hl 3 rfl) ?_
                        refine va_put (D := D) (ci := 7) (v := .long (misL n d (fun j => cr (16 * a + j)) b j)) (ty := .long) (C := Q_T) (T := F_T) (N := 17) hx hb hg in_T tq_T tq_T_ok n_T hown hK hP hD hS 0 rfl rfl 15 (by decide) (hg _ g_654) (fun _ h9 => h9) rfl (by decide +kernel) rfl rfl (Nat.le_of_ble_eq_true rfl) d_T_findMatch_152 (fun H locs hP hD hS => ?_)
                        have hP : va_P D cls [(o, .inr (7, [.int th, .int (nI n), .ref dT, .ref gT, .int (nI ns), .ref la, .ref ca, .int (nI nn), .ref aa, .ref na, .ref ya, .int (nI nr), .ref ta, .int (nI a), .int (nI b), .long (misL n d (fun j => cr (16 * a + j)) b j), .int bm2])), (dT, .inl (cI, 64, .inl d)), (gT, .inl (cZ, 64, .inl g)), (la, .inl (cI, 8, .inl sl)), (ca, .inl (cI, 128, .inl cr)), (aa, .inl (cI, 16, .inl ak)), (na, .inl (cI, 16, .inl no)), (ya, .inl (cI, 16, .inl ye)), (ta, .inl (cI, 48, .inl tl))] H := hP
                        have hD : va_D A [(o, .inr (7, [.int th, .int (nI n), .ref dT, .ref gT, .int (nI ns), .ref la, .ref ca, .int (nI nn), .ref aa, .ref na, .ref ya, .int (nI nr), .ref ta, .int (nI a), .int (nI b), .long (misL n d (fun j => cr (16 * a + j)) b j), .int bm2])), (dT, .inl (cI, 64, .inl d)), (gT, .inl (cZ, 64, .inl g)), (la, .inl (cI, 8, .inl sl)), (ca, .inl (cI, 128, .inl cr)), (aa, .inl (cI, 16, .inl ak)), (na, .inl (cI, 16, .inl no)), (ya, .inl (cI, 16, .inl ye)), (ta, .inl (cI, 48, .inl tl))] := hD
                        refine lv_aload_n hx hb d_T_findMatch_155 rfl (lv_at hl 0 rfl) ?_
                        refine lv_iload hx hb d_T_findMatch_156 (lv_at hl 4 rfl) ?_
                        refine va_put (D := D) (ci := 7) (v := .int (nI (cv n d b j))) (ty := .int) (C := Q_T) (T := F_T) (N := 17) hx hb hg in_T tq_T tq_T_ok n_T hown hK hP hD hS 0 rfl rfl 16 (by decide) (hg _ g_655) (fun _ h9 => h9) rfl (by decide +kernel) rfl rfl (Nat.le_of_ble_eq_true rfl) d_T_findMatch_158 (fun H locs hP hD hS => ?_)
                        have hP : va_P D cls [(o, .inr (7, [.int th, .int (nI n), .ref dT, .ref gT, .int (nI ns), .ref la, .ref ca, .int (nI nn), .ref aa, .ref na, .ref ya, .int (nI nr), .ref ta, .int (nI a), .int (nI b), .long (misL n d (fun j => cr (16 * a + j)) b j), .int (nI (cv n d b j))])), (dT, .inl (cI, 64, .inl d)), (gT, .inl (cZ, 64, .inl g)), (la, .inl (cI, 8, .inl sl)), (ca, .inl (cI, 128, .inl cr)), (aa, .inl (cI, 16, .inl ak)), (na, .inl (cI, 16, .inl no)), (ya, .inl (cI, 16, .inl ye)), (ta, .inl (cI, 48, .inl tl))] H := hP
                        have hD : va_D A [(o, .inr (7, [.int th, .int (nI n), .ref dT, .ref gT, .int (nI ns), .ref la, .ref ca, .int (nI nn), .ref aa, .ref na, .ref ya, .int (nI nr), .ref ta, .int (nI a), .int (nI b), .long (misL n d (fun j => cr (16 * a + j)) b j), .int (nI (cv n d b j))])), (dT, .inl (cI, 64, .inl d)), (gT, .inl (cZ, 64, .inl g)), (la, .inl (cI, 8, .inl sl)), (ca, .inl (cI, 128, .inl cr)), (aa, .inl (cI, 16, .inl ak)), (na, .inl (cI, 16, .inl no)), (ya, .inl (cI, 16, .inl ye)), (ta, .inl (cI, 48, .inl tl))] := hD
                        refine lv_iinc (v := (nI b) + 1) (lv' := [(2, .int ((nI b) + 1)), (0, .ref o), (1, .int (nI a)), (3, .long (misL n d (fun j => cr (16 * a + j)) b j)), (5, .int (nI (cv n d b j))), (6, .int (nI j))]) hx hb d_T_findMatch_161 hl (k := 2) rfl rfl (by decide) rfl (fun ls hl => ?_)
                        refine lv_goto (tgt := 17) hx hb d_T_findMatch_164 (by decide) ?_
                        exact ih17 (b + 1) (nI a) (nI b) (nI (cv n d b j)) (misL n d (fun j => cr (16 * a + j)) b j) ((nI b) + 1) _ _ ls (⟨by omega, by omega, nI_1 b, by rw [mtP, ← hq2]; exact (m1_3 c_127 c_137).symm⟩) hP hD hS (lv_sub hl [1, 2, 0] rfl)
                  · refine lv_iload_n hx hb d_T_findMatch_44 rfl (lv_at hl 2 rfl) ?_
                    refine lv_iload hx hb d_T_findMatch_45 (lv_at hl 5 rfl) ?_
                    refine lv_iadd hx hb d_T_findMatch_47 ?_
                    refine lv_aload_n hx hb d_T_findMatch_48 rfl (lv_at hl 0 rfl) ?_
                    refine va_get (D := D) (ci := 7) (v := .int (nI n)) (C := Q_T) (T := F_T) (N := 17) hx hb hg in_T hown hK hP 0 rfl rfl 1 (by decide) (hg _ g_640) (fun _ h9 => h9) rfl d_T_findMatch_49 ?_
                    refine lv_icmp_ge (tgt := 117) hx hb d_T_findMatch_52 (by decide) (fun c_52 => ?_) (fun c_52 => ?_)
                    · have hof := pj_out h64 hb3 hi1 hL16 c_52
                      obtain ⟨k9, rfl⟩ : ∃ k9, L = j + k9 := ⟨L - j, by omega⟩
                      rw [← mi_off (f := (fun j => cr (16 * a + j))) hof k9, ← cv_off (d := d) hof k9] at hl
                      refine lv_iconst (v := 2) hx hb d_T_findMatch_117 (by decide) ?_
                      refine lv_iload hx hb d_T_findMatch_118 (lv_at hl 4 rfl) ?_
                      refine lv_imul hx hb d_T_findMatch_120 ?_
                      refine lv_aload_n hx hb d_T_findMatch_121 rfl (lv_at hl 0 rfl) ?_
                      refine va_get (D := D) (ci := 7) (v := .ref la) (C := Q_T) (T := F_T) (N := 17) hx hb hg in_T hown hK hP 0 rfl rfl 5 (by decide) (hg _ g_644) (fun _ h9 => h9) rfl d_T_findMatch_122 ?_
                      refine lv_iload_n hx hb d_T_findMatch_125 rfl (lv_at hl 1 rfl) ?_
                      refine va_iald hx hb hK hP 3 0 rfl rfl (v8 (by omega)) d_T_findMatch_126 ?_
                      refine lv_topi (fun y_4 ey_4 => ?_)
                      obtain rfl : y_4 = nI (j + k9) := ey_4.trans (by rw [nI_clamp (show a < 2 ^ 31 by omega)]; exact hL)
                      refine lv_icmp_lt (tgt := 161) hx hb d_T_findMatch_127 (by decide) (fun c_127 => ?_) (fun c_127 => ?_)
                      · refine lv_iinc (v := (nI b) + 1) (lv' := [(2, .int ((nI b) + 1)), (0, .ref o), (1, .int (nI a)), (3, .long (misL n d (fun j => cr (16 * a + j)) b (j + k9))), (5, .int (nI (cv n d b (j + k9)))), (6, .int (nI j))]) hx hb d_T_findMatch_161 hl (k := 2) rfl rfl (by decide) rfl (fun ls hl => ?_)
                        refine lv_goto (tgt := 17) hx hb d_T_findMatch_164 (by decide) ?_
                        exact ih17 (b + 1) be2 bp2 bm2 bo2 ((nI b) + 1) _ _ ls (⟨by omega, by omega, nI_1 b, by rw [mtP, ← hq2]; exact (m1_1 c_127).symm⟩) hP hD hS (lv_sub hl [1, 2, 0] rfl)
                      · refine lv_aload_n hx hb d_T_findMatch_130 rfl (lv_at hl 0 rfl) ?_
                        refine lv_lload_n hx hb d_T_findMatch_131 rfl (lv_at hl 3 rfl) ?_
                        refine lv_iload hx hb d_T_findMatch_132 (lv_at hl 4 rfl) ?_
                        refine vp_callSi (va_Run.run (va_runV (As := [.long (misL n d (fun j => cr (16 * a + j)) b (j + k9)), .int (nI (cv n d b (j + k9)))]) (rest := []) ⟨hx, hb, hml, hown, hg⟩ (c_T_isBetter_ok l D cI cZ cJ cO o dT gT la ca aa na ya ta n ns nn nr d g sl cr ak no ye tl th be2 bp2 bm2 bo2 h4 h64 hd (misL n d (fun j => cr (16 * a + j)) b (j + k9)) (nI (cv n d b (j + k9)))) (cwV 2 hg (gv g_724 g_726 g_12 g_26 g_727) rfl rfl rfl (by decide +kernel) ⟨Nat.le_of_ble_eq_true rfl, Nat.le_of_ble_eq_true rfl⟩) (pV hP hK hN (va_recv hK hP (ci := 7) (q0 := 0) rfl rfl)) rfl rfl hl.1 rfl (lv_room (Nat.le_of_ble_eq_true rfl)) d_T_findMatch_134 ⟨Nat.zero_le _, Nat.zero_le _⟩)) (fun r_5 hr_5 => ?_)
                        subst hr_5
                        refine lv_if_eq (tgt := 161) hx hb d_T_findMatch_137 (by decide) (fun c_137 => ?_) (fun c_137 => ?_)
                        · refine lv_iinc (v := (nI b) + 1) (lv' := [(2, .int ((nI b) + 1)), (0, .ref o), (1, .int (nI a)), (3, .long (misL n d (fun j => cr (16 * a + j)) b (j + k9))), (5, .int (nI (cv n d b (j + k9)))), (6, .int (nI j))]) hx hb d_T_findMatch_161 hl (k := 2) rfl rfl (by decide) rfl (fun ls hl => ?_)
                          refine lv_goto (tgt := 17) hx hb d_T_findMatch_164 (by decide) ?_
                          exact ih17 (b + 1) be2 bp2 bm2 bo2 ((nI b) + 1) _ _ ls (⟨by omega, by omega, nI_1 b, by rw [mtP, ← hq2]; exact (m1_2 c_137).symm⟩) hP hD hS (lv_sub hl [1, 2, 0] rfl)
                        · refine lv_aload_n hx hb d_T_findMatch_140 rfl (lv_at hl 0 rfl) ?_
                          refine lv_iload_n hx hb d_T_findMatch_141 rfl (lv_at hl 1 rfl) ?_
                          refine va_put (D := D) (ci := 7) (v := .int (nI a)) (ty := .int) (C := Q_T) (T := F_T) (N := 17) hx hb hg in_T tq_T tq_T_ok n_T hown hK hP hD hS 0 rfl rfl 13 (by decide) (hg _ g_652) (fun _ h9 => h9) rfl (by decide +kernel) rfl rfl (Nat.le_of_ble_eq_true rfl) d_T_findMatch_142 (fun H locs hP hD hS => ?_)
                          have hP : va_P D cls [(o, .inr (7, [.int th, .int (nI n), .ref dT, .ref gT, .int (nI ns), .ref la, .ref ca, .int (nI nn), .ref aa, .ref na, .ref ya, .int (nI nr), .ref ta, .int (nI a), .int bp2, .long bo2, .int bm2])), (dT, .inl (cI, 64, .inl d)), (gT, .inl (cZ, 64, .inl g)), (la, .inl (cI, 8, .inl sl)), (ca, .inl (cI, 128, .inl cr)), (aa, .inl (cI, 16, .inl ak)), (na, .inl (cI, 16, .inl no)), (ya, .inl (cI, 16, .inl ye)), (ta, .inl (cI, 48, .inl tl))] H := hP
                          have hD : va_D A [(o, .inr (7, [.int th, .int (nI n), .ref dT, .ref gT, .int (nI ns), .ref la, .ref ca, .int (nI nn), .ref aa, .ref na, .ref ya, .int (nI nr), .ref ta, .int (nI a), .int bp2, .long bo2, .int bm2])), (dT, .inl (cI, 64, .inl d)), (gT, .inl (cZ, 64, .inl g)), (la, .inl (cI, 8, .inl sl)), (ca, .inl (cI, 128, .inl cr)), (aa, .inl (cI, 16, .inl ak)), (na, .inl (cI, 16, .inl no)), (ya, .inl (cI, 16, .inl ye)), (ta, .inl (cI, 48, .inl tl))] := hD
                          refine lv_aload_n hx hb d_T_findMatch_145 rfl (lv_at hl 0 rfl) ?_
                          refine lv_iload_n hx hb d_T_findMatch_146 rfl (lv_at hl 2 rfl) ?_
                          refine va_put (D := D) (ci := 7) (v := .int (nI b)) (ty := .int) (C := Q_T) (T := F_T) (N := 17) hx hb hg in_T tq_T tq_T_ok n_T hown hK hP hD hS 0 rfl rfl 14 (by decide) (hg _ g_653) (fun _ h9 => h9) rfl (by decide +kernel) rfl rfl (Nat.le_of_ble_eq_true rfl) d_T_findMatch_147 (fun H locs hP hD hS => ?_)
                          have hP : va_P D cls [(o, .inr (7, [.int th, .int (nI n), .ref dT, .ref gT, .int (nI ns), .ref la, .ref ca, .int (nI nn), .ref aa, .ref na, .ref ya, .int (nI nr), .ref ta, .int (nI a), .int (nI b), .long bo2, .int bm2])), (dT, .inl (cI, 64, .inl d)), (gT, .inl (cZ, 64, .inl g)), (la, .inl (cI, 8, .inl sl)), (ca, .inl (cI, 128, .inl cr)), (aa, .inl (cI, 16, .inl ak)), (na, .inl (cI, 16, .inl no)), (ya, .inl (cI, 16, .inl ye)), (ta, .inl (cI, 48, .inl tl))] H := hP
                          have hD : va_D A [(o, .inr (7, [.int th, .int (nI n), .ref dT, .ref gT, .int (nI ns), .ref la, .ref ca, .int (nI nn), .ref aa, .ref na, .ref ya, .int (nI nr), .ref ta, .int (nI a), .int (nI b), .long bo2, .int bm2])), (dT, .inl (cI, 64, .inl d)), (gT, .inl (cZ, 64, .inl g)), (la, .inl (cI, 8, .inl sl)), (ca, .inl (cI, 128, .inl cr)), (aa, .inl (cI, 16, .inl ak)), (na, .inl (cI, 16, .inl no)), (ya, .inl (cI, 16, .inl ye)), (ta, .inl (cI, 48, .inl tl))] := hD
                          refine lv_aload_n hx hb d_T_findMatch_150 rfl (lv_at hl 0 rfl) ?_
                          refine lv_lload_n hx hb d_T_findMatch_151 rfl (lv_at hl 3 rfl) ?_
                          refine va_put (D := D) (ci := 7) (v := .long (misL n d (fun j => cr (16 * a + j)) b (j + k9))) (ty := .long) (C := Q_T) (T := F_T) (N := 17) hx hb hg in_T tq_T tq_T_ok n_T hown hK hP hD hS 0 rfl rfl 15 (by decide) (hg _ g_654) (fun _ h9 => h9) rfl (by decide +kernel) rfl rfl (Nat.le_of_ble_eq_true rfl) d_T_findMatch_152 (fun H locs hP hD hS => ?_)
                          have hP : va_P D cls [(o, .inr (7, [.int th, .int (nI n), .ref dT, .ref gT, .int (nI ns), .ref la, .ref ca, .int (nI nn), .ref aa, .ref na, .ref ya, .int (nI nr), .ref ta, .int (nI a), .int (nI b), .long (misL n d (fun j => cr (16 * a + j)) b (j + k9)), .int bm2])), (dT, .inl (cI, 64, .inl d)), (gT, .inl (cZ, 64, .inl g)), (la, .inl (cI, 8, .inl sl)), (ca, .inl (cI, 128, .inl cr)), (aa, .inl (cI, 16, .inl ak)), (na, .inl (cI, 16, .inl no)), (ya, .inl (cI, 16, .inl ye)), (ta, .inl (cI, 48, .inl tl))] H := hP
                          have hD : va_D A [(o, .inr (7, [.int th, .int (nI n), .ref dT, .ref gT, .int (nI ns), .ref la, .ref ca, .int (nI nn), .ref aa, .ref na, .ref ya, .int (nI nr), .ref ta, .int (nI a), .int (nI b), .long (misL n d (fun j => cr (16 * a + j)) b (j + k9)), .int bm2])), (dT, .inl (cI, 64, .inl d)), (gT, .inl (cZ, 64, .inl g)), (la, .inl (cI, 8, .inl sl)), (ca, .inl (cI, 128, .inl cr)), (aa, .inl (cI, 16, .inl ak)), (na, .inl (cI, 16, .inl no)), (ya, .inl (cI, 16, .inl ye)), (ta, .inl (cI, 48, .inl tl))] := hD
                          refine lv_aload_n hx hb d_T_findMatch_155 rfl (lv_at hl 0 rfl) ?_
                          refine lv_iload hx hb d_T_findMatch_156 (lv_at hl 4 rfl) ?_
                          refine va_put (D := D) (ci := 7) (v := .int (nI (cv n d b (j + k9)))) (ty := .int) (C := Q_T) (T := F_T) (N := 17) hx hb hg in_T tq_T tq_T_ok n_T hown hK hP hD hS 0 rfl rfl 16 (by decide) (hg _ g_655) (fun _ h9 => h9) rfl (by decide +kernel) rfl rfl (Nat.le_of_ble_eq_true rfl) d_T_findMatch_158 (fun H locs hP hD hS => ?_)
                          have hP : va_P D cls [(o, .inr (7, [.int th, .int (nI n), .ref dT, .ref gT, .int (nI ns), .ref la, .ref ca, .int (nI nn), .ref aa, .ref na, .ref ya, .int (nI nr), .ref ta, .int (nI a), .int (nI b), .long (misL n d (fun j => cr (16 * a + j)) b (j + k9)), .int (nI (cv n d b (j + k9)))])), (dT, .inl (cI, 64, .inl d)), (gT, .inl (cZ, 64, .inl g)), (la, .inl (cI, 8, .inl sl)), (ca, .inl (cI, 128, .inl cr)), (aa, .inl (cI, 16, .inl ak)), (na, .inl (cI, 16, .inl no)), (ya, .inl (cI, 16, .inl ye)), (ta, .inl (cI, 48, .inl tl))] H := hP
                          have hD : va_D A [(o, .inr (7, [.int th, .int (nI n), .ref dT, .ref gT, .int (nI ns), .ref la, .ref ca, .int (nI nn), .ref aa, .ref na, .ref ya, .int (nI nr), .ref ta, .int (nI a), .int (nI b), .long (misL n d (fun j => cr (16 * a + j)) b (j + k9)), .int (nI (cv n d b (j + k9)))])), (dT, .inl (cI, 64, .inl d)), (gT, .inl (cZ, 64, .inl g)), (la, .inl (cI, 8, .inl sl)), (ca, .inl (cI, 128, .inl cr)), (aa, .inl (cI, 16, .inl ak)), (na, .inl (cI, 16, .inl no)), (ya, .inl (cI, 16, .inl ye)), (ta, .inl (cI, 48, .inl tl))] := hD
                          refine lv_iinc (v := (nI b) + 1) (lv' := [(2, .int ((nI b) + 1)), (0, .ref o), (1, .int (nI a)), (3, .long (misL n d (fun j => cr (16 * a + j)) b (j + k9))), (5, .int (nI (cv n d b (j + k9)))), (6, .int (nI j))]) hx hb d_T_findMatch_161 hl (k := 2) rfl rfl (by decide) rfl (fun ls hl => ?_)
                          refine lv_goto (tgt := 17) hx hb d_T_findMatch_164 (by decide) ?_
                          exact ih17 (b + 1) (nI a) (nI b) (nI (cv n d b (j + k9))) (misL n d (fun j => cr (16 * a + j)) b (j + k9)) ((nI b) + 1) _ _ ls (⟨by omega, by omega, nI_1 b, by rw [mtP, ← hq2]; exact (m1_3 c_127 c_137).symm⟩) hP hD hS (lv_sub hl [1, 2, 0] rfl)
                    · refine lv_aload_n hx hb d_T_findMatch_55 rfl (lv_at hl 0 rfl) ?_
                      refine va_get (D := D) (ci := 7) (v := .ref dT) (C := Q_T) (T := F_T) (N := 17) hx hb hg in_T hown hK hP 0 rfl rfl 2 (by decide) (hg _ g_641) (fun _ h9 => h9) rfl d_T_findMatch_56 ?_
                      refine lv_iload_n hx hb d_T_findMatch_59 rfl (lv_at hl 2 rfl) ?_
                      refine lv_iload hx hb d_T_findMatch_60 (lv_at hl 5 rfl) ?_
                      refine lv_iadd hx hb d_T_findMatch_62 ?_
                      refine va_iald hx hb hK hP 1 0 rfl rfl (v64p h64 (pj_in h64 hb3 hi1 hL16 c_52)) d_T_findMatch_63 ?_
                      refine lv_if_lt (tgt := 111) hx hb d_T_findMatch_64 (by decide) (fun c_64 => ?_) (fun c_64 => ?_)
                      · refine lv_iinc (v := (nI j) + 1) (lv' := [(6, .int ((nI j) + 1)), (0, .ref o), (1, .int (nI a)), (2, .int (nI b)), (3, .long (misL n d (fun j => cr (16 * a + j)) b j)), (5, .int (nI (cv n d b j)))]) hx hb d_T_findMatch_111 hl (k := 5) rfl rfl (by decide) rfl (fun ls hl => ?_)
                        refine lv_goto (tgt := 33) hx hb d_T_findMatch_114 (by decide) ?_
                        exact ih33 (j + 1) (misL n d (fun j => cr (16 * a + j)) b j) (nI (cv n d b j)) ((nI j) + 1) ls (⟨by have := gj_in (by omega) hi1 c_41; omega, by omega, miT_1 (dneg hd h64 (pj_in h64 hb3 hi1 hL16 c_52) c_64), cvT_1 (dneg hd h64 (pj_in h64 hb3 hi1 hL16 c_52) c_64), nI_1 j⟩) (lv_sub hl [1, 2, 3, 4, 5, 0] rfl)
                      · refine lv_aload_n hx hb d_T_findMatch_67 rfl (lv_at hl 0 rfl) ?_
                        refine va_get (D := D) (ci := 7) (v := .ref dT) (C := Q_T) (T := F_T) (N := 17) hx hb hg in_T hown hK hP 0 rfl rfl 2 (by decide) (hg _ g_641) (fun _ h9 => h9) rfl d_T_findMatch_68 ?_
                        refine lv_iload_n hx hb d_T_findMatch_71 rfl (lv_at hl 2 rfl) ?_
                        refine lv_iload hx hb d_T_findMatch_72 (lv_at hl 5 rfl) ?_
                        refine lv_iadd hx hb d_T_findMatch_74 ?_
                        refine va_iald hx hb hK hP 1 0 rfl rfl (v64p h64 (pj_in h64 hb3 hi1 hL16 c_52)) d_T_findMatch_75 ?_
                        refine lv_aload_n hx hb d_T_findMatch_76 rfl (lv_at hl 0 rfl) ?_
                        refine va_get (D := D) (ci := 7) (v := .ref ca) (C := Q_T) (T := F_T) (N := 17) hx hb hg in_T hown hK hP 0 rfl rfl 6 (by decide) (hg _ g_645) (fun _ h9 => h9) rfl d_T_findMatch_77 ?_
                        refine lv_bipush (v := 16) hx hb d_T_findMatch_80 (by decide) ?_
                        refine lv_iload_n hx hb d_T_findMatch_82 rfl (lv_at hl 1 rfl) ?_
                        refine lv_imul hx hb d_T_findMatch_83 ?_
                        refine lv_iload hx hb d_T_findMatch_84 (lv_at hl 5 rfl) ?_
                        refine lv_iadd hx hb d_T_findMatch_86 ?_
                        refine va_iald hx hb hK hP 4 0 rfl rfl (v128 (by omega) (by have := gj_in (by omega) hi1 c_41; omega)) d_T_findMatch_87 ?_
                        refine lv_topi (fun y_6 ey_6 => ?_)
                        obtain rfl : y_6 = cr (16 * a + j) := ey_6.trans (by rw [c128 (show a < 8 by omega) (show j < 16 by have := gj_in (by omega) hi1 c_41; omega)])
                        refine lv_isub hx hb d_T_findMatch_88 ?_
                        refine lv_istore (lv' := [(7, .int ((d ((nI b) + (nI j)).toNatClampNeg) - (cr (16 * a + j)))), (0, .ref o), (1, .int (nI a)), (2, .int (nI b)), (3, .long (misL n d (fun j => cr (16 * a + j)) b j)), (5, .int (nI (cv n d b j))), (6, .int (nI j))]) hx hb d_T_findMatch_89 hl (by decide) rfl (fun ls hl => ?_)
                        refine lv_lload_n hx hb d_T_findMatch_91 rfl (lv_at hl 4 rfl) ?_
                        refine lv_iload hx hb d_T_findMatch_92 (lv_at hl 0 rfl) ?_
                        refine lv_if_ge (tgt := 103) hx hb d_T_findMatch_94 (by decide) (fun c_94 => ?_) (fun c_94 => ?_)
                        · refine lv_iload hx hb d_T_findMatch_103 (lv_at hl 0 rfl) ?_
                          refine lv_i2l (v := ((d ((nI b) + (nI j)).toNatClampNeg) - (cr (16 * a + j))).toInt64) hx hb d_T_findMatch_105 rfl ?_
                          refine lv_ladd hx hb d_T_findMatch_106 ?_
                          refine lv_lstore_n (lv' := [(3, .long ((misL n d (fun j => cr (16 * a + j)) b j) + (((d ((nI b) + (nI j)).toNatClampNeg) - (cr (16 * a + j))).toInt64))), (7, .int ((d ((nI b) + (nI j)).toNatClampNeg) - (cr (16 * a + j)))), (0, .ref o), (1, .int (nI a)), (2, .int (nI b)), (5, .int (nI (cv n d b j))), (6, .int (nI j))]) hx hb d_T_findMatch_107 rfl hl (by decide) rfl (fun ls hl => ?_)
                          refine lv_iinc (v := (nI (cv n d b j)) + 1) (lv' := [(5, .int ((nI (cv n d b j)) + 1)), (3, .long ((misL n d (fun j => cr (16 * a + j)) b j) + (((d ((nI b) + (nI j)).toNatClampNeg) - (cr (16 * a + j))).toInt64))), (7, .int ((d ((nI b) + (nI j)).toNatClampNeg) - (cr (16 * a + j)))), (0, .ref o), (1, .int (nI a)), (2, .int (nI b)), (6, .int (nI j))]) hx hb d_T_findMatch_108 hl (k := 5) rfl rfl (by decide) rfl (fun ls hl => ?_)
                          refine lv_iinc (v := (nI j) + 1) (lv' := [(6, .int ((nI j) + 1)), (5, .int ((nI (cv n d b j)) + 1)), (3, .long ((misL n d (fun j => cr (16 * a + j)) b j) + (((d ((nI b) + (nI j)).toNatClampNeg) - (cr (16 * a + j))).toInt64))), (7, .int ((d ((nI b) + (nI j)).toNatClampNeg) - (cr (16 * a + j)))), (0, .ref o), (1, .int (nI a)), (2, .int (nI b))]) hx hb d_T_findMatch_111 hl (k := 6) rfl rfl (by decide) rfl (fun ls hl => ?_)
                          refine lv_goto (tgt := 33) hx hb d_T_findMatch_114 (by decide) ?_
                          exact ih33 (j + 1) ((misL n d (fun j => cr (16 * a + j)) b j) + (((d ((nI b) + (nI j)).toNatClampNeg) - (cr (16 * a + j))).toInt64)) ((nI (cv n d b j)) + 1) ((nI j) + 1) ls (⟨by have := gj_in (by omega) hi1 c_41; omega, by omega, miT_2 (dpos h64 (pj_in h64 hb3 hi1 hL16 c_52) c_64) h64 (pj_in h64 hb3 hi1 hL16 c_52) rfl c_94, cvT_2 (dpos h64 (pj_in h64 hb3 hi1 hL16 c_52) c_64), nI_1 j⟩) (lv_sub hl [4, 5, 6, 2, 1, 0] rfl)
                        · refine lv_iload hx hb d_T_findMatch_97 (lv_at hl 0 rfl) ?_
                          refine lv_ineg hx hb d_T_findMatch_99 ?_
                          refine lv_goto (tgt := 105) hx hb d_T_findMatch_100 (by decide) ?_
                          refine lv_i2l (v := (-((d ((nI b) + (nI j)).toNatClampNeg) - (cr (16 * a + j)))).toInt64) hx hb d_T_findMatch_105 rfl ?_
                          refine lv_ladd hx hb d_T_findMatch_106 ?_
                          refine lv_lstore_n (lv' := [(3, .long ((misL n d (fun j => cr (16 * a + j)) b j) + ((-((d ((nI b) + (nI j)).toNatClampNeg) - (cr (16 * a + j)))).toInt64))), (7, .int ((d ((nI b) + (nI j)).toNatClampNeg) - (cr (16 * a + j)))), (0, .ref o), (1, .int (nI a)), (2, .int (nI b)), (5, .int (nI (cv n d b j))), (6, .int (nI j))]) hx hb d_T_findMatch_107 rfl hl (by decide) rfl (fun ls hl => ?_)
                          refine lv_iinc (v := (nI (cv n d b j)) + 1) (lv' := [(5, .int ((nI (cv n d b j)) + 1)), (3, .long ((misL n d (fun j => cr (16 * a + j)) b j) + ((-((d ((nI b) + (nI j)).toNatClampNeg) - (cr (16 * a + j)))).toInt64))), (7, .int ((d ((nI b) + (nI j)).toNatClampNeg) - (cr (16 * a + j)))), (0, .ref o), (1, .int (nI a)), (2, .int (nI b)), (6, .int (nI j))]) hx hb d_T_findMatch_108 hl (k := 5) rfl rfl (by decide) rfl (fun ls hl => ?_)
                          refine lv_iinc (v := (nI j) + 1) (lv' := [(6, .int ((nI j) + 1)), (5, .int ((nI (cv n d b j)) + 1)), (3, .long ((misL n d (fun j => cr (16 * a + j)) b j) + ((-((d ((nI b) + (nI j)).toNatClampNeg) - (cr (16 * a + j)))).toInt64))), (7, .int ((d ((nI b) + (nI j)).toNatClampNeg) - (cr (16 * a + j)))), (0, .ref o), (1, .int (nI a)), (2, .int (nI b))]) hx hb d_T_findMatch_111 hl (k := 6) rfl rfl (by decide) rfl (fun ls hl => ?_)
                          refine lv_goto (tgt := 33) hx hb d_T_findMatch_114 (by decide) ?_
                          exact ih33 (j + 1) ((misL n d (fun j => cr (16 * a + j)) b j) + ((-((d ((nI b) + (nI j)).toNatClampNeg) - (cr (16 * a + j)))).toInt64)) ((nI (cv n d b j)) + 1) ((nI j) + 1) ls (⟨by have := gj_in (by omega) hi1 c_41; omega, by omega, miT_3 (dpos h64 (pj_in h64 hb3 hi1 hL16 c_52) c_64) h64 (pj_in h64 hb3 hi1 hL16 c_52) rfl c_94, cvT_2 (dpos h64 (pj_in h64 hb3 hi1 hL16 c_52) c_64), nI_1 j⟩) (lv_sub hl [4, 5, 6, 2, 1, 0] rfl)
              exact loop_33 (L + 1) 0 0 0 0 ls (⟨by omega, by omega, rfl, rfl, rfl⟩) (lv_sub hl [3, 4, 5, 2, 1, 0] rfl)
        exact loop_17 (n + 1) 0 be1 bp1 bm1 bo1 0 _ _ ls (⟨by omega, by omega, rfl, hq1⟩) hP hD hS (lv_sub hl [1, 2, 0] rfl)
  exact loop_7 (ns + 1) 0 (-1) bp bm bo 0 _ _ ls (⟨by omega, by omega, rfl, rfl⟩) hP hD hS (lv_sub hl [1, 0] rfl)

set_option maxHeartbeats 4000000 in
set_option maxRecDepth 100000 in
/-- the reference: match(w) -/
theorem c_T_match__ok (l : Launch) (D : va_G) (cI cZ cJ cO : ClassId) (sz : Nat) (o dT gT la ca aa na ya ta : Nat) (n ns nn nr : Nat) (d g sl cr ak no ye tl : Nat → Int32) (th be bp bm : Int32) (bo : Int64) (h4 : 4 ≤ n) (h64 : n ≤ 64) (hd : dOK n d) (w9 : Int32) (hns : ns ≤ 8) (hsl : ∀ i, i < ns → 2 ≤ (sl i).toInt ∧ (sl i).toInt ≤ 16) : Met l y_T_match_ (wq y_T_match_ c_T_match_ 2 (some .int)) ({ frames := 2, cells := 0, slots := 0, locals := 54 }) (mP D (TY cI cZ cJ cO) [(o, .inr (7, [.int th, .int (nI n), .ref dT, .ref gT, .int (nI ns), .ref la, .ref ca, .int (nI nn), .ref aa, .ref na, .ref ya, .int (nI nr), .ref ta, .int be, .int bp, .long bo, .int bm])), (dT, .inl (cI, 64, .inl d)), (gT, .inl (cZ, 64, .inl g)), (la, .inl (cI, 8, .inl sl)), (ca, .inl (cI, 128, .inl cr)), (aa, .inl (cI, 16, .inl ak)), (na, .inl (cI, 16, .inl no)), (ya, .inl (cI, 16, .inl ye)), (ta, .inl (cI, 48, .inl tl))] [.ref o, .int w9] sz) (va_Qi (fun (r : Int32) (u : va_W) => ((cMat (mtS n d sl cr (-1, bp, bo, bm) ns).1 w9 = 0 ∧ u = [(o, .inr (7, [.int 0, .int (nI n), .ref dT, .ref gT, .int (nI ns), .ref la, .ref ca, .int (nI nn), .ref aa, .ref na, .ref ya, .int (nI nr), .ref ta, .int ((mtS n d sl cr (-1, bp, bo, bm) ns).1), .int ((mtS n d sl cr (-1, bp, bo, bm) ns).2.1), .long ((mtS n d sl cr (-1, bp, bo, bm) ns).2.2.1), .int ((mtS n d sl cr (-1, bp, bo, bm) ns).2.2.2)])), (dT, .inl (cI, 64, .inl d)), (gT, .inl (cZ, 64, .inl g)), (la, .inl (cI, 8, .inl sl)), (ca, .inl (cI, 128, .inl cr)), (aa, .inl (cI, 16, .inl ak)), (na, .inl (cI, 16, .inl no)), (ya, .inl (cI, 16, .inl ye)), (ta, .inl (cI, 48, .inl tl))] ∧ r = aMat (mtS n d sl cr (-1, bp, bo, bm) ns) w9) ∨ (¬ cMat (mtS n d sl cr (-1, bp, bo, bm) ns).1 w9 = 0 ∧ u = [(o, .inr (7, [.int (cMat (mtS n d sl cr (-1, bp, bo, bm) ns).1 w9), .int (nI n), .ref dT, .ref gT, .int (nI ns), .ref la, .ref ca, .int (nI nn), .ref aa, .ref na, .ref ya, .int (nI nr), .ref ta, .int ((mtS n d sl cr (-1, bp, bo, bm) ns).1), .int ((mtS n d sl cr (-1, bp, bo, bm) ns).2.1), .long ((mtS n d sl cr (-1, bp, bo, bm) ns).2.2.1), .int ((mtS n d sl cr (-1, bp, bo, bm) ns).2.2.2)])), (dT, .inl (cI, 64, .inl d)), (gT, .inl (cZ, 64, .inl g)), (la, .inl (cI, 8, .inl sl)), (ca, .inl (cI, 128, .inl cr)), (aa, .inl (cI, 16, .inl ak)), (na, .inl (cI, 16, .inl no)), (ya, .inl (cI, 16, .inl ye)), (ta, .inl (cI, 48, .inl tl))]))) (mB D (TY cI cZ cJ cO) (va_A [(o, .inr (7, [.int th, .int (nI n), .ref dT, .ref gT, .int (nI ns), .ref la, .ref ca, .int (nI nn), .ref aa, .ref na, .ref ya, .int (nI nr), .ref ta, .int be, .int bp, .long bo, .int bm])), (dT, .inl (cI, 64, .inl d)), (gT, .inl (cZ, 64, .inl g)), (la, .inl (cI, 8, .inl sl)), (ca, .inl (cI, 128, .inl cr)), (aa, .inl (cI, 16, .inl ak)), (na, .inl (cI, 16, .inl no)), (ya, .inl (cI, 16, .inl ye)), (ta, .inl (cI, 48, .inl tl))] sz)) (va_A [(o, .inr (7, [.int th, .int (nI n), .ref dT, .ref gT, .int (nI ns), .ref la, .ref ca, .int (nI nn), .ref aa, .ref na, .ref ya, .int (nI nr), .ref ta, .int be, .int bp, .long bo, .int bm])), (dT, .inl (cI, 64, .inl d)), (gT, .inl (cZ, 64, .inl g)), (la, .inl (cI, 8, .inl sl)), (ca, .inl (cI, 128, .inl cr)), (aa, .inl (cI, 16, .inl ak)), (na, .inl (cI, 16, .inl no)), (ya, .inl (cI, 16, .inl ye)), (ta, .inl (cI, 48, .inl tl))] sz)) 0 0 (va_A [(o, .inr (7, [.int th, .int (nI n), .ref dT, .ref gT, .int (nI ns), .ref la, .ref ca, .int (nI nn), .ref aa, .ref na, .ref ya, .int (nI nr), .ref ta, .int be, .int bp, .long bo, .int bm])), (dT, .inl (cI, 64, .inl d)), (gT, .inl (cZ, 64, .inl g)), (la, .inl (cI, 8, .inl sl)), (ca, .inl (cI, 128, .inl cr)), (aa, .inl (cI, 16, .inl ak)), (na, .inl (cI, 16, .inl no)), (ya, .inl (cI, 16, .inl ye)), (ta, .inl (cI, 48, .inl tl))] sz) := by
  refine Met.ofW (cc := c_T_match_) (maxL := 2) (ret := (some .int)) (by decide) rfl ?_
  intro p e s m args below meth c s₁ B hml hv
  obtain ⟨rfl, hsz, hP, hK, hD0, hN⟩ := hv
  have hx := B.exec
  have hb := B.bytes
  have hr := B.returns
  have hg := gt_h (atoms_spec (ws := (wq y_T_match_ c_T_match_ 2 (some .int))) B.pre)
  have hown : s.vm.findClass "RubbingMirrorsModel" = some m.cls := findClass_of_methodNamed B.named
  have hlocks := B.notSynchronized
  subst hsz
  have hD := hD0.self (sz := s.heap.size)
  generalize hAe : va_A [(o, .inr (7, [.int th, .int (nI n), .ref dT, .ref gT, .int (nI ns), .ref la, .ref ca, .int (nI nn), .ref aa, .ref na, .ref ya, .int (nI nr), .ref ta, .int be, .int bp, .long bo, .int bm])), (dT, .inl (cI, 64, .inl d)), (gT, .inl (cZ, 64, .inl g)), (la, .inl (cI, 8, .inl sl)), (ca, .inl (cI, 128, .inl cr)), (aa, .inl (cI, 16, .inl ak)), (na, .inl (cI, 16, .inl no)), (ya, .inl (cI, 16, .inl ye)), (ta, .inl (cI, 48, .inl tl))] s.heap.size = A at hD ⊢
  have hA : ∀ q : Nat, s.heap.size ≤ q → A q := fun q h => by rw [← hAe]; exact Or.inr h
  have hS : va_S A s.heap s.heap [] := va_S.rf
  have hl := lv_entry ([.ref o, .int w9]) (n := 2) (Nat.le_of_ble_eq_true rfl)
  rw [lg_entry_eq]
  generalize (lg_sl ([.ref o, .int w9]) ++ List.replicate (2 - (lg_sl ([.ref o, .int w9])).length) Slot.unset).toArray = ls at hl ⊢
  have hl : lv_has ls 2 [(0, .ref o), (1, .int w9)] := hl
  refine lv_aload_n hx hb d_T_match__0 rfl (lv_at hl 0 rfl) ?_
  have hP := hP.sub (ws' := [(o, .inr (7, [.int th, .int (nI n), .ref dT, .ref gT, .int (nI ns), .ref la, .ref ca, .int (nI nn), .ref aa, .ref na, .ref ya, .int (nI nr), .ref ta, .int be, .int bp, .long bo, .int bm])), (dT, .inl (cI, 64, .inl d)), (gT, .inl (cZ, 64, .inl g)), (la, .inl (cI, 8, .inl sl)), (ca, .inl (cI, 128, .inl cr)), (aa, .inl (cI, 16, .inl ak)), (na, .inl (cI, 16, .inl no)), (ya, .inl (cI, 16, .inl ye)), (ta, .inl (cI, 48, .inl tl))] ++ []) [0, 1, 2, 3, 4, 5, 6, 7, 8] rfl
  have hD := hD.sub (ws' := [(o, .inr (7, [.int th, .int (nI n), .ref dT, .ref gT, .int (nI ns), .ref la, .ref ca, .int (nI nn), .ref aa, .ref na, .ref ya, .int (nI nr), .ref ta, .int be, .int bp, .long bo, .int bm])), (dT, .inl (cI, 64, .inl d)), (gT, .inl (cZ, 64, .inl g)), (la, .inl (cI, 8, .inl sl)), (ca, .inl (cI, 128, .inl cr)), (aa, .inl (cI, 16, .inl ak)), (na, .inl (cI, 16, .inl no)), (ya, .inl (cI, 16, .inl ye)), (ta, .inl (cI, 48, .inl tl))] ++ []) [0, 1, 2, 3, 4, 5, 6, 7, 8] (by decide) rfl
  refine mcallv (wc := [(o, .inr (7, [.int th, .int (nI n), .ref dT, .ref gT, .int (nI ns), .ref la, .ref ca, .int (nI nn), .ref aa, .ref na, .ref ya, .int (nI nr), .ref ta, .int be, .int bp, .long bo, .int bm])), (dT, .inl (cI, 64, .inl d)), (gT, .inl (cZ, 64, .inl g)), (la, .inl (cI, 8, .inl sl)), (ca, .inl (cI, 128, .inl cr)), (aa, .inl (cI, 16, .inl ak)), (na, .inl (cI, 16, .inl no)), (ya, .inl (cI, 16, .inl ye)), (ta, .inl (cI, 48, .inl tl))]) (wr := []) (va_runV (As := []) (rest := []) ⟨hx, hb, hml, hown, hg⟩ (c_T_findMatch_ok l D cI cZ cJ cO s.heap.size o dT gT la ca aa na ya ta n ns nn nr d g sl cr ak no ye tl th be bp bm bo h4 h64 hd hns hsl) (cwV 0 hg (gv g_766 g_768 g_15 g_26 g_769) rfl rfl rfl (by decide +kernel) ⟨Nat.le_of_ble_eq_true rfl, Nat.le_of_ble_eq_true rfl⟩) (mV (ba_Pl hP) hK hN (ba_Dl hD) (va_recv hK (ba_Pl hP) (ci := 7) (q0 := 0) rfl rfl)) rfl rfl hl.1 rfl (lv_room (Nat.le_of_ble_eq_true rfl)) d_T_match__1 ⟨Nat.le_of_ble_eq_true rfl, Nat.le_of_ble_eq_true rfl⟩) hP hD hS hA (fun u_1 H locs hu_1 hP hD hS => ?_)
  subst hu_1
  have hP : va_P D cls [(o, .inr (7, [.int th, .int (nI n), .ref dT, .ref gT, .int (nI ns), .ref la, .ref ca, .int (nI nn), .ref aa, .ref na, .ref ya, .int (nI nr), .ref ta, .int ((mtS n d sl cr (-1, bp, bo, bm) ns).1), .int ((mtS n d sl cr (-1, bp, bo, bm) ns).2.1), .long ((mtS n d sl cr (-1, bp, bo, bm) ns).2.2.1), .int ((mtS n d sl cr (-1, bp, bo, bm) ns).2.2.2)])), (dT, .inl (cI, 64, .inl d)), (gT, .inl (cZ, 64, .inl g)), (la, .inl (cI, 8, .inl sl)), (ca, .inl (cI, 128, .inl cr)), (aa, .inl (cI, 16, .inl ak)), (na, .inl (cI, 16, .inl no)), (ya, .inl (cI, 16, .inl ye)), (ta, .inl (cI, 48, .inl tl))] H := hP
  have hD : va_D A [(o, .inr (7, [.int th, .int (nI n), .ref dT, .ref gT, .int (nI ns), .ref la, .ref ca, .int (nI nn), .ref aa, .ref na, .ref ya, .int (nI nr), .ref ta, .int ((mtS n d sl cr (-1, bp, bo, bm) ns).1), .int ((mtS n d sl cr (-1, bp, bo, bm) ns).2.1), .long ((mtS n d sl cr (-1, bp, bo, bm) ns).2.2.1), .int ((mtS n d sl cr (-1, bp, bo, bm) ns).2.2.2)])), (dT, .inl (cI, 64, .inl d)), (gT, .inl (cZ, 64, .inl g)), (la, .inl (cI, 8, .inl sl)), (ca, .inl (cI, 128, .inl cr)), (aa, .inl (cI, 16, .inl ak)), (na, .inl (cI, 16, .inl no)), (ya, .inl (cI, 16, .inl ye)), (ta, .inl (cI, 48, .inl tl))] := hD
  obtain ⟨⟨be1, bp1, bo1, bm1⟩, hfm⟩ : ∃ t, t = (mtS n d sl cr (-1, bp, bo, bm) ns) := ⟨_, rfl⟩
  rw [← hfm] at hP hD ⊢
  have hP : va_P D cls [(o, .inr (7, [.int th, .int (nI n), .ref dT, .ref gT, .int (nI ns), .ref la, .ref ca, .int (nI nn), .ref aa, .ref na, .ref ya, .int (nI nr), .ref ta, .int be1, .int bp1, .long bo1, .int bm1])), (dT, .inl (cI, 64, .inl d)), (gT, .inl (cZ, 64, .inl g)), (la, .inl (cI, 8, .inl sl)), (ca, .inl (cI, 128, .inl cr)), (aa, .inl (cI, 16, .inl ak)), (na, .inl (cI, 16, .inl no)), (ya, .inl (cI, 16, .inl ye)), (ta, .inl (cI, 48, .inl tl))] H := hP
  have hD : va_D A [(o, .inr (7, [.int th, .int (nI n), .ref dT, .ref gT, .int (nI ns), .ref la, .ref ca, .int (nI nn), .ref aa, .ref na, .ref ya, .int (nI nr), .ref ta, .int be1, .int bp1, .long bo1, .int bm1])), (dT, .inl (cI, 64, .inl d)), (gT, .inl (cZ, 64, .inl g)), (la, .inl (cI, 8, .inl sl)), (ca, .inl (cI, 128, .inl cr)), (aa, .inl (cI, 16, .inl ak)), (na, .inl (cI, 16, .inl no)), (ya, .inl (cI, 16, .inl ye)), (ta, .inl (cI, 48, .inl tl))] := hD
  refine lv_aload_n hx hb d_T_match__4 rfl (lv_at hl 0 rfl) ?_
  refine lv_aload_n hx hb d_T_match__5 rfl (lv_at hl 0 rfl) ?_
  refine va_get (D := D) (ci := 7) (v := .int be1) (C := Q_T) (T := F_T) (N := 17) hx hb hg in_T hown hK hP 0 rfl rfl 13 (by decide) (hg _ g_652) (fun _ h9 => h9) rfl d_T_match__6 ?_
  refine lv_iconst (v := (-1)) hx hb d_T_match__9 (by decide) ?_
  refine lv_icmp_ne (tgt := 17) hx hb d_T_match__10 (by decide) (fun c_10 => ?_) (fun c_10 => ?_)
  · refine lv_iload_n hx hb d_T_match__17 rfl (lv_at hl 1 rfl) ?_
    refine lv_i2l (v := w9.toInt64) hx hb d_T_match__18 rfl ?_
    refine lv_lconst (v := 0) hx hb d_T_match__19 (by decide) ?_
    refine lv_ldc2 (v := 3) hx hb hown (hg _ g_770) d_T_match__20 ?_
    refine vp_callSi (va_Run.run (va_runS (As := [.long w9.toInt64, .long 0, .long 3]) (rest := [.ref o]) ⟨hx, hb, hml, hown, hg⟩ (c_T_isIn_ok l D cI cZ cJ cO w9.toInt64 0 3) (va_cwS 3 hg (gs2 g_703 g_704 g_26 g_705) rfl rfl rfl (by decide +kernel) ⟨Nat.le_of_ble_eq_true rfl, Nat.le_of_ble_eq_true rfl⟩) (pS ba_nil hK hN) rfl rfl hl.1 rfl (lv_room (Nat.le_of_ble_eq_true rfl)) d_T_match__23 ⟨Nat.zero_le _, Nat.zero_le _⟩)) (fun r_3 hr_3 => ?_)
    subst hr_3
    rw [lw_c (v := w9) (lo := 0) (hi := 3) (by decide) (by decide)]
    refine lv_if_ne (tgt := 33) hx hb d_T_match__26 (by decide) (fun c_26 => ?_) (fun c_26 => ?_)
    · refine lv_iconst (v := 0) hx hb d_T_match__33 (by decide) ?_
      refine va_put (D := D) (ci := 7) (v := .int 0) (ty := .int) (C := Q_T) (T := F_T) (N := 17) hx hb hg in_T tq_T tq_T_ok n_T hown hK hP hD hS 0 rfl rfl 0 (by decide) (hg _ g_639) (fun _ h9 => h9) rfl (by decide +kernel) rfl rfl (Nat.le_of_ble_eq_true rfl) d_T_match__34 (fun H locs hP hD hS => ?_)
      have hP : va_P D cls [(o, .inr (7, [.int 0, .int (nI n), .ref dT, .ref gT, .int (nI ns), .ref la, .ref ca, .int (nI nn), .ref aa, .ref na, .ref ya, .int (nI nr), .ref ta, .int be1, .int bp1, .long bo1, .int bm1])), (dT, .inl (cI, 64, .inl d)), (gT, .inl (cZ, 64, .inl g)), (la, .inl (cI, 8, .inl sl)), (ca, .inl (cI, 128, .inl cr)), (aa, .inl (cI, 16, .inl ak)), (na, .inl (cI, 16, .inl no)), (ya, .inl (cI, 16, .inl ye)), (ta, .inl (cI, 48, .inl tl))] H := hP
      have hD : va_D A [(o, .inr (7, [.int 0, .int (nI n), .ref dT, .ref gT, .int (nI ns), .ref la, .ref ca, .int (nI nn), .ref aa, .ref na, .ref ya, .int (nI nr), .ref ta, .int be1, .int bp1, .long bo1, .int bm1])), (dT, .inl (cI, 64, .inl d)), (gT, .inl (cZ, 64, .inl g)), (la, .inl (cI, 8, .inl sl)), (ca, .inl (cI, 128, .inl cr)), (aa, .inl (cI, 16, .inl ak)), (na, .inl (cI, 16, .inl no)), (ya, .inl (cI, 16, .inl ye)), (ta, .inl (cI, 48, .inl tl))] := hD
      refine lv_aload_n hx hb d_T_match__37 rfl (lv_at hl 0 rfl) ?_
      refine va_get (D := D) (ci := 7) (v := .int 0) (C := Q_T) (T := F_T) (N := 17) hx hb hg in_T hown hK hP 0 rfl rfl 0 (by decide) (hg _ g_639) (fun _ h9 => h9) rfl d_T_match__38 ?_
      refine lv_if_le (tgt := 48) hx hb d_T_match__41 (by decide) (fun c_41 => ?_) (fun c_41 => ?_)
      · refine lv_iload_n hx hb d_T_match__48 rfl (lv_at hl 1 rfl) ?_
        refine lv_if_ne (tgt := 59) hx hb d_T_match__49 (by decide) (fun c_49 => ?_) (fun c_49 => ?_)
        · refine lv_iload_n hx hb d_T_match__59 rfl (lv_at hl 1 rfl) ?_
          refine lv_iconst (v := 1) hx hb d_T_match__60 (by decide) ?_
          refine lv_icmp_ne (tgt := 71) hx hb d_T_match__61 (by decide) (fun c_61 => ?_) (fun c_61 => ?_)
          · refine lv_iload_n hx hb d_T_match__71 rfl (lv_at hl 1 rfl) ?_
            refine lv_iconst (v := 2) hx hb d_T_match__72 (by decide) ?_
            refine lv_icmp_ne (tgt := 84) hx hb d_T_match__73 (by decide) (fun c_73 => ?_) (fun c_73 => ?_)
            · refine lv_aload_n hx hb d_T_match__84 rfl (lv_at hl 0 rfl) ?_
              refine va_get (D := D) (ci := 7) (v := .int bm1) (C := Q_T) (T := F_T) (N := 17) hx hb hg in_T hown hK hP 0 rfl rfl 16 (by decide) (hg _ g_655) (fun _ h9 => h9) rfl d_T_match__85 ?_
              exact W.iret hx hb hr (fun t9 ht hW => ⟨⟨_, [(o, .inr (7, [.int 0, .int (nI n), .ref dT, .ref gT, .int (nI ns), .ref la, .ref ca, .int (nI nn), .ref aa, .ref na, .ref ya, .int (nI nr), .ref ta, .int be1, .int bp1, .long bo1, .int bm1])), (dT, .inl (cI, 64, .inl d)), (gT, .inl (cZ, 64, .inl g)), (la, .inl (cI, 8, .inl sl)), (ca, .inl (cI, 128, .inl cr)), (aa, .inl (cI, 16, .inl ak)), (na, .inl (cI, 16, .inl no)), (ya, .inl (cI, 16, .inl ye)), (ta, .inl (cI, 48, .inl tl))], rfl, Or.inl ⟨cx_0 c_10 c_26, rfl, by unfold aMat; first | rw [if_pos c_49] | rw [if_neg c_49, if_pos c_61] | rw [if_neg c_49, if_neg c_61, if_pos c_73] | rw [if_neg c_49, if_neg c_61, if_neg c_73]⟩, by rw [ht]; exact hP, va_K.moved hW.alike hK, hD⟩, hS.F ht⟩) hS.2.2 d_T_match__88
            · refine lv_aload_n hx hb d_T_match__76 rfl (lv_at hl 0 rfl) ?_
              refine va_get (D := D) (ci := 7) (v := .long bo1) (C := Q_T) (T := F_T) (N := 17) hx hb hg in_T hown hK hP 0 rfl rfl 15 (by decide) (hg _ g_654) (fun _ h9 => h9) rfl d_T_match__77 ?_
              refine lv_l2i (v := bo1.toInt32) hx hb d_T_match__80 rfl ?_
              refine lv_goto (tgt := 88) hx hb d_T_match__81 (by decide) ?_
              exact W.iret hx hb hr (fun t9 ht hW => ⟨⟨_, [(o, .inr (7, [.int 0, .int (nI n), .ref dT, .ref gT, .int (nI ns), .ref la, .ref ca, .int (nI nn), .ref aa, .ref na, .ref ya, .int (nI nr), .ref ta, .int be1, .int bp1, .long bo1, .int bm1])), (dT, .inl (cI, 64, .inl d)), (gT, .inl (cZ, 64, .inl g)), (la, .inl (cI, 8, .inl sl)), (ca, .inl (cI, 128, .inl cr)), (aa, .inl (cI, 16, .inl ak)), (na, .inl (cI, 16, .inl no)), (ya, .inl (cI, 16, .inl ye)), (ta, .inl (cI, 48, .inl tl))], rfl, Or.inl ⟨cx_0 c_10 c_26, rfl, by unfold aMat; first | rw [if_pos c_49] | rw [if_neg c_49, if_pos c_61] | rw [if_neg c_49, if_neg c_61, if_pos c_73] | rw [if_neg c_49, if_neg c_61, if_neg c_73]⟩, by rw [ht]; exact hP, va_K.moved hW.alike hK, hD⟩, hS.F ht⟩) hS.2.2 d_T_match__88
          · refine lv_aload_n hx hb d_T_match__64 rfl (lv_at hl 0 rfl) ?_
            refine va_get (D := D) (ci := 7) (v := .int bp1) (C := Q_T) (T := F_T) (N := 17) hx hb hg in_T hown hK hP 0 rfl rfl 14 (by decide) (hg _ g_653) (fun _ h9 => h9) rfl d_T_match__65 ?_
            refine lv_goto (tgt := 88) hx hb d_T_match__68 (by decide) ?_
            exact W.iret hx hb hr (fun t9 ht hW => ⟨⟨_, [(o, .inr (7, [.int 0, .int (nI n), .ref dT, .ref gT, .int (nI ns), .ref la, .ref ca, .int (nI nn), .ref aa, .ref na, .ref ya, .int (nI nr), .ref ta, .int be1, .int bp1, .long bo1, .int bm1])), (dT, .inl (cI, 64, .inl d)), (gT, .inl (cZ, 64, .inl g)), (la, .inl (cI, 8, .inl sl)), (ca, .inl (cI, 128, .inl cr)), (aa, .inl (cI, 16, .inl ak)), (na, .inl (cI, 16, .inl no)), (ya, .inl (cI, 16, .inl ye)), (ta, .inl (cI, 48, .inl tl))], rfl, Or.inl ⟨cx_0 c_10 c_26, rfl, by unfold aMat; first | rw [if_pos c_49] | rw [if_neg c_49, if_pos c_61] | rw [if_neg c_49, if_neg c_61, if_pos c_73] | rw [if_neg c_49, if_neg c_61, if_neg c_73]⟩, by rw [ht]; exact hP, va_K.moved hW.alike hK, hD⟩, hS.F ht⟩) hS.2.2 d_T_match__88
        · refine lv_aload_n hx hb d_T_match__52 rfl (lv_at hl 0 rfl) ?_
          refine va_get (D := D) (ci := 7) (v := .int be1) (C := Q_T) (T := F_T) (N := 17) hx hb hg in_T hown hK hP 0 rfl rfl 13 (by decide) (hg _ g_652) (fun _ h9 => h9) rfl d_T_match__53 ?_
          refine lv_goto (tgt := 88) hx hb d_T_match__56 (by decide) ?_
          exact W.iret hx hb hr (fun t9 ht hW => ⟨⟨_, [(o, .inr (7, [.int 0, .int (nI n), .ref dT, .ref gT, .int (nI ns), .ref la, .ref ca, .int (nI nn), .ref aa, .ref na, .ref ya, .int (nI nr), .ref ta, .int be1, .int bp1, .long bo1, .int bm1])), (dT, .inl (cI, 64, .inl d)), (gT, .inl (cZ, 64, .inl g)), (la, .inl (cI, 8, .inl sl)), (ca, .inl (cI, 128, .inl cr)), (aa, .inl (cI, 16, .inl ak)), (na, .inl (cI, 16, .inl no)), (ya, .inl (cI, 16, .inl ye)), (ta, .inl (cI, 48, .inl tl))], rfl, Or.inl ⟨cx_0 c_10 c_26, rfl, by unfold aMat; first | rw [if_pos c_49] | rw [if_neg c_49, if_pos c_61] | rw [if_neg c_49, if_neg c_61, if_pos c_73] | rw [if_neg c_49, if_neg c_61, if_neg c_73]⟩, by rw [ht]; exact hP, va_K.moved hW.alike hK, hD⟩, hS.F ht⟩) hS.2.2 d_T_match__88
      · exact absurd c_41 (by decide)
    · refine lv_iconst (v := 2) hx hb d_T_match__29 (by decide) ?_
      refine lv_goto (tgt := 34) hx hb d_T_match__30 (by decide) ?_
      refine va_put (D := D) (ci := 7) (v := .int 2) (ty := .int) (C := Q_T) (T := F_T) (N := 17) hx hb hg in_T tq_T tq_T_ok n_T hown hK hP hD hS 0 rfl rfl 0 (by decide) (hg _ g_639) (fun _ h9 => h9) rfl (by decide +kernel) rfl rfl (Nat.le_of_ble_eq_true rfl) d_T_match__34 (fun H locs hP hD hS => ?_)
      have hP : va_P D cls [(o, .inr (7, [.int 2, .int (nI n), .ref dT, .ref gT, .int (nI ns), .ref la, .ref ca, .int (nI nn), .ref aa, .ref na, .ref ya, .int (nI nr), .ref ta, .int be1, .int bp1, .long bo1, .int bm1])), (dT, .inl (cI, 64, .inl d)), (gT, .inl (cZ, 64, .inl g)), (la, .inl (cI, 8, .inl sl)), (ca, .inl (cI, 128, .inl cr)), (aa, .inl (cI, 16, .inl ak)), (na, .inl (cI, 16, .inl no)), (ya, .inl (cI, 16, .inl ye)), (ta, .inl (cI, 48, .inl tl))] H := hP
      have hD : va_D A [(o, .inr (7, [.int 2, .int (nI n), .ref dT, .ref gT, .int (nI ns), .ref la, .ref ca, .int (nI nn), .ref aa, .ref na, .ref ya, .int (nI nr), .ref ta, .int be1, .int bp1, .long bo1, .int bm1])), (dT, .inl (cI, 64, .inl d)), (gT, .inl (cZ, 64, .inl g)), (la, .inl (cI, 8, .inl sl)), (ca, .inl (cI, 128, .inl cr)), (aa, .inl (cI, 16, .inl ak)), (na, .inl (cI, 16, .inl no)), (ya, .inl (cI, 16, .inl ye)), (ta, .inl (cI, 48, .inl tl))] := hD
      refine lv_aload_n hx hb d_T_match__37 rfl (lv_at hl 0 rfl) ?_
      refine va_get (D := D) (ci := 7) (v := .int 2) (C := Q_T) (T := F_T) (N := 17) hx hb hg in_T hown hK hP 0 rfl rfl 0 (by decide) (hg _ g_639) (fun _ h9 => h9) rfl d_T_match__38 ?_
      refine lv_if_le (tgt := 48) hx hb d_T_match__41 (by decide) (fun c_41 => ?_) (fun c_41 => ?_)
      · exact absurd c_41 (by decide)
      · refine lv_iconst (v := 0) hx hb d_T_match__44 (by decide) ?_
        refine lv_goto (tgt := 88) hx hb d_T_match__45 (by decide) ?_
        exact W.iret hx hb hr (fun t9 ht hW => ⟨⟨_, [(o, .inr (7, [.int 2, .int (nI n), .ref dT, .ref gT, .int (nI ns), .ref la, .ref ca, .int (nI nn), .ref aa, .ref na, .ref ya, .int (nI nr), .ref ta, .int be1, .int bp1, .long bo1, .int bm1])), (dT, .inl (cI, 64, .inl d)), (gT, .inl (cZ, 64, .inl g)), (la, .inl (cI, 8, .inl sl)), (ca, .inl (cI, 128, .inl cr)), (aa, .inl (cI, 16, .inl ak)), (na, .inl (cI, 16, .inl no)), (ya, .inl (cI, 16, .inl ye)), (ta, .inl (cI, 48, .inl tl))], rfl, Or.inr ⟨by first | (rw [cx_1 c_10]; decide) | (rw [cx_2 c_10 c_26]; decide), by first | rw [cx_1 c_10] | rw [cx_2 c_10 c_26]⟩, by rw [ht]; exact hP, va_K.moved hW.alike hK, hD⟩, hS.F ht⟩) hS.2.2 d_T_match__88
  · refine lv_iconst (v := 1) hx hb d_T_match__13 (by decide) ?_
    refine lv_goto (tgt := 34) hx hb d_T_match__14 (by decide) ?_
    refine va_put (D := D) (ci := 7) (v := .int 1) (ty := .int) (C := Q_T) (T := F_T) (N := 17) hx hb hg in_T tq_T tq_T_ok n_T hown hK hP hD hS 0 rfl rfl 0 (by decide) (hg _ g_639) (fun _ h9 => h9) rfl (by decide +kernel) rfl rfl (Nat.le_of_ble_eq_true rfl) d_T_match__34 (fun H locs hP hD hS => ?_)
    have hP : va_P D cls [(o, .inr (7, [.int 1, .int (nI n), .ref dT, .ref gT, .int (nI ns), .ref la, .ref ca, .int (nI nn), .ref aa, .ref na, .ref ya, .int (nI nr), .ref ta, .int be1, .int bp1, .long bo1, .int bm1])), (dT, .inl (cI, 64, .inl d)), (gT, .inl (cZ, 64, .inl g)), (la, .inl (cI, 8, .inl sl)), (ca, .inl (cI, 128, .inl cr)), (aa, .inl (cI, 16, .inl ak)), (na, .inl (cI, 16, .inl no)), (ya, .inl (cI, 16, .inl ye)), (ta, .inl (cI, 48, .inl tl))] H := hP
    have hD : va_D A [(o, .inr (7, [.int 1, .int (nI n), .ref dT, .ref gT, .int (nI ns), .ref la, .ref ca, .int (nI nn), .ref aa, .ref na, .ref ya, .int (nI nr), .ref ta, .int be1, .int bp1, .long bo1, .int bm1])), (dT, .inl (cI, 64, .inl d)), (gT, .inl (cZ, 64, .inl g)), (la, .inl (cI, 8, .inl sl)), (ca, .inl (cI, 128, .inl cr)), (aa, .inl (cI, 16, .inl ak)), (na, .inl (cI, 16, .inl no)), (ya, .inl (cI, 16, .inl ye)), (ta, .inl (cI, 48, .inl tl))] := hD
    refine lv_aload_n hx hb d_T_match__37 rfl (lv_at hl 0 rfl) ?_
    refine va_get (D := D) (ci := 7) (v := .int 1) (C := Q_T) (T := F_T) (N := 17) hx hb hg in_T hown hK hP 0 rfl rfl 0 (by decide) (hg _ g_639) (fun _ h9 => h9) rfl d_T_match__38 ?_
    refine lv_if_le (tgt := 48) hx hb d_T_match__41 (by decide) (fun c_41 => ?_) (fun c_41 => ?_)
    · exact absurd c_41 (by decide)
    · refine lv_iconst (v := 0) hx hb d_T_match__44 (by decide) ?_
      refine lv_goto (tgt := 88) hx hb d_T_match__45 (by decide) ?_
      exact W.iret hx hb hr (fun t9 ht hW => ⟨⟨_, [(o, .inr (7, [.int 1, .int (nI n), .ref dT, .ref gT, .int (nI ns), .ref la, .ref ca, .int (nI nn), .ref aa, .ref na, .ref ya, .int (nI nr), .ref ta, .int be1, .int bp1, .long bo1, .int bm1])), (dT, .inl (cI, 64, .inl d)), (gT, .inl (cZ, 64, .inl g)), (la, .inl (cI, 8, .inl sl)), (ca, .inl (cI, 128, .inl cr)), (aa, .inl (cI, 16, .inl ak)), (na, .inl (cI, 16, .inl no)), (ya, .inl (cI, 16, .inl ye)), (ta, .inl (cI, 48, .inl tl))], rfl, Or.inr ⟨by first | (rw [cx_1 c_10]; decide) | (rw [cx_2 c_10 c_26]; decide), by first | rw [cx_1 c_10] | rw [cx_2 c_10 c_26]⟩, by rw [ht]; exact hP, va_K.moved hW.alike hK, hD⟩, hS.F ht⟩) hS.2.2 d_T_match__88

set_option maxHeartbeats 4000000 in
set_option maxRecDepth 100000 in
/-- the reference: its making -/
theorem c_T_init_ok (l : Launch) (D : va_G) (cI cZ cJ cO : ClassId) (sz : Nat) (o : Nat) (k9 : Int32) : Met l y_T_init (wq y_T_init c_T_init 3 none) ({ frames := 1, cells := 8, slots := 360, locals := 24 }) (mP D (TY cI cZ cJ cO) [(o, .inr (7, [.int 0, .int 0, .null, .null, .int 0, .null, .null, .int 0, .null, .null, .null, .int 0, .null, .int 0, .int 0, .long 0, .int 0]))] [.ref o, .int k9] sz) (va_Qv (fun (u : va_W) => ∃ dT gT la ca aa na ya ta : Nat, u = [(o, .inr (7, [.int 0, .int (nI (ncl k9)), .ref dT, .ref gT, .int (nI 0), .ref la, .ref ca, .int (nI 0), .ref aa, .ref na, .ref ya, .int (nI 0), .ref ta, .int 0, .int 0, .long 0, .int 0])), (dT, .inl (cI, 64, .inl (fun _ => -1))), (gT, .inl (cZ, 64, .inl (fun _ => 0))), (la, .inl (cI, 8, .inl (fun _ => 0))), (ca, .inl (cI, 128, .inl (fun _ => 0))), (aa, .inl (cI, 16, .inl (fun _ => 0))), (na, .inl (cI, 16, .inl (fun _ => 0))), (ya, .inl (cI, 16, .inl (fun _ => 0))), (ta, .inl (cI, 48, .inl (fun _ => 0)))]) (mB D (TY cI cZ cJ cO) (va_A [(o, .inr (7, [.int 0, .int 0, .null, .null, .int 0, .null, .null, .int 0, .null, .null, .null, .int 0, .null, .int 0, .int 0, .long 0, .int 0]))] sz)) (va_A [(o, .inr (7, [.int 0, .int 0, .null, .null, .int 0, .null, .null, .int 0, .null, .null, .null, .int 0, .null, .int 0, .int 0, .long 0, .int 0]))] sz)) 8 360 (va_A [(o, .inr (7, [.int 0, .int 0, .null, .null, .int 0, .null, .null, .int 0, .null, .null, .null, .int 0, .null, .int 0, .int 0, .long 0, .int 0]))] sz) := by
  refine Met.ofW (cc := c_T_init) (maxL := 3) (ret := none) (by decide) rfl ?_
  intro p e s m args below meth c s₁ B hml hv
  obtain ⟨rfl, hsz, hP, hK, hD0, hN⟩ := hv
  have hx := B.exec
  have hb := B.bytes
  have hr := B.returns
  have hg := gt_h (atoms_spec (ws := (wq y_T_init c_T_init 3 none)) B.pre)
  have hown : s.vm.findClass "RubbingMirrorsModel" = some m.cls := findClass_of_methodNamed B.named
  have hlocks := B.notSynchronized
  have hin : meth.name = "<init>" := (name_of_methodNamed B.named B.method).1
  subst hsz
  have hD := hD0.self (sz := s.heap.size)
  generalize hAe : va_A [(o, .inr (7, [.int 0, .int 0, .null, .null, .int 0, .null, .null, .int 0, .null, .null, .null, .int 0, .null, .int 0, .int 0, .long 0, .int 0]))] s.heap.size = A at hD ⊢
  have hA : ∀ q : Nat, s.heap.size ≤ q → A q := fun q h => by rw [← hAe]; exact Or.inr h
  have hS : va_S A s.heap s.heap [] := va_S.rf
  have hl := lv_entry ([.ref o, .int k9]) (n := 3) (Nat.le_of_ble_eq_true rfl)
  rw [lg_entry_eq]
  generalize (lg_sl ([.ref o, .int k9]) ++ List.replicate (3 - (lg_sl ([.ref o, .int k9])).length) Slot.unset).toArray = ls at hl ⊢
  have hl : lv_has ls 3 [(0, .ref o), (1, .int k9)] := hl
  refine lv_aload_n hx hb d_T_init_0 rfl (lv_at hl 0 rfl) ?_
  refine W.objInit hx hb hown (hg _ g_638) (hg _ g_46) (hg _ g_47) rfl (by rw [hml]; exact hl.1) rfl d_T_init_1 (Nat.le_of_ble_eq_true rfl) (Nat.le_of_ble_eq_true rfl) ?_
  refine W.eq (g2 := F0 m 4 ls []) rfl ?_
  refine lv_aload_n hx hb d_T_init_4 rfl (lv_at hl 0 rfl) ?_
  refine lv_bipush (v := 64) hx hb d_T_init_5 (by decide) ?_
  refine va_newa (atype := .int) (N' := 64) (a0 := (64, .inl (fun _ => 0))) hx hb (hg _ g_123) rfl hK hP hD hS hA (fun _ => rfl) (by decide) (by decide) (by decide) (show 0 + 1 ≤ 8 by omega) (show 0 + 64 ≤ 360 by omega) d_T_init_7 (fun q_7 cA9 H hK hP hD hS => ?_)
  rw [ba_uniq hK (i := 4) (j := 0) rfl rfl] at hP hD
  have hK := hK.sub (tys' := TY cI cZ cJ cO) [0, 1, 2, 3] rfl
  refine W.widen (k := 1) (n := 64) (by omega) (by omega) ?_
  have hP : va_P D cls [(o, .inr (7, [.int 0, .int 0, .null, .null, .int 0, .null, .null, .int 0, .null, .null, .null, .int 0, .null, .int 0, .int 0, .long 0, .int 0])), (q_7, .inl (cI, 64, .inl (fun _ => 0)))] H := hP
  have hD : va_D A [(o, .inr (7, [.int 0, .int 0, .null, .null, .int 0, .null, .null, .int 0, .null, .null, .null, .int 0, .null, .int 0, .int 0, .long 0, .int 0])), (q_7, .inl (cI, 64, .inl (fun _ => 0)))] := hD
  refine va_putF (D := D) (ci := 7) (v := .ref q_7) (ty := .array .int) (C := Q_T) (T := F_T) (N := 17) hx hb hg in_T tq_T tq_T_ok n_T hown hK hP hD hS 0 rfl rfl 2 (by decide) (hg _ g_641) (fun _ h9 => h9) rfl hin rfl (by decide +kernel) rfl rfl (Nat.le_of_ble_eq_true rfl) d_T_init_9 (fun H locs hP hD hS => ?_)
  have hP : va_P D cls [(o, .inr (7, [.int 0, .int 0, .ref q_7, .null, .int 0, .null, .null, .int 0, .null, .null, .null, .int 0, .null, .int 0, .int 0, .long 0, .int 0])), (q_7, .inl (cI, 64, .inl (fun _ => 0)))] H := hP
  have hD : va_D A [(o, .inr (7, [.int 0, .int 0, .ref q_7, .null, .int 0, .null, .null, .int 0, .null, .null, .null, .int 0, .null, .int 0, .int 0, .long 0, .int 0])), (q_7, .inl (cI, 64, .inl (fun _ => 0)))] := hD
  refine lv_aload_n hx hb d_T_init_12 rfl (lv_at hl 0 rfl) ?_
  refine lv_bipush (v := 64) hx hb d_T_init_13 (by decide) ?_
  refine va_newa (atype := .boolean) (N' := 64) (a0 := (64, .inl (fun _ => 0))) hx hb (hg _ g_124) rfl hK hP hD hS hA (fun _ => rfl) (by decide) (by decide) (by decide) (show 1 + 1 ≤ 8 by omega) (show 64 + 64 ≤ 360 by omega) d_T_init_15 (fun q_15 cA9 H hK hP hD hS => ?_)
  rw [ba_uniq hK (i := 4) (j := 1) rfl rfl] at hP hD
  have hK := hK.sub (tys' := TY cI cZ cJ cO) [0, 1, 2, 3] rfl
  refine W.widen (k := 2) (n := 128) (by omega) (by omega) ?_
  have hP : va_P D cls [(o, .inr (7, [.int 0, .int 0, .ref q_7, .null, .int 0, .null, .null, .int 0, .null, .null, .null, .int 0, .null, .int 0, .int 0, .long 0, .int 0])), (q_7, .inl (cI, 64, .inl (fun _ => 0))), (q_15, .inl (cZ, 64, .inl (fun _ => 0)))] H := hP
  have hD : va_D A [(o, .inr (7, [.int 0, .int 0, .ref q_7, .null, .int 0, .null, .null, .int 0, .null, .null, .null, .int 0, .null, .int 0, .int 0, .long 0, .int 0])), (q_7, .inl (cI, 64, .inl (fun _ => 0))), (q_15, .inl (cZ, 64, .inl (fun _ => 0)))] := hD
  refine va_putF (D := D) (ci := 7) (v := .ref q_15) (ty := .array .boolean) (C := Q_T) (T := F_T) (N := 17) hx hb hg in_T tq_T tq_T_ok n_T hown hK hP hD hS 0 rfl rfl 3 (by decide) (hg _ g_642) (fun _ h9 => h9) rfl hin rfl (by decide +kernel) rfl rfl (Nat.le_of_ble_eq_true rfl) d_T_init_17 (fun H locs hP hD hS => ?_)
  have hP : va_P D cls [(o, .inr (7, [.int 0, .int 0, .ref q_7, .ref q_15, .int 0, .null, .null, .int 0, .null, .null, .null, .int 0, .null, .int 0, .int 0, .long 0, .int 0])), (q_7, .inl (cI, 64, .inl (fun _ => 0))), (q_15, .inl (cZ, 64, .inl (fun _ => 0)))] H := hP
  have hD : va_D A [(o, .inr (7, [.int 0, .int 0, .ref q_7, .ref q_15, .int 0, .null, .null, .int 0, .null, .null, .null, .int 0, .null, .int 0, .int 0, .long 0, .int 0])), (q_7, .inl (cI, 64, .inl (fun _ => 0))), (q_15, .inl (cZ, 64, .inl (fun _ => 0)))] := hD
  refine lv_aload_n hx hb d_T_init_20 rfl (lv_at hl 0 rfl) ?_
  refine lv_bipush (v := 8) hx hb d_T_init_21 (by decide) ?_
  refine va_newa (atype := .int) (N' := 8) (a0 := (8, .inl (fun _ => 0))) hx hb (hg _ g_123) rfl hK hP hD hS hA (fun _ => rfl) (by decide) (by decide) (by decide) (show 2 + 1 ≤ 8 by omega) (show 128 + 8 ≤ 360 by omega) d_T_init_23 (fun q_23 cA9 H hK hP hD hS => ?_)
  rw [ba_uniq hK (i := 4) (j := 0) rfl rfl] at hP hD
  have hK := hK.sub (tys' := TY cI cZ cJ cO) [0, 1, 2, 3] rfl
  refine W.widen (k := 3) (n := 136) (by omega) (by omega) ?_
  have hP : va_P D cls [(o, .inr (7, [.int 0, .int 0, .ref q_7, .ref q_15, .int 0, .null, .null, .int 0, .null, .null, .null, .int 0, .null, .int 0, .int 0, .long 0, .int 0])), (q_7, .inl (cI, 64, .inl (fun _ => 0))), (q_15, .inl (cZ, 64, .inl (fun _ => 0))), (q_23, .inl (cI, 8, .inl (fun _ => 0)))] H := hP
  have hD : va_D A [(o, .inr (7, [.int 0, .int 0, .ref q_7, .ref q_15, .int 0, .null, .null, .int 0, .null, .null, .null, .int 0, .null, .int 0, .int 0, .long 0, .int 0])), (q_7, .inl (cI, 64, .inl (fun _ => 0))), (q_15, .inl (cZ, 64, .inl (fun _ => 0))), (q_23, .inl (cI, 8, .inl (fun _ => 0)))] := hD
  refine va_putF (D := D) (ci := 7) (v := .ref q_23) (ty := .array .int) (C := Q_T) (T := F_T) (N := 17) hx hb hg in_T tq_T tq_T_ok n_T hown hK hP hD hS 0 rfl rfl 5 (by decide) (hg _ g_644) (fun _ h9 => h9) rfl hin rfl (by decide +kernel) rfl rfl (Nat.le_of_ble_eq_true rfl) d_T_init_25 (fun H locs hP hD hS => ?_)
  have hP : va_P D cls [(o, .inr (7, [.int 0, .int 0, .ref q_7, .ref q_15, .int 0, .ref q_23, .null, .int 0, .null, .null, .null, .int 0, .null, .int 0, .int 0, .long 0, .int 0])), (q_7, .inl (cI, 64, .inl (fun _ => 0))), (q_15, .inl (cZ, 64, .inl (fun _ => 0))), (q_23, .inl (cI, 8, .inl (fun _ => 0)))] H := hP
  have hD : va_D A [(o, .inr (7, [.int 0, .int 0, .ref q_7, .ref q_15, .int 0, .ref q_23, .null, .int 0, .null, .null, .null, .int 0, .null, .int 0, .int 0, .long 0, .int 0])), (q_7, .inl (cI, 64, .inl (fun _ => 0))), (q_15, .inl (cZ, 64, .inl (fun _ => 0))), (q_23, .inl (cI, 8, .inl (fun _ => 0)))] := hD
  refine lv_aload_n hx hb d_T_init_28 rfl (lv_at hl 0 rfl) ?_
  refine lv_sipush (v := 128) hx hb d_T_init_29 (by decide) ?_
  refine va_newa (atype := .int) (N' := 128) (a0 := (128, .inl (fun _ => 0))) hx hb (hg _ g_123) rfl hK hP hD hS hA (fun _ => rfl) (by decide) (by decide) (by decide) (show 3 + 1 ≤ 8 by omega) (show 136 + 128 ≤ 360 by omega) d_T_init_32 (fun q_32 cA9 H hK hP hD hS => ?_)
  rw [ba_uniq hK (i := 4) (j := 0) rfl rfl] at hP hD
  have hK := hK.sub (tys' := TY cI cZ cJ cO) [0, 1, 2, 3] rfl
  refine W.widen (k := 4) (n := 264) (by omega) (by omega) ?_
  have hP : va_P D cls [(o, .inr (7, [.int 0, .int 0, .ref q_7, .ref q_15, .int 0, .ref q_23, .null, .int 0, .null, .null, .null, .int 0, .null, .int 0, .int 0, .long 0, .int 0])), (q_7, .inl (cI, 64, .inl (fun _ => 0))), (q_15, .inl (cZ, 64, .inl (fun _ => 0))), (q_23, .inl (cI, 8, .inl (fun _ => 0))), (q_32, .inl (cI, 128, .inl (fun _ => 0)))] H := hP
  have hD : va_D A [(o, .inr (7, [.int 0, .int 0, .ref q_7, .ref q_15, .int 0, .ref q_23, .null, .int 0, .null, .null, .null, .int 0, .null, .int 0, .int 0, .long 0, .int 0])), (q_7, .inl (cI, 64, .inl (fun _ => 0))), (q_15, .inl (cZ, 64, .inl (fun _ => 0))), (q_23, .inl (cI, 8, .inl (fun _ => 0))), (q_32, .inl (cI, 128, .inl (fun _ => 0)))] := hD
  refine va_putF (D := D) (ci := 7) (v := .ref q_32) (ty := .array .int) (C := Q_T) (T := F_T) (N := 17) hx hb hg in_T tq_T tq_T_ok n_T hown hK hP hD hS 0 rfl rfl 6 (by decide) (hg _ g_645) (fun _ h9 => h9) rfl hin rfl (by decide +kernel) rfl rfl (Nat.le_of_ble_eq_true rfl) d_T_init_34 (fun H locs hP hD hS => ?_)
  have hP : va_P D cls [(o, .inr (7, [.int 0, .int 0, .ref q_7, .ref q_15, .int 0, .ref q_23, .ref q_32, .int 0, .null, .null, .null, .int 0, .null, .int 0, .int 0, .long 0, .int 0])), (q_7, .inl (cI, 64, .inl (fun _ => 0))), (q_15, .inl (cZ, 64, .inl (fun _ => 0))), (q_23, .inl (cI, 8, .inl (fun _ => 0))), (q_32, .inl (cI, 128, .inl (fun _ => 0)))] H := hP
  have hD : va_D A [(o, .inr (7, [.int 0, .int 0, .ref q_7, .ref q_15, .int 0, .ref q_23, .ref q_32, .int 0, .null, .null, .null, .int 0, .null, .int 0, .int 0, .long 0, .int 0])), (q_7, .inl (cI, 64, .inl (fun _ => 0))), (q_15, .inl (cZ, 64, .inl (fun _ => 0))), (q_23, .inl (cI, 8, .inl (fun _ => 0))), (q_32, .inl (cI, 128, .inl (fun _ => 0)))] := hD
  refine lv_aload_n hx hb d_T_init_37 rfl (lv_at hl 0 rfl) ?_
  refine lv_bipush (v := 16) hx hb d_T_init_38 (by decide) ?_
  refine va_newa (atype := .int) (N' := 16) (a0 := (16, .inl (fun _ => 0))) hx hb (hg _ g_123) rfl hK hP hD hS hA (fun _ => rfl) (by decide) (by decide) (by decide) (show 4 + 1 ≤ 8 by omega) (show 264 + 16 ≤ 360 by omega) d_T_init_40 (fun q_40 cA9 H hK hP hD hS => ?_)
  rw [ba_uniq hK (i := 4) (j := 0) rfl rfl] at hP hD
  have hK := hK.sub (tys' := TY cI cZ cJ cO) [0, 1, 2, 3] rfl
  refine W.widen (k := 5) (n := 280) (by omega) (by omega) ?_
  have hP : va_P D cls [(o, .inr (7, [.int 0, .int 0, .ref q_7, .ref q_15, .int 0, .ref q_23, .ref q_32, .int 0, .null, .null, .null, .int 0, .null, .int 0, .int 0, .long 0, .int 0])), (q_7, .inl (cI, 64, .inl (fun _ => 0))), (q_15, .inl (cZ, 64, .inl (fun _ => 0))), (q_23, .inl (cI, 8, .inl (fun _ => 0))), (q_32, .inl (cI, 128, .inl (fun _ => 0))), (q_40, .inl (cI, 16, .inl (fun _ => 0)))] H := hP
  have hD : va_D A [(o, .inr (7, [.int 0, .int 0, .ref q_7, .ref q_15, .int 0, .ref q_23, .ref q_32, .int 0, .null, .null, .null, .int 0, .null, .int 0, .int 0, .long 0, .int 0])), (q_7, .inl (cI, 64, .inl (fun _ => 0))), (q_15, .inl (cZ, 64, .inl (fun _ => 0))), (q_23, .inl (cI, 8, .inl (fun _ => 0))), (q_32, .inl (cI, 128, .inl (fun _ => 0))), (q_40, .inl (cI, 16, .inl (fun _ => 0)))] := hD
  refine va_putF (D := D) (ci := 7) (v := .ref q_40) (ty := .array .int) (C := Q_T) (T := F_T) (N := 17) hx hb hg in_T tq_T tq_T_ok n_T hown hK hP hD hS 0 rfl rfl 8 (by decide) (hg _ g_647) (fun _ h9 => h9) rfl hin rfl (by decide +kernel) rfl rfl (Nat.le_of_ble_eq_true rfl) d_T_init_42 (fun H locs hP hD hS => ?_)
  have hP : va_P D cls [(o, .inr (7, [.int 0, .int 0, .ref q_7, .ref q_15, .int 0, .ref q_23, .ref q_32, .int 0, .ref q_40, .null, .null, .int 0, .null, .int 0, .int 0, .long 0, .int 0])), (q_7, .inl (cI, 64, .inl (fun _ => 0))), (q_15, .inl (cZ, 64, .inl (fun _ => 0))), (q_23, .inl (cI, 8, .inl (fun _ => 0))), (q_32, .inl (cI, 128, .inl (fun _ => 0))), (q_40, .inl (cI, 16, .inl (fun _ => 0)))] H := hP
  have hD : va_D A [(o, .inr (7, [.int 0, .int 0, .ref q_7, .ref q_15, .int 0, .ref q_23, .ref q_32, .int 0, .ref q_40, .null, .null, .int 0, .null, .int 0, .int 0, .long 0, .int 0])), (q_7, .inl (cI, 64, .inl (fun _ => 0))), (q_15, .inl (cZ, 64, .inl (fun _ => 0))), (q_23, .inl (cI, 8, .inl (fun _ => 0))), (q_32, .inl (cI, 128, .inl (fun _ => 0))), (q_40, .inl (cI, 16, .inl (fun _ => 0)))] := hD
  refine lv_aload_n hx hb d_T_init_45 rfl (lv_at hl 0 rfl) ?_
  refine lv_bipush (v := 16) hx hb d_T_init_46 (by decide) ?_
  refine va_newa (atype := .int) (N' := 16) (a0 := (16, .inl (fun _ => 0))) hx hb (hg _ g_123) rfl hK hP hD hS hA (fun _ => rfl) (by decide) (by decide) (by decide) (show 5 + 1 ≤ 8 by omega) (show 280 + 16 ≤ 360 by omega) d_T_init_48 (fun q_48 cA9 H hK hP hD hS => ?_)
  rw [ba_uniq hK (i := 4) (j := 0) rfl rfl] at hP hD
  have hK := hK.sub (tys' := TY cI cZ cJ cO) [0, 1, 2, 3] rfl
  refine W.widen (k := 6) (n := 296) (by omega) (by omega) ?_
  have hP : va_P D cls [(o, .inr (7, [.int 0, .int 0, .ref q_7, .ref q_15, .int 0, .ref q_23, .ref q_32, .int 0, .ref q_40, .null, .null, .int 0, .null, .int 0, .int 0, .long 0, .int 0])), (q_7, .inl (cI, 64, .inl (fun _ => 0))), (q_15, .inl (cZ, 64, .inl (fun _ => 0))), (q_23, .inl (cI, 8, .inl (fun _ => 0))), (q_32, .inl (cI, 128, .inl (fun _ => 0))), (q_40, .inl (cI, 16, .inl (fun _ => 0))), (q_48, .inl (cI, 16, .inl (fun _ => 0)))] H := hP
  have hD : va_D A [(o, .inr (7, [.int 0, .int 0, .ref q_7, .ref q_15, .int 0, .ref q_23, .ref q_32, .int 0, .ref q_40, .null, .null, .int 0, .null, .int 0, .int 0, .long 0, .int 0])), (q_7, .inl (cI, 64, .inl (fun _ => 0))), (q_15, .inl (cZ, 64, .inl (fun _ => 0))), (q_23, .inl (cI, 8, .inl (fun _ => 0))), (q_32, .inl (cI, 128, .inl (fun _ => 0))), (q_40, .inl (cI, 16, .inl (fun _ => 0))), (q_48, .inl (cI, 16, .inl (fun _ => 0)))] := hD
  refine va_putF (D := D) (ci := 7) (v := .ref q_48) (ty := .array .int) (C := Q_T) (T := F_T) (N := 17) hx hb hg in_T tq_T tq_T_ok n_T hown hK hP hD hS 0 rfl rfl 9 (by decide) (hg _ g_648) (fun _ h9 => h9) rfl hin rfl (by decide +kernel) rfl rfl (Nat.le_of_ble_eq_true rfl) d_T_init_50 (fun H locs hP hD hS => ?_)
  have hP : va_P D cls [(o, .inr (7, [.int 0, .int 0, .ref q_7, .ref q_15, .int 0, .ref q_23, .ref q_32, .int 0, .ref q_40, .ref q_48, .null, .int 0, .null, .int 0, .int 0, .long 0, .int 0])), (q_7, .inl (cI, 64, .inl (fun _ => 0))), (q_15, .inl (cZ, 64, .inl (fun _ => 0))), (q_23, .inl (cI, 8, .inl (fun _ => 0))), (q_32, .inl (cI, 128, .inl (fun _ => 0))), (q_40, .inl (cI, 16, .inl (fun _ => 0))), (q_48, .inl (cI, 16, .inl (fun _ => 0)))] H := hP
  have hD : va_D A [(o, .inr (7, [.int 0, .int 0, .ref q_7, .ref q_15, .int 0, .ref q_23, .ref q_32, .int 0, .ref q_40, .ref q_48, .null, .int 0, .null, .int 0, .int 0, .long 0, .int 0])), (q_7, .inl (cI, 64, .inl (fun _ => 0))), (q_15, .inl (cZ, 64, .inl (fun _ => 0))), (q_23, .inl (cI, 8, .inl (fun _ => 0))), (q_32, .inl (cI, 128, .inl (fun _ => 0))), (q_40, .inl (cI, 16, .inl (fun _ => 0))), (q_48, .inl (cI, 16, .inl (fun _ => 0)))] := hD
  refine lv_aload_n hx hb d_T_init_53 rfl (lv_at hl 0 rfl) ?_
  refine lv_bipush (v := 16) hx hb d_T_init_54 (by decide) ?_
  refine va_newa (atype := .int) (N' := 16) (a0 := (16, .inl (fun _ => 0))) hx hb (hg _ g_123) rfl hK hP hD hS hA (fun _ => rfl) (by decide) (by decide) (by decide) (show 6 + 1 ≤ 8 by omega) (show 296 + 16 ≤ 360 by omega) d_T_init_56 (fun q_56 cA9 H hK hP hD hS => ?_)
  rw [ba_uniq hK (i := 4) (j := 0) rfl rfl] at hP hD
  have hK := hK.sub (tys' := TY cI cZ cJ cO) [0, 1, 2, 3] rfl
  refine W.widen (k := 7) (n := 312) (by omega) (by omega) ?_
  have hP : va_P D cls [(o, .inr (7, [.int 0, .int 0, .ref q_7, .ref q_15, .int 0, .ref q_23, .ref q_32, .int 0, .ref q_40, .ref q_48, .null, .int 0, .null, .int 0, .int 0, .long 0, .int 0])), (q_7, .inl (cI, 64, .inl (fun _ => 0))), (q_15, .inl (cZ, 64, .inl (fun _ => 0))), (q_23, .inl (cI, 8, .inl (fun _ => 0))), (q_32, .inl (cI, 128, .inl (fun _ => 0))), (q_40, .inl (cI, 16, .inl (fun _ => 0))), (q_48, .inl (cI, 16, .inl (fun _ => 0))), (q_56, .inl (cI, 16, .inl (fun _ => 0)))] H := hP
  have hD : va_D A [(o, .inr (7, [.int 0, .int 0, .ref q_7, .ref q_15, .int 0, .ref q_23, .ref q_32, .int 0, .ref q_40, .ref q_48, .null, .int 0, .null, .int 0, .int 0, .long 0, .int 0])), (q_7, .inl (cI, 64, .inl (fun _ => 0))), (q_15, .inl (cZ, 64, .inl (fun _ => 0))), (q_23, .inl (cI, 8, .inl (fun _ => 0))), (q_32, .inl (cI, 128, .inl (fun _ => 0))), (q_40, .inl (cI, 16, .inl (fun _ => 0))), (q_48, .inl (cI, 16, .inl (fun _ => 0))), (q_56, .inl (cI, 16, .inl (fun _ => 0)))] := hD
  refine va_putF (D := D) (ci := 7) (v := .ref q_56) (ty := .array .int) (C := Q_T) (T := F_T) (N := 17) hx hb hg in_T tq_T tq_T_ok n_T hown hK hP hD hS 0 rfl rfl 10 (by decide) (hg _ g_649) (fun _ h9 => h9) rfl hin rfl (by decide +kernel) rfl rfl (Nat.le_of_ble_eq_true rfl) d_T_init_58 (fun H locs hP hD hS => ?_)
  have hP : va_P D cls [(o, .inr (7, [.int 0, .int 0, .ref q_7, .ref q_15, .int 0, .ref q_23, .ref q_32, .int 0, .ref q_40, .ref q_48, .ref q_56, .int 0, .null, .int 0, .int 0, .long 0, .int 0])), (q_7, .inl (cI, 64, .inl (fun _ => 0))), (q_15, .inl (cZ, 64, .inl (fun _ => 0))), (q_23, .inl (cI, 8, .inl (fun _ => 0))), (q_32, .inl (cI, 128, .inl (fun _ => 0))), (q_40, .inl (cI, 16, .inl (fun _ => 0))), (q_48, .inl (cI, 16, .inl (fun _ => 0))), (q_56, .inl (cI, 16, .inl (fun _ => 0)))] H := hP
  have hD : va_D A [(o, .inr (7, [.int 0, .int 0, .ref q_7, .ref q_15, .int 0, .ref q_23, .ref q_32, .int 0, .ref q_40, .ref q_48, .ref q_56, .int 0, .null, .int 0, .int 0, .long 0, .int 0])), (q_7, .inl (cI, 64, .inl (fun _ => 0))), (q_15, .inl (cZ, 64, .inl (fun _ => 0))), (q_23, .inl (cI, 8, .inl (fun _ => 0))), (q_32, .inl (cI, 128, .inl (fun _ => 0))), (q_40, .inl (cI, 16, .inl (fun _ => 0))), (q_48, .inl (cI, 16, .inl (fun _ => 0))), (q_56, .inl (cI, 16, .inl (fun _ => 0)))] := hD
  refine lv_aload_n hx hb d_T_init_61 rfl (lv_at hl 0 rfl) ?_
  refine lv_bipush (v := 48) hx hb d_T_init_62 (by decide) ?_
  refine va_newa (atype := .int) (N' := 48) (a0 := (48, .inl (fun _ => 0))) hx hb (hg _ g_123) rfl hK hP hD hS hA (fun _ => rfl) (by decide) (by decide) (by decide) (show 7 + 1 ≤ 8 by omega) (show 312 + 48 ≤ 360 by omega) d_T_init_64 (fun q_64 cA9 H hK hP hD hS => ?_)
  rw [ba_uniq hK (i := 4) (j := 0) rfl rfl] at hP hD
  have hK := hK.sub (tys' := TY cI cZ cJ cO) [0, 1, 2, 3] rfl
  refine W.widen (k := 8) (n := 360) (by omega) (by omega) ?_
  have hP : va_P D cls [(o, .inr (7, [.int 0, .int 0, .ref q_7, .ref q_15, .int 0, .ref q_23, .ref q_32, .int 0, .ref q_40, .ref q_48, .ref q_56, .int 0, .null, .int 0, .int 0, .long 0, .int 0])), (q_7, .inl (cI, 64, .inl (fun _ => 0))), (q_15, .inl (cZ, 64, .inl (fun _ => 0))), (q_23, .inl (cI, 8, .inl (fun _ => 0))), (q_32, .inl (cI, 128, .inl (fun _ => 0))), (q_40, .inl (cI, 16, .inl (fun _ => 0))), (q_48, .inl (cI, 16, .inl (fun _ => 0))), (q_56, .inl (cI, 16, .inl (fun _ => 0))), (q_64, .inl (cI, 48, .inl (fun _ => 0)))] H := hP
  have hD : va_D A [(o, .inr (7, [.int 0, .int 0, .ref q_7, .ref q_15, .int 0, .ref q_23, .ref q_32, .int 0, .ref q_40, .ref q_48, .ref q_56, .int 0, .null, .int 0, .int 0, .long 0, .int 0])), (q_7, .inl (cI, 64, .inl (fun _ => 0))), (q_15, .inl (cZ, 64, .inl (fun _ => 0))), (q_23, .inl (cI, 8, .inl (fun _ => 0))), (q_32, .inl (cI, 128, .inl (fun _ => 0))), (q_40, .inl (cI, 16, .inl (fun _ => 0))), (q_48, .inl (cI, 16, .inl (fun _ => 0))), (q_56, .inl (cI, 16, .inl (fun _ => 0))), (q_64, .inl (cI, 48, .inl (fun _ => 0)))] := hD
  refine va_putF (D := D) (ci := 7) (v := .ref q_64) (ty := .array .int) (C := Q_T) (T := F_T) (N := 17) hx hb hg in_T tq_T tq_T_ok n_T hown hK hP hD hS 0 rfl rfl 12 (by decide) (hg _ g_651) (fun _ h9 => h9) rfl hin rfl (by decide +kernel) rfl rfl (Nat.le_of_ble_eq_true rfl) d_T_init_66 (fun H locs hP hD hS => ?_)
  have hP : va_P D cls [(o, .inr (7, [.int 0, .int 0, .ref q_7, .ref q_15, .int 0, .ref q_23, .ref q_32, .int 0, .ref q_40, .ref q_48, .ref q_56, .int 0, .ref q_64, .int 0, .int 0, .long 0, .int 0])), (q_7, .inl (cI, 64, .inl (fun _ => 0))), (q_15, .inl (cZ, 64, .inl (fun _ => 0))), (q_23, .inl (cI, 8, .inl (fun _ => 0))), (q_32, .inl (cI, 128, .inl (fun _ => 0))), (q_40, .inl (cI, 16, .inl (fun _ => 0))), (q_48, .inl (cI, 16, .inl (fun _ => 0))), (q_56, .inl (cI, 16, .inl (fun _ => 0))), (q_64, .inl (cI, 48, .inl (fun _ => 0)))] H := hP
  have hD : va_D A [(o, .inr (7, [.int 0, .int 0, .ref q_7, .ref q_15, .int 0, .ref q_23, .ref q_32, .int 0, .ref q_40, .ref q_48, .ref q_56, .int 0, .ref q_64, .int 0, .int 0, .long 0, .int 0])), (q_7, .inl (cI, 64, .inl (fun _ => 0))), (q_15, .inl (cZ, 64, .inl (fun _ => 0))), (q_23, .inl (cI, 8, .inl (fun _ => 0))), (q_32, .inl (cI, 128, .inl (fun _ => 0))), (q_40, .inl (cI, 16, .inl (fun _ => 0))), (q_48, .inl (cI, 16, .inl (fun _ => 0))), (q_56, .inl (cI, 16, .inl (fun _ => 0))), (q_64, .inl (cI, 48, .inl (fun _ => 0)))] := hD
  refine lv_aload_n hx hb d_T_init_69 rfl (lv_at hl 0 rfl) ?_
  refine lv_iload_n hx hb d_T_init_70 rfl (lv_at hl 1 rfl) ?_
  refine lv_iconst (v := 4) hx hb d_T_init_71 (by decide) ?_
  refine lv_icmp_ge (tgt := 79) hx hb d_T_init_72 (by decide) (fun c_72 => ?_) (fun c_72 => ?_)
  · refine lv_iload_n hx hb d_T_init_79 rfl (lv_at hl 1 rfl) ?_
    refine lv_bipush (v := 64) hx hb d_T_init_80 (by decide) ?_
    refine lv_icmp_le (tgt := 90) hx hb d_T_init_82 (by decide) (fun c_82 => ?_) (fun c_82 => ?_)
    · refine lv_iload_n hx hb d_T_init_90 rfl (lv_at hl 1 rfl) ?_
      refine lv_topi (fun y_1 ey_1 => ?_)
      obtain rfl : y_1 = nI (ncl k9) := ey_1.trans (ncl_3 c_72 c_82)
      refine va_putF (D := D) (ci := 7) (v := .int (nI (ncl k9))) (ty := .int) (C := Q_T) (T := F_T) (N := 17) hx hb hg in_T tq_T tq_T_ok n_T hown hK hP hD hS 0 rfl rfl 1 (by decide) (hg _ g_640) (fun _ h9 => h9) rfl hin rfl (by decide +kernel) rfl rfl (Nat.le_of_ble_eq_true rfl) d_T_init_91 (fun H locs hP hD hS => ?_)
      have hP : va_P D cls [(o, .inr (7, [.int 0, .int (nI (ncl k9)), .ref q_7, .ref q_15, .int 0, .ref q_23, .ref q_32, .int 0, .ref q_40, .ref q_48, .ref q_56, .int 0, .ref q_64, .int 0, .int 0, .long 0, .int 0])), (q_7, .inl (cI, 64, .inl (fun _ => 0))), (q_15, .inl (cZ, 64, .inl (fun _ => 0))), (q_23, .inl (cI, 8, .inl (fun _ => 0))), (q_32, .inl (cI, 128, .inl (fun _ => 0))), (q_40, .inl (cI, 16, .inl (fun _ => 0))), (q_48, .inl (cI, 16, .inl (fun _ => 0))), (q_56, .inl (cI, 16, .inl (fun _ => 0))), (q_64, .inl (cI, 48, .inl (fun _ => 0)))] H := hP
      have hD : va_D A [(o, .inr (7, [.int 0, .int (nI (ncl k9)), .ref q_7, .ref q_15, .int 0, .ref q_23, .ref q_32, .int 0, .ref q_40, .ref q_48, .ref q_56, .int 0, .ref q_64, .int 0, .int 0, .long 0, .int 0])), (q_7, .inl (cI, 64, .inl (fun _ => 0))), (q_15, .inl (cZ, 64, .inl (fun _ => 0))), (q_23, .inl (cI, 8, .inl (fun _ => 0))), (q_32, .inl (cI, 128, .inl (fun _ => 0))), (q_40, .inl (cI, 16, .inl (fun _ => 0))), (q_48, .inl (cI, 16, .inl (fun _ => 0))), (q_56, .inl (cI, 16, .inl (fun _ => 0))), (q_64, .inl (cI, 48, .inl (fun _ => 0)))] := hD
      refine lv_iconst (v := 0) hx hb d_T_init_94 (by decide) ?_
      refine lv_istore_n (lv' := [(2, .int 0), (0, .ref o), (1, .int k9)]) hx hb d_T_init_95 rfl hl (by decide) rfl (fun ls hl => ?_)
      have loop_96 : ∀ (f96 : Nat) (j : Nat) (f1 : Nat → Int32) (x2 : Int32) (H : Heap) (locs : List Loc) (ls : Array Slot), (j ≤ 64 ∧ 64 < j + f96 ∧ x2 = nI j ∧ (∀ i, i < j → f1 i = -1)) → va_P D cls [(o, .inr (7, [.int 0, .int (nI (ncl k9)), .ref q_7, .ref q_15, .int 0, .ref q_23, .ref q_32, .int 0, .ref q_40, .ref q_48, .ref q_56, .int 0, .ref q_64, .int 0, .int 0, .long 0, .int 0])), (q_7, .inl (cI, 64, .inl f1)), (q_15, .inl (cZ, 64, .inl (fun _ => 0))), (q_23, .inl (cI, 8, .inl (fun _ => 0))), (q_32, .inl (cI, 128, .inl (fun _ => 0))), (q_40, .inl (cI, 16, .inl (fun _ => 0))), (q_48, .inl (cI, 16, .inl (fun _ => 0))), (q_56, .inl (cI, 16, .inl (fun _ => 0))), (q_64, .inl (cI, 48, .inl (fun _ => 0)))] H → va_D A [(o, .inr (7, [.int 0, .int (nI (ncl k9)), .ref q_7, .ref q_15, .int 0, .ref q_23, .ref q_32, .int 0, .ref q_40, .ref q_48, .ref q_56, .int 0, .ref q_64, .int 0, .int 0, .long 0, .int 0])), (q_7, .inl (cI, 64, .inl f1)), (q_15, .inl (cZ, 64, .inl (fun _ => 0))), (q_23, .inl (cI, 8, .inl (fun _ => 0))), (q_32, .inl (cI, 128, .inl (fun _ => 0))), (q_40, .inl (cI, 16, .inl (fun _ => 0))), (q_48, .inl (cI, 16, .inl (fun _ => 0))), (q_56, .inl (cI, 16, .inl (fun _ => 0))), (q_64, .inl (cI, 48, .inl (fun _ => 0)))] → va_S A s.heap H locs → lv_has ls 3 [(0, .ref o), (1, .int k9), (2, .int x2)] → W p l e (headSpec (wq y_T_init c_T_init 3 none) ({ frames := 1, cells := 8, slots := 360, locals := 24 })).room s m ([.ref o, .int k9] : List Value).toArray below meth c H locs 8 360 (MQ below (va_Qv (fun (u : va_W) => ∃ dT gT la ca aa na ya ta : Nat, u = [(o, .inr (7, [.int 0, .int (nI (ncl k9)), .ref dT, .ref gT, .int (nI 0), .ref la, .ref ca, .int (nI 0), .ref aa, .ref na, .ref ya, .int (nI 0), .ref ta, .int 0, .int 0, .long 0, .int 0])), (dT, .inl (cI, 64, .inl (fun _ => -1))), (gT, .inl (cZ, 64, .inl (fun _ => 0))), (la, .inl (cI, 8, .inl (fun _ => 0))), (ca, .inl (cI, 128, .inl (fun _ => 0))), (aa, .inl (cI, 16, .inl (fun _ => 0))), (na, .inl (cI, 16, .inl (fun _ => 0))), (ya, .inl (cI, 16, .inl (fun _ => 0))), (ta, .inl (cI, 48, .inl (fun _ => 0)))]) (mB D (TY cI cZ cJ cO) A) A) ([.ref o, .int k9] : List Value).toArray s 8 360 A) (F0 m 96 ls []) := by
        intro f96
        induction f96 with
        | zero =>
          intro j f1 x2 H locs ls hI hP hD hS hl
          obtain ⟨hj1, hj2, rfl, hq⟩ := hI
          omega
        | succ f96 ih96 =>
          intro j f1 x2 H locs ls hI hP hD hS hl
          obtain ⟨hj1, hj2, rfl, hq⟩ := hI
          refine lv_iload_n hx hb d_T_init_96 rfl (lv_at hl 2 rfl) ?_
          refine lv_bipush (v := 64) hx hb d_T_init_97 (by decide) ?_
          refine lv_icmp_ge (tgt := 115) hx hb d_T_init_99 (by decide) (fun c_99 => ?_) (fun c_99 => ?_)
          · have hP := ba_cg (w1 := [(o, .inr (7, [.int 0, .int (nI (ncl k9)), .ref q_7, .ref q_15, .int 0, .ref q_23, .ref q_32, .int 0, .ref q_40, .ref q_48, .ref q_56, .int 0, .ref q_64, .int 0, .int 0, .long 0, .int 0]))]) (w2 := [(q_15, .inl (cZ, 64, .inl (fun _ => 0))), (q_23, .inl (cI, 8, .inl (fun _ => 0))), (q_32, .inl (cI, 128, .inl (fun _ => 0))), (q_40, .inl (cI, 16, .inl (fun _ => 0))), (q_48, .inl (cI, 16, .inl (fun _ => 0))), (q_56, .inl (cI, 16, .inl (fun _ => 0))), (q_64, .inl (cI, 48, .inl (fun _ => 0)))]) (f' := fun _ => -1) (fun i hi => hq i (by rw [o64 hj1 c_99]; exact hi)) hP
            have hD := ba_cgD (w1 := [(o, .inr (7, [.int 0, .int (nI (ncl k9)), .ref q_7, .ref q_15, .int 0, .ref q_23, .ref q_32, .int 0, .ref q_40, .ref q_48, .ref q_56, .int 0, .ref q_64, .int 0, .int 0, .long 0, .int 0]))]) (w2 := [(q_15, .inl (cZ, 64, .inl (fun _ => 0))), (q_23, .inl (cI, 8, .inl (fun _ => 0))), (q_32, .inl (cI, 128, .inl (fun _ => 0))), (q_40, .inl (cI, 16, .inl (fun _ => 0))), (q_48, .inl (cI, 16, .inl (fun _ => 0))), (q_56, .inl (cI, 16, .inl (fun _ => 0))), (q_64, .inl (cI, 48, .inl (fun _ => 0)))]) (x' := .inl (cI, 64, .inl (fun _ => -1))) hD
            have hP : va_P D cls [(o, .inr (7, [.int 0, .int (nI (ncl k9)), .ref q_7, .ref q_15, .int 0, .ref q_23, .ref q_32, .int 0, .ref q_40, .ref q_48, .ref q_56, .int 0, .ref q_64, .int 0, .int 0, .long 0, .int 0])), (q_7, .inl (cI, 64, .inl (fun _ => -1))), (q_15, .inl (cZ, 64, .inl (fun _ => 0))), (q_23, .inl (cI, 8, .inl (fun _ => 0))), (q_32, .inl (cI, 128, .inl (fun _ => 0))), (q_40, .inl (cI, 16, .inl (fun _ => 0))), (q_48, .inl (cI, 16, .inl (fun _ => 0))), (q_56, .inl (cI, 16, .inl (fun _ => 0))), (q_64, .inl (cI, 48, .inl (fun _ => 0)))] H := hP
            have hD : va_D A [(o, .inr (7, [.int 0, .int (nI (ncl k9)), .ref q_7, .ref q_15, .int 0, .ref q_23, .ref q_32, .int 0, .ref q_40, .ref q_48, .ref q_56, .int 0, .ref q_64, .int 0, .int 0, .long 0, .int 0])), (q_7, .inl (cI, 64, .inl (fun _ => -1))), (q_15, .inl (cZ, 64, .inl (fun _ => 0))), (q_23, .inl (cI, 8, .inl (fun _ => 0))), (q_32, .inl (cI, 128, .inl (fun _ => 0))), (q_40, .inl (cI, 16, .inl (fun _ => 0))), (q_48, .inl (cI, 16, .inl (fun _ => 0))), (q_56, .inl (cI, 16, .inl (fun _ => 0))), (q_64, .inl (cI, 48, .inl (fun _ => 0)))] := hD
            exact W.vret hx hb hr (fun t9 ht hW => ⟨⟨[(o, .inr (7, [.int 0, .int (nI (ncl k9)), .ref q_7, .ref q_15, .int 0, .ref q_23, .ref q_32, .int 0, .ref q_40, .ref q_48, .ref q_56, .int 0, .ref q_64, .int 0, .int 0, .long 0, .int 0])), (q_7, .inl (cI, 64, .inl (fun _ => -1))), (q_15, .inl (cZ, 64, .inl (fun _ => 0))), (q_23, .inl (cI, 8, .inl (fun _ => 0))), (q_32, .inl (cI, 128, .inl (fun _ => 0))), (q_40, .inl (cI, 16, .inl (fun _ => 0))), (q_48, .inl (cI, 16, .inl (fun _ => 0))), (q_56, .inl (cI, 16, .inl (fun _ => 0))), (q_64, .inl (cI, 48, .inl (fun _ => 0)))], rfl, ⟨q_7, q_15, q_23, q_32, q_40, q_48, q_56, q_64, rfl⟩, by rw [ht]; exact hP, va_K.moved hW.alike hK, hD⟩, hS.F ht⟩) hS.2.2 d_T_init_115
          · refine lv_aload_n hx hb d_T_init_102 rfl (lv_at hl 0 rfl) ?_
            refine va_get (D := D) (ci := 7) (v := .ref q_7) (C := Q_T) (T := F_T) (N := 17) hx hb hg in_T hown hK hP 0 rfl rfl 2 (by decide) (hg _ g_641) (fun _ h9 => h9) rfl d_T_init_103 ?_
            refine lv_iload_n hx hb d_T_init_106 rfl (lv_at hl 2 rfl) ?_
            refine lv_iconst (v := (-1)) hx hb d_T_init_107 (by decide) ?_
            refine va_iast hx hb hK hP hD hS 1 0 rfl rfl (vp_in_nI (i64 hj1 c_99) (by decide)) d_T_init_108 (fun H locs hP hD hS => ?_)
            rw [nI_clamp (show j < 2 ^ 31 by omega)] at hP hD
            have hP : va_P D cls [(o, .inr (7, [.int 0, .int (nI (ncl k9)), .ref q_7, .ref q_15, .int 0, .ref q_23, .ref q_32, .int 0, .ref q_40, .ref q_48, .ref q_56, .int 0, .ref q_64, .int 0, .int 0, .long 0, .int 0])), (q_7, .inl (cI, 64, .inl (upd f1 j (-1)))), (q_15, .inl (cZ, 64, .inl (fun _ => 0))), (q_23, .inl (cI, 8, .inl (fun _ => 0))), (q_32, .inl (cI, 128, .inl (fun _ => 0))), (q_40, .inl (cI, 16, .inl (fun _ => 0))), (q_48, .inl (cI, 16, .inl (fun _ => 0))), (q_56, .inl (cI, 16, .inl (fun _ => 0))), (q_64, .inl (cI, 48, .inl (fun _ => 0)))] H := hP
            have hD : va_D A [(o, .inr (7, [.int 0, .int (nI (ncl k9)), .ref q_7, .ref q_15, .int 0, .ref q_23, .ref q_32, .int 0, .ref q_40, .ref q_48, .ref q_56, .int 0, .ref q_64, .int 0, .int 0, .long 0, .int 0])), (q_7, .inl (cI, 64, .inl (upd f1 j (-1)))), (q_15, .inl (cZ, 64, .inl (fun _ => 0))), (q_23, .inl (cI, 8, .inl (fun _ => 0))), (q_32, .inl (cI, 128, .inl (fun _ => 0))), (q_40, .inl (cI, 16, .inl (fun _ => 0))), (q_48, .inl (cI, 16, .inl (fun _ => 0))), (q_56, .inl (cI, 16, .inl (fun _ => 0))), (q_64, .inl (cI, 48, .inl (fun _ => 0)))] := hD
            refine lv_iinc (v := (nI j) + 1) (lv' := [(2, .int ((nI j) + 1)), (0, .ref o), (1, .int k9)]) hx hb d_T_init_109 hl (k := 2) rfl rfl (by decide) rfl (fun ls hl => ?_)
            refine lv_goto (tgt := 96) hx hb d_T_init_112 (by decide) ?_
            exact ih96 (j + 1) (upd f1 j (-1)) ((nI j) + 1) _ _ ls (⟨by have := i64 hj1 c_99; omega, by omega, nI_1 j, fun i hi => by by_cases e : i = j <;> simp [upd, e] <;> exact hq i (by omega)⟩) hP hD hS (lv_sub hl [1, 2, 0] rfl)
      exact loop_96 65 0 (fun _ => 0) 0 _ _ ls (⟨by omega, by omega, rfl, fun i hi => absurd hi (Nat.not_lt_zero i)⟩) hP hD hS (lv_sub hl [1, 2, 0] rfl)
    · refine lv_bipush (v := 64) hx hb d_T_init_85 (by decide) ?_
      refine lv_goto (tgt := 91) hx hb d_T_init_87 (by decide) ?_
      refine lv_topi (fun y_2 ey_2 => ?_)
      obtain rfl : y_2 = nI (ncl k9) := ey_2.trans (ncl_2 c_72 c_82)
      refine va_putF (D := D) (ci := 7) (v := .int (nI (ncl k9))) (ty := .int) (C := Q_T) (T := F_T) (N := 17) hx hb hg in_T tq_T tq_T_ok n_T hown hK hP hD hS 0 rfl rfl 1 (by decide) (hg _ g_640) (fun _ h9 => h9) rfl hin rfl (by decide +kernel) rfl rfl (Nat.le_of_ble_eq_true rfl) d_T_init_91 (fun H locs hP hD hS => ?_)
      have hP : va_P D cls [(o, .inr (7, [.int 0, .int (nI (ncl k9)), .ref q_7, .ref q_15, .int 0, .ref q_23, .ref q_32, .int 0, .ref q_40, .ref q_48, .ref q_56, .int 0, .ref q_64, .int 0, .int 0, .long 0, .int 0])), (q_7, .inl (cI, 64, .inl (fun _ => 0))), (q_15, .inl (cZ, 64, .inl (fun _ => 0))), (q_23, .inl (cI, 8, .inl (fun _ => 0))), (q_32, .inl (cI, 128, .inl (fun _ => 0))), (q_40, .inl (cI, 16, .inl (fun _ => 0))), (q_48, .inl (cI, 16, .inl (fun _ => 0))), (q_56, .inl (cI, 16, .inl (fun _ => 0))), (q_64, .inl (cI, 48, .inl (fun _ => 0)))] H := hP
      have hD : va_D A [(o, .inr (7, [.int 0, .int (nI (ncl k9)), .ref q_7, .ref q_15, .int 0, .ref q_23, .ref q_32, .int 0, .ref q_40, .ref q_48, .ref q_56, .int 0, .ref q_64, .int 0, .int 0, .long 0, .int 0])), (q_7, .inl (cI, 64, .inl (fun _ => 0))), (q_15, .inl (cZ, 64, .inl (fun _ => 0))), (q_23, .inl (cI, 8, .inl (fun _ => 0))), (q_32, .inl (cI, 128, .inl (fun _ => 0))), (q_40, .inl (cI, 16, .inl (fun _ => 0))), (q_48, .inl (cI, 16, .inl (fun _ => 0))), (q_56, .inl (cI, 16, .inl (fun _ => 0))), (q_64, .inl (cI, 48, .inl (fun _ => 0)))] := hD
      refine lv_iconst (v := 0) hx hb d_T_init_94 (by decide) ?_
      refine lv_istore_n (lv' := [(2, .int 0), (0, .ref o), (1, .int k9)]) hx hb d_T_init_95 rfl hl (by decide) rfl (fun ls hl => ?_)
      have loop_96 : ∀ (f96 : Nat) (j : Nat) (f1 : Nat → Int32) (x2 : Int32) (H : Heap) (locs : List Loc) (ls : Array Slot), (j ≤ 64 ∧ 64 < j + f96 ∧ x2 = nI j ∧ (∀ i, i < j → f1 i = -1)) → va_P D cls [(o, .inr (7, [.int 0, .int (nI (ncl k9)), .ref q_7, .ref q_15, .int 0, .ref q_23, .ref q_32, .int 0, .ref q_40, .ref q_48, .ref q_56, .int 0, .ref q_64, .int 0, .int 0, .long 0, .int 0])), (q_7, .inl (cI, 64, .inl f1)), (q_15, .inl (cZ, 64, .inl (fun _ => 0))), (q_23, .inl (cI, 8, .inl (fun _ => 0))), (q_32, .inl (cI, 128, .inl (fun _ => 0))), (q_40, .inl (cI, 16, .inl (fun _ => 0))), (q_48, .inl (cI, 16, .inl (fun _ => 0))), (q_56, .inl (cI, 16, .inl (fun _ => 0))), (q_64, .inl (cI, 48, .inl (fun _ => 0)))] H → va_D A [(o, .inr (7, [.int 0, .int (nI (ncl k9)), .ref q_7, .ref q_15, .int 0, .ref q_23, .ref q_32, .int 0, .ref q_40, .ref q_48, .ref q_56, .int 0, .ref q_64, .int 0, .int 0, .long 0, .int 0])), (q_7, .inl (cI, 64, .inl f1)), (q_15, .inl (cZ, 64, .inl (fun _ => 0))), (q_23, .inl (cI, 8, .inl (fun _ => 0))), (q_32, .inl (cI, 128, .inl (fun _ => 0))), (q_40, .inl (cI, 16, .inl (fun _ => 0))), (q_48, .inl (cI, 16, .inl (fun _ => 0))), (q_56, .inl (cI, 16, .inl (fun _ => 0))), (q_64, .inl (cI, 48, .inl (fun _ => 0)))] → va_S A s.heap H locs → lv_has ls 3 [(0, .ref o), (1, .int k9), (2, .int x2)] → W p l e (headSpec (wq y_T_init c_T_init 3 none) ({ frames := 1, cells := 8, slots := 360, locals := 24 })).room s m ([.ref o, .int k9] : List Value).toArray below meth c H locs 8 360 (MQ below (va_Qv (fun (u : va_W) => ∃ dT gT la ca aa na ya ta : Nat, u = [(o, .inr (7, [.int 0, .int (nI (ncl k9)), .ref dT, .ref gT, .int (nI 0), .ref la, .ref ca, .int (nI 0), .ref aa, .ref na, .ref ya, .int (nI 0), .ref ta, .int 0, .int 0, .long 0, .int 0])), (dT, .inl (cI, 64, .inl (fun _ => -1))), (gT, .inl (cZ, 64, .inl (fun _ => 0))), (la, .inl (cI, 8, .inl (fun _ => 0))), (ca, .inl (cI, 128, .inl (fun _ => 0))), (aa, .inl (cI, 16, .inl (fun _ => 0))), (na, .inl (cI, 16, .inl (fun _ => 0))), (ya, .inl (cI, 16, .inl (fun _ => 0))), (ta, .inl (cI, 48, .inl (fun _ => 0)))]) (mB D (TY cI cZ cJ cO) A) A) ([.ref o, .int k9] : List Value).toArray s 8 360 A) (F0 m 96 ls []) := by
        intro f96
        induction f96 with
        | zero =>
          intro j f1 x2 H locs ls hI hP hD hS hl
          obtain ⟨hj1, hj2, rfl, hq⟩ := hI
          omega
        | succ f96 ih96 =>
          intro j f1 x2 H locs ls hI hP hD hS hl
          obtain ⟨hj1, hj2, rfl, hq⟩ := hI
          refine lv_iload_n hx hb d_T_init_96 rfl (lv_at hl 2 rfl) ?_
          refine lv_bipush (v := 64) hx hb d_T_init_97 (by decide) ?_
          refine lv_icmp_ge (tgt := 115) hx hb d_T_init_99 (by decide) (fun c_99 => ?_) (fun c_99 => ?_)
          · have hP := ba_cg (w1 := [(o, .inr (7, [.int 0, .int (nI (ncl k9)), .ref q_7, .ref q_15, .int 0, .ref q_23, .ref q_32, .int 0, .ref q_40, .ref q_48, .ref q_56, .int 0, .ref q_64, .int 0, .int 0, .long 0, .int 0]))]) (w2 := [(q_15, .inl (cZ, 64, .inl (fun _ => 0))), (q_23, .inl (cI, 8, .inl (fun _ => 0))), (q_32, .inl (cI, 128, .inl (fun _ => 0))), (q_40, .inl (cI, 16, .inl (fun _ => 0))), (q_48, .inl (cI, 16, .inl (fun _ => 0))), (q_56, .inl (cI, 16, .inl (fun _ => 0))), (q_64, .inl (cI, 48, .inl (fun _ => 0)))]) (f' := fun _ => -1) (fun i hi => hq i (by rw [o64 hj1 c_99]; exact hi)) hP
            have hD := ba_cgD (w1 := [(o, .inr (7, [.int 0, .int (nI (ncl k9)), .ref q_7, .ref q_15, .int 0, .ref q_23, .ref q_32, .int 0, .ref q_40, .ref q_48, .ref q_56, .int 0, .ref q_64, .int 0, .int 0, .long 0, .int 0]))]) (w2 := [(q_15, .inl (cZ, 64, .inl (fun _ => 0))), (q_23, .inl (cI, 8, .inl (fun _ => 0))), (q_32, .inl (cI, 128, .inl (fun _ => 0))), (q_40, .inl (cI, 16, .inl (fun _ => 0))), (q_48, .inl (cI, 16, .inl (fun _ => 0))), (q_56, .inl (cI, 16, .inl (fun _ => 0))), (q_64, .inl (cI, 48, .inl (fun _ => 0)))]) (x' := .inl (cI, 64, .inl (fun _ => -1))) hD
            have hP : va_P D cls [(o, .inr (7, [.int 0, .int (nI (ncl k9)), .ref q_7, .ref q_15, .int 0, .ref q_23, .ref q_32, .int 0, .ref q_40, .ref q_48, .ref q_56, .int 0, .ref q_64, .int 0, .int 0, .long 0, .int 0])), (q_7, .inl (cI, 64, .inl (fun _ => -1))), (q_15, .inl (cZ, 64, .inl (fun _ => 0))), (q_23, .inl (cI, 8, .inl (fun _ => 0))), (q_32, .inl (cI, 128, .inl (fun _ => 0))), (q_40, .inl (cI, 16, .inl (fun _ => 0))), (q_48, .inl (cI, 16, .inl (fun _ => 0))), (q_56, .inl (cI, 16, .inl (fun _ => 0))), (q_64, .inl (cI, 48, .inl (fun _ => 0)))] H := hP
            have hD : va_D A [(o, .inr (7, [.int 0, .int (nI (ncl k9)), .ref q_7, .ref q_15, .int 0, .ref q_23, .ref q_32, .int 0, .ref q_40, .ref q_48, .ref q_56, .int 0, .ref q_64, .int 0, .int 0, .long 0, .int 0])), (q_7, .inl (cI, 64, .inl (fun _ => -1))), (q_15, .inl (cZ, 64, .inl (fun _ => 0))), (q_23, .inl (cI, 8, .inl (fun _ => 0))), (q_32, .inl (cI, 128, .inl (fun _ => 0))), (q_40, .inl (cI, 16, .inl (fun _ => 0))), (q_48, .inl (cI, 16, .inl (fun _ => 0))), (q_56, .inl (cI, 16, .inl (fun _ => 0))), (q_64, .inl (cI, 48, .inl (fun _ => 0)))] := hD
            exact W.vret hx hb hr (fun t9 ht hW => ⟨⟨[(o, .inr (7, [.int 0, .int (nI (ncl k9)), .ref q_7, .ref q_15, .int 0, .ref q_23, .ref q_32, .int 0, .ref q_40, .ref q_48, .ref q_56, .int 0, .ref q_64, .int 0, .int 0, .long 0, .int 0])), (q_7, .inl (cI, 64, .inl (fun _ => -1))), (q_15, .inl (cZ, 64, .inl (fun _ => 0))), (q_23, .inl (cI, 8, .inl (fun _ => 0))), (q_32, .inl (cI, 128, .inl (fun _ => 0))), (q_40, .inl (cI, 16, .inl (fun _ => 0))), (q_48, .inl (cI, 16, .inl (fun _ => 0))), (q_56, .inl (cI, 16, .inl (fun _ => 0))), (q_64, .inl (cI, 48, .inl (fun _ => 0)))], rfl, ⟨q_7, q_15, q_23, q_32, q_40, q_48, q_56, q_64, rfl⟩, by rw [ht]; exact hP, va_K.moved hW.alike hK, hD⟩, hS.F ht⟩) hS.2.2 d_T_init_115
          · refine lv_aload_n hx hb d_T_init_102 rfl (lv_at hl 0 rfl) ?_
            refine va_get (D := D) (ci := 7) (v := .ref q_7) (C := Q_T) (T := F_T) (N := 17) hx hb hg in_T hown hK hP 0 rfl rfl 2 (by decide) (hg _ g_641) (fun _ h9 => h9) rfl d_T_init_103 ?_
            refine lv_iload_n hx hb d_T_init_106 rfl (lv_at hl 2 rfl) ?_
            refine lv_iconst (v := (-1)) hx hb d_T_init_107 (by decide) ?_
            refine va_iast hx hb hK hP hD hS 1 0 rfl rfl (vp_in_nI (i64 hj1 c_99) (by decide)) d_T_init_108 (fun H locs hP hD hS => ?_)
            rw [nI_clamp (show j < 2 ^ 31 by omega)] at hP hD
            have hP : va_P D cls [(o, .inr (7, [.int 0, .int (nI (ncl k9)), .ref q_7, .ref q_15, .int 0, .ref q_23, .ref q_32, .int 0, .ref q_40, .ref q_48, .ref q_56, .int 0, .ref q_64, .int 0, .int 0, .long 0, .int 0])), (q_7, .inl (cI, 64, .inl (upd f1 j (-1)))), (q_15, .inl (cZ, 64, .inl (fun _ => 0))), (q_23, .inl (cI, 8, .inl (fun _ => 0))), (q_32, .inl (cI, 128, .inl (fun _ => 0))), (q_40, .inl (cI, 16, .inl (fun _ => 0))), (q_48, .inl (cI, 16, .inl (fun _ => 0))), (q_56, .inl (cI, 16, .inl (fun _ => 0))), (q_64, .inl (cI, 48, .inl (fun _ => 0)))] H := hP
            have hD : va_D A [(o, .inr (7, [.int 0, .int (nI (ncl k9)), .ref q_7, .ref q_15, .int 0, .ref q_23, .ref q_32, .int 0, .ref q_40, .ref q_48, .ref q_56, .int 0, .ref q_64, .int 0, .int 0, .long 0, .int 0])), (q_7, .inl (cI, 64, .inl (upd f1 j (-1)))), (q_15, .inl (cZ, 64, .inl (fun _ => 0))), (q_23, .inl (cI, 8, .inl (fun _ => 0))), (q_32, .inl (cI, 128, .inl (fun _ => 0))), (q_40, .inl (cI, 16, .inl (fun _ => 0))), (q_48, .inl (cI, 16, .inl (fun _ => 0))), (q_56, .inl (cI, 16, .inl (fun _ => 0))), (q_64, .inl (cI, 48, .inl (fun _ => 0)))] := hD
            refine lv_iinc (v := (nI j) + 1) (lv' := [(2, .int ((nI j) + 1)), (0, .ref o), (1, .int k9)]) hx hb d_T_init_109 hl (k := 2) rfl rfl (by decide) rfl (fun ls hl => ?_)
            refine lv_goto (tgt := 96) hx hb d_T_init_112 (by decide) ?_
            exact ih96 (j + 1) (upd f1 j (-1)) ((nI j) + 1) _ _ ls (⟨by have := i64 hj1 c_99; omega, by omega, nI_1 j, fun i hi => by by_cases e : i = j <;> simp [upd, e] <;> exact hq i (by omega)⟩) hP hD hS (lv_sub hl [1, 2, 0] rfl)
      exact loop_96 65 0 (fun _ => 0) 0 _ _ ls (⟨by omega, by omega, rfl, fun i hi => absurd hi (Nat.not_lt_zero i)⟩) hP hD hS (lv_sub hl [1, 2, 0] rfl)
  · refine lv_iconst (v := 4) hx hb d_T_init_75 (by decide) ?_
    refine lv_goto (tgt := 91) hx hb d_T_init_76 (by decide) ?_
    refine lv_topi (fun y_3 ey_3 => ?_)
    obtain rfl : y_3 = nI (ncl k9) := ey_3.trans (ncl_1 c_72)
    refine va_putF (D := D) (ci := 7) (v := .int (nI (ncl k9))) (ty := .int) (C := Q_T) (T := F_T) (N := 17) hx hb hg in_T tq_T tq_T_ok n_T hown hK hP hD hS 0 rfl rfl 1 (by decide) (hg _ g_640) (fun _ h9 => h9) rfl hin rfl (by decide +kernel) rfl rfl (Nat.le_of_ble_eq_true rfl) d_T_init_91 (fun H locs hP hD hS => ?_)
    have hP : va_P D cls [(o, .inr (7, [.int 0, .int (nI (ncl k9)), .ref q_7, .ref q_15, .int 0, .ref q_23, .ref q_32, .int 0, .ref q_40, .ref q_48, .ref q_56, .int 0, .ref q_64, .int 0, .int 0, .long 0, .int 0])), (q_7, .inl (cI, 64, .inl (fun _ => 0))), (q_15, .inl (cZ, 64, .inl (fun _ => 0))), (q_23, .inl (cI, 8, .inl (fun _ => 0))), (q_32, .inl (cI, 128, .inl (fun _ => 0))), (q_40, .inl (cI, 16, .inl (fun _ => 0))), (q_48, .inl (cI, 16, .inl (fun _ => 0))), (q_56, .inl (cI, 16, .inl (fun _ => 0))), (q_64, .inl (cI, 48, .inl (fun _ => 0)))] H := hP
    have hD : va_D A [(o, .inr (7, [.int 0, .int (nI (ncl k9)), .ref q_7, .ref q_15, .int 0, .ref q_23, .ref q_32, .int 0, .ref q_40, .ref q_48, .ref q_56, .int 0, .ref q_64, .int 0, .int 0, .long 0, .int 0])), (q_7, .inl (cI, 64, .inl (fun _ => 0))), (q_15, .inl (cZ, 64, .inl (fun _ => 0))), (q_23, .inl (cI, 8, .inl (fun _ => 0))), (q_32, .inl (cI, 128, .inl (fun _ => 0))), (q_40, .inl (cI, 16, .inl (fun _ => 0))), (q_48, .inl (cI, 16, .inl (fun _ => 0))), (q_56, .inl (cI, 16, .inl (fun _ => 0))), (q_64, .inl (cI, 48, .inl (fun _ => 0)))] := hD
    refine lv_iconst (v := 0) hx hb d_T_init_94 (by decide) ?_
    refine lv_istore_n (lv' := [(2, .int 0), (0, .ref o), (1, .int k9)]) hx hb d_T_init_95 rfl hl (by decide) rfl (fun ls hl => ?_)
    have loop_96 : ∀ (f96 : Nat) (j : Nat) (f1 : Nat → Int32) (x2 : Int32) (H : Heap) (locs : List Loc) (ls : Array Slot), (j ≤ 64 ∧ 64 < j + f96 ∧ x2 = nI j ∧ (∀ i, i < j → f1 i = -1)) → va_P D cls [(o, .inr (7, [.int 0, .int (nI (ncl k9)), .ref q_7, .ref q_15, .int 0, .ref q_23, .ref q_32, .int 0, .ref q_40, .ref q_48, .ref q_56, .int 0, .ref q_64, .int 0, .int 0, .long 0, .int 0])), (q_7, .inl (cI, 64, .inl f1)), (q_15, .inl (cZ, 64, .inl (fun _ => 0))), (q_23, .inl (cI, 8, .inl (fun _ => 0))), (q_32, .inl (cI, 128, .inl (fun _ => 0))), (q_40, .inl (cI, 16, .inl (fun _ => 0))), (q_48, .inl (cI, 16, .inl (fun _ => 0))), (q_56, .inl (cI, 16, .inl (fun _ => 0))), (q_64, .inl (cI, 48, .inl (fun _ => 0)))] H → va_D A [(o, .inr (7, [.int 0, .int (nI (ncl k9)), .ref q_7, .ref q_15, .int 0, .ref q_23, .ref q_32, .int 0, .ref q_40, .ref q_48, .ref q_56, .int 0, .ref q_64, .int 0, .int 0, .long 0, .int 0])), (q_7, .inl (cI, 64, .inl f1)), (q_15, .inl (cZ, 64, .inl (fun _ => 0))), (q_23, .inl (cI, 8, .inl (fun _ => 0))), (q_32, .inl (cI, 128, .inl (fun _ => 0))), (q_40, .inl (cI, 16, .inl (fun _ => 0))), (q_48, .inl (cI, 16, .inl (fun _ => 0))), (q_56, .inl (cI, 16, .inl (fun _ => 0))), (q_64, .inl (cI, 48, .inl (fun _ => 0)))] → va_S A s.heap H locs → lv_has ls 3 [(0, .ref o), (1, .int k9), (2, .int x2)] → W p l e (headSpec (wq y_T_init c_T_init 3 none) ({ frames := 1, cells := 8, slots := 360, locals := 24 })).room s m ([.ref o, .int k9] : List Value).toArray below meth c H locs 8 360 (MQ below (va_Qv (fun (u : va_W) => ∃ dT gT la ca aa na ya ta : Nat, u = [(o, .inr (7, [.int 0, .int (nI (ncl k9)), .ref dT, .ref gT, .int (nI 0), .ref la, .ref ca, .int (nI 0), .ref aa, .ref na, .ref ya, .int (nI 0), .ref ta, .int 0, .int 0, .long 0, .int 0])), (dT, .inl (cI, 64, .inl (fun _ => -1))), (gT, .inl (cZ, 64, .inl (fun _ => 0))), (la, .inl (cI, 8, .inl (fun _ => 0))), (ca, .inl (cI, 128, .inl (fun _ => 0))), (aa, .inl (cI, 16, .inl (fun _ => 0))), (na, .inl (cI, 16, .inl (fun _ => 0))), (ya, .inl (cI, 16, .inl (fun _ => 0))), (ta, .inl (cI, 48, .inl (fun _ => 0)))]) (mB D (TY cI cZ cJ cO) A) A) ([.ref o, .int k9] : List Value).toArray s 8 360 A) (F0 m 96 ls []) := by
      intro f96
      induction f96 with
      | zero =>
        intro j f1 x2 H locs ls hI hP hD hS hl
        obtain ⟨hj1, hj2, rfl, hq⟩ := hI
        omega
      | succ f96 ih96 =>
        intro j f1 x2 H locs ls hI hP hD hS hl
        obtain ⟨hj1, hj2, rfl, hq⟩ := hI
        refine lv_iload_n hx hb d_T_init_96 rfl (lv_at hl 2 rfl) ?_
        refine lv_bipush (v := 64) hx hb d_T_init_97 (by decide) ?_
        refine lv_icmp_ge (tgt := 115) hx hb d_T_init_99 (by decide) (fun c_99 => ?_) (fun c_99 => ?_)
        · have hP := ba_cg (w1 := [(o, .inr (7, [.int 0, .int (nI (ncl k9)), .ref q_7, .ref q_15, .int 0, .ref q_23, .ref q_32, .int 0, .ref q_40, .ref q_48, .ref q_56, .int 0, .ref q_64, .int 0, .int 0, .long 0, .int 0]))]) (w2 := [(q_15, .inl (cZ, 64, .inl (fun _ => 0))), (q_23, .inl (cI, 8, .inl (fun _ => 0))), (q_32, .inl (cI, 128, .inl (fun _ => 0))), (q_40, .inl (cI, 16, .inl (fun _ => 0))), (q_48, .inl (cI, 16, .inl (fun _ => 0))), (q_56, .inl (cI, 16, .inl (fun _ => 0))), (q_64, .inl (cI, 48, .inl (fun _ => 0)))]) (f' := fun _ => -1) (fun i hi => hq i (by rw [o64 hj1 c_99]; exact hi)) hP
          have hD := ba_cgD (w1 := [(o, .inr (7, [.int 0, .int (nI (ncl k9)), .ref q_7, .ref q_15, .int 0, .ref q_23, .ref q_32, .int 0, .ref q_40, .ref q_48, .ref q_56, .int 0, .ref q_64, .int 0, .int 0, .long 0, .int 0]))]) (w2 := [(q_15, .inl (cZ, 64, .inl (fun _ => 0))), (q_23, .inl (cI, 8, .inl (fun _ => 0))), (q_32, .inl (cI, 128, .inl (fun _ => 0))), (q_40, .inl (cI, 16, .inl (fun _ => 0))), (q_48, .inl (cI, 16, .inl (fun _ => 0))), (q_56, .inl (cI, 16, .inl (fun _ => 0))), (q_64, .inl (cI, 48, .inl (fun _ => 0)))]) (x' := .inl (cI, 64, .inl (fun _ => -1))) hD
          have hP : va_P D cls [(o, .inr (7, [.int 0, .int (nI (ncl k9)), .ref q_7, .ref q_15, .int 0, .ref q_23, .ref q_32, .int 0, .ref q_40, .ref q_48, .ref q_56, .int 0, .ref q_64, .int 0, .int 0, .long 0, .int 0])), (q_7, .inl (cI, 64, .inl (fun _ => -1))), (q_15, .inl (cZ, 64, .inl (fun _ => 0))), (q_23, .inl (cI, 8, .inl (fun _ => 0))), (q_32, .inl (cI, 128, .inl (fun _ => 0))), (q_40, .inl (cI, 16, .inl (fun _ => 0))), (q_48, .inl (cI, 16, .inl (fun _ => 0))), (q_56, .inl (cI, 16, .inl (fun _ => 0))), (q_64, .inl (cI, 48, .inl (fun _ => 0)))] H := hP
          have hD : va_D A [(o, .inr (7, [.int 0, .int (nI (ncl k9)), .ref q_7, .ref q_15, .int 0, .ref q_23, .ref q_32, .int 0, .ref q_40, .ref q_48, .ref q_56, .int 0, .ref q_64, .int 0, .int 0, .long 0, .int 0])), (q_7, .inl (cI, 64, .inl (fun _ => -1))), (q_15, .inl (cZ, 64, .inl (fun _ => 0))), (q_23, .inl (cI, 8, .inl (fun _ => 0))), (q_32, .inl (cI, 128, .inl (fun _ => 0))), (q_40, .inl (cI, 16, .inl (fun _ => 0))), (q_48, .inl (cI, 16, .inl (fun _ => 0))), (q_56, .inl (cI, 16, .inl (fun _ => 0))), (q_64, .inl (cI, 48, .inl (fun _ => 0)))] := hD
          exact W.vret hx hb hr (fun t9 ht hW => ⟨⟨[(o, .inr (7, [.int 0, .int (nI (ncl k9)), .ref q_7, .ref q_15, .int 0, .ref q_23, .ref q_32, .int 0, .ref q_40, .ref q_48, .ref q_56, .int 0, .ref q_64, .int 0, .int 0, .long 0, .int 0])), (q_7, .inl (cI, 64, .inl (fun _ => -1))), (q_15, .inl (cZ, 64, .inl (fun _ => 0))), (q_23, .inl (cI, 8, .inl (fun _ => 0))), (q_32, .inl (cI, 128, .inl (fun _ => 0))), (q_40, .inl (cI, 16, .inl (fun _ => 0))), (q_48, .inl (cI, 16, .inl (fun _ => 0))), (q_56, .inl (cI, 16, .inl (fun _ => 0))), (q_64, .inl (cI, 48, .inl (fun _ => 0)))], rfl, ⟨q_7, q_15, q_23, q_32, q_40, q_48, q_56, q_64, rfl⟩, by rw [ht]; exact hP, va_K.moved hW.alike hK, hD⟩, hS.F ht⟩) hS.2.2 d_T_init_115
        · refine lv_aload_n hx hb d_T_init_102 rfl (lv_at hl 0 rfl) ?_
          refine va_get (D := D) (ci := 7) (v := .ref q_7) (C := Q_T) (T := F_T) (N := 17) hx hb hg in_T hown hK hP 0 rfl rfl 2 (by decide) (hg _ g_641) (fun _ h9 => h9) rfl d_T_init_103 ?_
          refine lv_iload_n hx hb d_T_init_106 rfl (lv_at hl 2 rfl) ?_
          refine lv_iconst (v := (-1)) hx hb d_T_init_107 (by decide) ?_
          refine va_iast hx hb hK hP hD hS 1 0 rfl rfl (vp_in_nI (i64 hj1 c_99) (by decide)) d_T_init_108 (fun H locs hP hD hS => ?_)
          rw [nI_clamp (show j < 2 ^ 31 by omega)] at hP hD
          have hP : va_P D cls [(o, .inr (7, [.int 0, .int (nI (ncl k9)), .ref q_7, .ref q_15, .int 0, .ref q_23, .ref q_32, .int 0, .ref q_40, .ref q_48, .ref q_56, .int 0, .ref q_64, .int 0, .int 0, .long 0, .int 0])), (q_7, .inl (cI, 64, .inl (upd f1 j (-1)))), (q_15, .inl (cZ, 64, .inl (fun _ => 0))), (q_23, .inl (cI, 8, .inl (fun _ => 0))), (q_32, .inl (cI, 128, .inl (fun _ => 0))), (q_40, .inl (cI, 16, .inl (fun _ => 0))), (q_48, .inl (cI, 16, .inl (fun _ => 0))), (q_56, .inl (cI, 16, .inl (fun _ => 0))), (q_64, .inl (cI, 48, .inl (fun _ => 0)))] H := hP
          have hD : va_D A [(o, .inr (7, [.int 0, .int (nI (ncl k9)), .ref q_7, .ref q_15, .int 0, .ref q_23, .ref q_32, .int 0, .ref q_40, .ref q_48, .ref q_56, .int 0, .ref q_64, .int 0, .int 0, .long 0, .int 0])), (q_7, .inl (cI, 64, .inl (upd f1 j (-1)))), (q_15, .inl (cZ, 64, .inl (fun _ => 0))), (q_23, .inl (cI, 8, .inl (fun _ => 0))), (q_32, .inl (cI, 128, .inl (fun _ => 0))), (q_40, .inl (cI, 16, .inl (fun _ => 0))), (q_48, .inl (cI, 16, .inl (fun _ => 0))), (q_56, .inl (cI, 16, .inl (fun _ => 0))), (q_64, .inl (cI, 48, .inl (fun _ => 0)))] := hD
          refine lv_iinc (v := (nI j) + 1) (lv' := [(2, .int ((nI j) + 1)), (0, .ref o), (1, .int k9)]) hx hb d_T_init_109 hl (k := 2) rfl rfl (by decide) rfl (fun ls hl => ?_)
          refine lv_goto (tgt := 96) hx hb d_T_init_112 (by decide) ?_
          exact ih96 (j + 1) (upd f1 j (-1)) ((nI j) + 1) _ _ ls (⟨by have := i64 hj1 c_99; omega, by omega, nI_1 j, fun i hi => by by_cases e : i = j <;> simp [upd, e] <;> exact hq i (by omega)⟩) hP hD hS (lv_sub hl [1, 2, 0] rfl)
    exact loop_96 65 0 (fun _ => 0) 0 _ _ ls (⟨by omega, by omega, rfl, fun i hi => absurd hi (Nat.not_lt_zero i)⟩) hP hD hS (lv_sub hl [1, 2, 0] rfl)
