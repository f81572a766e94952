
/-- rule -/
def rOK (f t lo hi y un : Int32) : Bool := !decide (t < f) && (iw lo 0 255 && (iw hi lo 255 && (iw y (-10000) 10000 && iw un y 10000)))
def cRul (n nr : Nat) (f t lo hi y un : Int32) : Int32 := if hs n f.toInt && hs n t.toInt then (if rOK f t lo hi y un then (if nI nr = 8 then 3 else 0) else 2) else 1
theorem cu_1 {n nr : Nat} {f t lo hi y un : Int32} (h : bI (hs n f.toInt) = 0) : cRul n nr f t lo hi y un = 1 := by rw [cRul, bI_eq0 h]; rfl
theorem cu_2 {n nr : Nat} {f t lo hi y un : Int32} (h : bI (hs n t.toInt) = 0) : cRul n nr f t lo hi y un = 1 := by rw [cRul, bI_eq0 h, Bool.and_false]; rfl
theorem cu_w {n nr : Nat} {f t lo hi y un : Int32} (h : ¬ bI (hs n f.toInt) = 0) (h1 : ¬ bI (hs n t.toInt) = 0) (hw : rOK f t lo hi y un = false) : cRul n nr f t lo hi y un = 2 := by rw [cRul, bI_ne0 h, bI_ne0 h1, hw]; rfl
theorem cu_8 {n nr : Nat} {f t lo hi y un : Int32} (h : ¬ bI (hs n f.toInt) = 0) (h1 : ¬ bI (hs n t.toInt) = 0) (hw : rOK f t lo hi y un = true) (h8 : nI nr = 8) : cRul n nr f t lo hi y un = 3 := by rw [cRul, bI_ne0 h, bI_ne0 h1, hw, if_pos h8]; rfl
theorem cu_0 {n nr : Nat} {f t lo hi y un : Int32} (h : ¬ bI (hs n f.toInt) = 0) (h1 : ¬ bI (hs n t.toInt) = 0) (hw : rOK f t lo hi y un = true) (h8 : ¬ nI nr = 8) : cRul n nr f t lo hi y un = 0 := by rw [cRul, bI_ne0 h, bI_ne0 h1, hw, if_neg h8]; rfl
theorem rw_1 {f t lo hi y un : Int32} (h : t < f) : rOK f t lo hi y un = false := by simp [rOK, h]
theorem rw_2 {f t lo hi y un : Int32} (h : bI (iw lo 0 255) = 0) : rOK f t lo hi y un = false := by simp [rOK, bI_eq0 h]
theorem rw_3 {f t lo hi y un : Int32} (h : bI (iw hi lo 255) = 0) : rOK f t lo hi y un = false := by simp [rOK, bI_eq0 h]
theorem rw_4 {f t lo hi y un : Int32} (h : bI (iw y (-10000) 10000) = 0) : rOK f t lo hi y un = false := by simp [rOK, bI_eq0 h]
theorem rw_5 {f t lo hi y un : Int32} (h : bI (iw un y 10000) = 0) : rOK f t lo hi y un = false := by simp [rOK, bI_eq0 h]
theorem rw_0 {f t lo hi y un : Int32} (h : ¬ t < f) (h1 : ¬ bI (iw lo 0 255) = 0) (h2 : ¬ bI (iw hi lo 255) = 0) (h3 : ¬ bI (iw y (-10000) 10000) = 0) (h4 : ¬ bI (iw un y 10000) = 0) : rOK f t lo hi y un = true := by simp [rOK, h, bI_ne0 h1, bI_ne0 h2, bI_ne0 h3, bI_ne0 h4]
def tlR (tl : Nat → Int32) (r : Nat) (f t lo hi y un : Int32) : Nat → Int32 := upd (upd (upd (upd (upd (upd tl (6 * r) f) (6 * r + 1) t) (6 * r + 2) lo) (6 * r + 3) hi) (6 * r + 4) y) (6 * r + 5) un
/-- rule r of the reference holds -/
def hld (n : Nat) (d tl : Nat → Int32) (r : Nat) : Bool := hol n d (tl (6 * r + 2)) (tl (6 * r + 3)) (tl (6 * r)).toNatClampNeg ((tl (6 * r + 1)).toNatClampNeg + 1 - (tl (6 * r)).toNatClampNeg)
/-- age, by the reference: some, begin, end behind r rules -/
def agT (n : Nat) (d tl : Nat → Int32) : Nat → Int32 × Int32 × Int32
  | 0 => (0, -20000, 20000)
  | r + 1 => if hld n d tl r then (1, if tl (6 * r + 4) ≤ (agT n d tl r).2.1 then (agT n d tl r).2.1 else tl (6 * r + 4), if (agT n d tl r).2.2 ≤ tl (6 * r + 5) then (agT n d tl r).2.2 else tl (6 * r + 5)) else agT n d tl r
/-- the rules of the reference are well made -/
def uOK (n nr : Nat) (tl : Nat → Int32) : Prop := ∀ r, r < nr → ∃ F T : Nat, tl (6 * r) = nI F ∧ tl (6 * r + 1) = nI T ∧ F ≤ T ∧ T < n ∧ 0 ≤ (tl (6 * r + 2)).toInt
theorem hld_e {n : Nat} {d tl : Nat → Int32} {r F T : Nat} (hF : tl (6 * r) = nI F) (hT : tl (6 * r + 1) = nI T) (h1 : F < 2 ^ 20) (h2 : T < 2 ^ 20) : hol n d (tl (6 * r + 2)) (tl (6 * r + 3)) F (T + 1 - F) = hld n d tl r := by
  rw [hld, hF, hT, nI_clamp (by omega), nI_clamp (by omega)]
def cAge (w : Int32) (t : Int32 × Int32 × Int32) : Int32 := if iw w 0 1 then (if t.1 = 0 ∨ ¬ t.2.1 ≤ t.2.2 then 2 else 0) else 1
theorem cg_1 {w : Int32} {t : Int32 × Int32 × Int32} (h : bI (iw w 0 1) = 0) : cAge w t = 1 := by rw [cAge, bI_eq0 h]; rfl
theorem cg_2 {w a b c : Int32} (h : ¬ bI (iw w 0 1) = 0) (h1 : a = 0) : cAge w (a, b, c) = 2 := by rw [cAge, bI_ne0 h, if_pos (Or.inl h1)]; rfl
theorem cg_3 {w a b c : Int32} (h : ¬ bI (iw w 0 1) = 0) (h1 : ¬ b ≤ c) : cAge w (a, b, c) = 2 := by rw [cAge, bI_ne0 h, if_pos (Or.inr h1)]; rfl
theorem cg_0 {w a b c : Int32} (h : ¬ bI (iw w 0 1) = 0) (h1 : ¬ a = 0) (h2 : b ≤ c) : cAge w (a, b, c) = 0 := by rw [cAge, bI_ne0 h, if_pos rfl, if_neg (fun q => q.elim h1 (fun z => z h2))]
theorem agT_f {n : Nat} {d tl : Nat → Int32} {r : Nat} {a b c : Int32} (hq : (a, b, c) = agT n d tl r) (h : bI (hld n d tl r) = 0) : (a, b, c) = agT n d tl (r + 1) := by rw [agT, bI_eq0 h]; exact hq
theorem agT_t {n : Nat} {d tl : Nat → Int32} {r : Nat} {a b c b2 c2 : Int32} (hq : (a, b, c) = agT n d tl r) (h : ¬ bI (hld n d tl r) = 0) (hb : b2 = if tl (6 * r + 4) ≤ b then b else tl (6 * r + 4)) (hc : c2 = if c ≤ tl (6 * r + 5) then c else tl (6 * r + 5)) : (1, b2, c2) = agT n d tl (r + 1) := by
  rw [agT, bI_ne0 h, ← hq, hb, hc]; rfl
/-- the OFF of mirror A among the first j places, by the reference -/
def moL (n : Nat) (d g : Nat → Int32) (A : Nat) : Nat → Int64
  | 0 => 0
  | j + 1 => moL n d g A j + (if kn n d g (j : Int) && kn n d g ((A : Int) - j) then ((d j - d (A - j)) * (d j - d (A - j))).toInt64 else 0)
theorem moT_t {n : Nat} {d g : Nat → Int32} {A j : Nat} (hA : A < 2 ^ 20) (hj : 2 * j < A) (h1 : ¬ bI (kn n d g (nI j).toInt64.toInt) = 0) (h2 : ¬ bI (kn n d g (nI A - nI j).toInt64.toInt) = 0) : moL n d g A j + ((d (nI j).toNatClampNeg - d (nI A - nI j).toNatClampNeg) * (d (nI j).toNatClampNeg - d (nI A - nI j).toNatClampNeg)).toInt64 = moL n d g A (j + 1) := by
  rw [Int32.toInt_toInt64] at h1 h2
  rw [kn1 (by omega)] at h1; rw [kn2 hA (by omega)] at h2
  rw [nI_clamp (by omega), pk_sub (by omega), nI_clamp (by omega), moL, bI_ne0 h1, bI_ne0 h2]; rfl
theorem moT_f1 {n : Nat} {d g : Nat → Int32} {A j : Nat} (hj : j < 2 ^ 20) (h1 : bI (kn n d g (nI j).toInt64.toInt) = 0) : moL n d g A j = moL n d g A (j + 1) := by
  rw [Int32.toInt_toInt64, kn1 hj] at h1
  rw [moL, bI_eq0 h1]; exact (Int64.add_zero _).symm
theorem moT_f2 {n : Nat} {d g : Nat → Int32} {A j : Nat} (hA : A < 2 ^ 20) (hj : j < 2 ^ 20) (h2 : bI (kn n d g (nI A - nI j).toInt64.toInt) = 0) : moL n d g A j = moL n d g A (j + 1) := by
  rw [Int32.toInt_toInt64, kn2 hA hj] at h2
  rw [moL, bI_eq0 h2, Bool.and_false]; exact (Int64.add_zero _).symm
theorem mpT_t {n : Nat} {d g : Nat → Int32} {A j : Nat} (hA : A < 2 ^ 20) (hj : j < 2 ^ 20) (h1 : ¬ bI (kn n d g (nI j).toInt64.toInt) = 0) (h2 : ¬ bI (kn n d g (nI A - nI j).toInt64.toInt) = 0) : nI (mp n d g A j) + 1 = nI (mp n d g A (j + 1)) := by
  rw [Int32.toInt_toInt64] at h1 h2
  exact mp_t hA hj h1 h2
theorem mpT_f1 {n : Nat} {d g : Nat → Int32} {A j : Nat} (hj : j < 2 ^ 20) (h1 : bI (kn n d g (nI j).toInt64.toInt) = 0) : nI (mp n d g A j) = nI (mp n d g A (j + 1)) := by
  rw [Int32.toInt_toInt64] at h1
  exact mp_f1 hj h1
theorem mpT_f2 {n : Nat} {d g : Nat → Int32} {A j : Nat} (hA : A < 2 ^ 20) (hj : j < 2 ^ 20) (h2 : bI (kn n d g (nI A - nI j).toInt64.toInt) = 0) : nI (mp n d g A j) = nI (mp n d g A (j + 1)) := by
  rw [Int32.toInt_toInt64] at h2
  exact mp_f2 hA hj h2
abbrev M3 : Type := Int32 × Int64 × Int32
/-- one mirror of the reference's search -/
def fT (n : Nat) (d g : Nat → Int32) (j : Nat) (t : M3) : M3 := if 0 < nI (mp n d g j ((j + 1) / 2)) ∧ nI n / 4 ≤ nI (mp n d g j ((j + 1) / 2)) ∧ (decide (t.1 = -1) || btL t.2.1 t.2.2 (moL n d g j ((j + 1) / 2)) (nI (mp n d g j ((j + 1) / 2)))) = true then (nI j, moL n d g j ((j + 1) / 2), nI (mp n d g j ((j + 1) / 2))) else t
def fmT (n : Nat) (d g : Nat → Int32) (bo : Int64) (bm : Int32) : Nat → M3
  | 0 => (-1, bo, bm)
  | j + 1 => fT n d g j (fmT n d g bo bm j)
theorem gT_1 {n : Nat} {d g : Nat → Int32} {j : Nat} {t : M3} (h : nI (mp n d g j ((j + 1) / 2)) ≤ 0) : fT n d g j t = t := if_neg (fun q => by rw [ile] at h; have := q.1; rw [ilt] at this; omega)
theorem gT_2 {n : Nat} {d g : Nat → Int32} {j : Nat} {t : M3} (h : nI (mp n d g j ((j + 1) / 2)) < nI n / 4) : fT n d g j t = t := if_neg (fun q => by rw [ilt] at h; have := q.2.1; rw [ile] at this; omega)
theorem gT_3 {n : Nat} {d g : Nat → Int32} {j : Nat} {a c : Int32} {b : Int64} (h : bI (decide (a = -1) || btL b c (moL n d g j ((j + 1) / 2)) (nI (mp n d g j ((j + 1) / 2)))) = 0) : fT n d g j (a, b, c) = (a, b, c) := if_neg (fun q => by have := q.2.2; rw [bI_eq0 h] at this; cases this)
theorem gT_4 {n : Nat} {d g : Nat → Int32} {j : Nat} {a c : Int32} {b : Int64} (h0 : ¬ nI (mp n d g j ((j + 1) / 2)) ≤ 0) (h1 : ¬ nI (mp n d g j ((j + 1) / 2)) < nI n / 4) (h : ¬ bI (decide (a = -1) || btL b c (moL n d g j ((j + 1) / 2)) (nI (mp n d g j ((j + 1) / 2)))) = 0) : fT n d g j (a, b, c) = (nI j, moL n d g j ((j + 1) / 2), nI (mp n d g j ((j + 1) / 2))) := if_pos ⟨by rw [ilt]; rw [ile] at h0; omega, by rw [ile]; rw [ilt] at h1; omega, bI_ne0 h⟩
theorem oj_out {n j : Nat} (h4 : 4 ≤ n) (h64 : n ≤ 64) (hj : j ≤ 2 * n - 1) (c : 2 * nI n - 2 < nI j) : j = 2 * n - 1 := by
  rw [ilt, n2_ti h4 h64, nI_toInt (by omega)] at c; omega
theorem oj_in {n j : Nat} (h4 : 4 ≤ n) (h64 : n ≤ 64) (hj : j ≤ 2 * n - 1) (c : ¬ 2 * nI n - 2 < nI j) : j < 2 * n - 1 := by
  rw [ilt, n2_ti h4 h64, nI_toInt (by omega)] at c; omega
def cMir (be w : Int32) : Int32 := if be = -1 then 1 else if iw w 0 2 then 0 else 2
theorem cm_1 {be w : Int32} (h : be = -1) : cMir be w = 1 := if_pos h
theorem cm_2 {be w : Int32} (h : ¬ be = -1) (h1 : bI (iw w 0 2) = 0) : cMir be w = 2 := by rw [cMir, if_neg h, bI_eq0 h1]; rfl
theorem cm_0 {be w : Int32} (h : ¬ be = -1) (h1 : ¬ bI (iw w 0 2) = 0) : cMir be w = 0 := by rw [cMir, if_neg h, bI_ne0 h1]; rfl
def aMir (t : M3) (w : Int32) : Int64 := if w = 0 then t.1.toInt64 else if w = 1 then t.2.1 else t.2.2.toInt64

set_option maxHeartbeats 4000000 in
set_option maxRecDepth 100000 in
/-- the reference: rule(..) -/
theorem c_T_rule_ok (l : Launch) (D : va_G) (cI cZ cJ cO : ClassId) (sz : Nat) (o dT gT la ca aa na ya ta : Nat) (n ns nn nr : Nat) (d g sl cr ak no ye tl : Nat → Int32) (th be bp bm : Int32) (bo : Int64) (h4 : 4 ≤ n) (h64 : n ≤ 64) (hd : dOK n d) (f t lo hi y un : Int32) (hnr : nr ≤ 8) : Met l y_T_rule (wq y_T_rule c_T_rule 8 (some .int)) ({ frames := 2, cells := 0, slots := 0, locals := 47 }) (mP D (TY cI cZ cJ cO) [(o, .inr (7, [.int th, .int (nI n), .ref dT, .ref gT, .int (nI ns), .ref la, .ref ca, .int (nI nn), .ref aa, .ref na, .ref ya, .int (nI nr), .ref ta, .int be, .int bp, .long bo, .int bm])), (dT, .inl (cI, 64, .inl d)), (gT, .inl (cZ, 64, .inl g)), (la, .inl (cI, 8, .inl sl)), (ca, .inl (cI, 128, .inl cr)), (aa, .inl (cI, 16, .inl ak)), (na, .inl (cI, 16, .inl no)), (ya, .inl (cI, 16, .inl ye)), (ta, .inl (cI, 48, .inl tl))] [.ref o, .int f, .int t, .int lo, .int hi, .int y, .int un] sz) (va_Qi (fun (r : Int32) (u : va_W) => ((cRul n nr f t lo hi y un = 0 ∧ u = [(o, .inr (7, [.int 0, .int (nI n), .ref dT, .ref gT, .int (nI ns), .ref la, .ref ca, .int (nI nn), .ref aa, .ref na, .ref ya, .int (nI (nr + 1)), .ref ta, .int be, .int bp, .long bo, .int bm])), (dT, .inl (cI, 64, .inl d)), (gT, .inl (cZ, 64, .inl g)), (la, .inl (cI, 8, .inl sl)), (ca, .inl (cI, 128, .inl cr)), (aa, .inl (cI, 16, .inl ak)), (na, .inl (cI, 16, .inl no)), (ya, .inl (cI, 16, .inl ye)), (ta, .inl (cI, 48, .inl (tlR tl nr f t lo hi y un)))] ∧ r = nI (nr + 1)) ∨ (¬ cRul n nr f t lo hi y un = 0 ∧ u = [(o, .inr (7, [.int (cRul n nr f t lo hi y un), .int (nI n), .ref dT, .ref gT, .int (nI ns), .ref la, .ref ca, .int (nI nn), .ref aa, .ref na, .ref ya, .int (nI nr), .ref ta, .int be, .int bp, .long bo, .int bm])), (dT, .inl (cI, 64, .inl d)), (gT, .inl (cZ, 64, .inl g)), (la, .inl (cI, 8, .inl sl)), (ca, .inl (cI, 128, .inl cr)), (aa, .inl (cI, 16, .inl ak)), (na, .inl (cI, 16, .inl no)), (ya, .inl (cI, 16, .inl ye)), (ta, .inl (cI, 48, .inl tl))]))) (mB D (TY cI cZ cJ cO) (va_A [(o, .inr (7, [.int th, .int (nI n), .ref dT, .ref gT, .int (nI ns), .ref la, .ref ca, .int (nI nn), .ref aa, .ref na, .ref ya, .int (nI nr), .ref ta, .int be, .int bp, .long bo, .int bm])), (dT, .inl (cI, 64, .inl d)), (gT, .inl (cZ, 64, .inl g)), (la, .inl (cI, 8, .inl sl)), (ca, .inl (cI, 128, .inl cr)), (aa, .inl (cI, 16, .inl ak)), (na, .inl (cI, 16, .inl no)), (ya, .inl (cI, 16, .inl ye)), (ta, .inl (cI, 48, .inl tl))] sz)) (va_A [(o, .inr (7, [.int th, .int (nI n), .ref dT, .ref gT, .int (nI ns), .ref la, .ref ca, .int (nI nn), .ref aa, .ref na, .ref ya, .int (nI nr), .ref ta, .int be, .int bp, .long bo, .int bm])), (dT, .inl (cI, 64, .inl d)), (gT, .inl (cZ, 64, .inl g)), (la, .inl (cI, 8, .inl sl)), (ca, .inl (cI, 128, .inl cr)), (aa, .inl (cI, 16, .inl ak)), (na, .inl (cI, 16, .inl no)), (ya, .inl (cI, 16, .inl ye)), (ta, .inl (cI, 48, .inl tl))] sz)) 0 0 (va_A [(o, .inr (7, [.int th, .int (nI n), .ref dT, .ref gT, .int (nI ns), .ref la, .ref ca, .int (nI nn), .ref aa, .ref na, .ref ya, .int (nI nr), .ref ta, .int be, .int bp, .long bo, .int bm])), (dT, .inl (cI, 64, .inl d)), (gT, .inl (cZ, 64, .inl g)), (la, .inl (cI, 8, .inl sl)), (ca, .inl (cI, 128, .inl cr)), (aa, .inl (cI, 16, .inl ak)), (na, .inl (cI, 16, .inl no)), (ya, .inl (cI, 16, .inl ye)), (ta, .inl (cI, 48, .inl tl))] sz) := by
  refine Met.ofW (cc := c_T_rule) (maxL := 8) (ret := (some .int)) (by decide) rfl ?_
  intro p e s m args below meth c s₁ B hml hv
  obtain ⟨rfl, hsz, hP, hK, hD0, hN⟩ := hv
  have hx := B.exec
  have hb := B.bytes
  have hr := B.returns
  have hg := gt_h (atoms_spec (ws := (wq y_T_rule c_T_rule 8 (some .int))) B.pre)
  have hown : s.vm.findClass "RubbingMirrorsModel" = some m.cls := findClass_of_methodNamed B.named
  have hlocks := B.notSynchronized
  subst hsz
  have hD := hD0.self (sz := s.heap.size)
  generalize hAe : va_A [(o, .inr (7, [.int th, .int (nI n), .ref dT, .ref gT, .int (nI ns), .ref la, .ref ca, .int (nI nn), .ref aa, .ref na, .ref ya, .int (nI nr), .ref ta, .int be, .int bp, .long bo, .int bm])), (dT, .inl (cI, 64, .inl d)), (gT, .inl (cZ, 64, .inl g)), (la, .inl (cI, 8, .inl sl)), (ca, .inl (cI, 128, .inl cr)), (aa, .inl (cI, 16, .inl ak)), (na, .inl (cI, 16, .inl no)), (ya, .inl (cI, 16, .inl ye)), (ta, .inl (cI, 48, .inl tl))] s.heap.size = A at hD ⊢
  have hA : ∀ q : Nat, s.heap.size ≤ q → A q := fun q h => by rw [← hAe]; exact Or.inr h
  have hS : va_S A s.heap s.heap [] := va_S.rf
  have hl := lv_entry ([.ref o, .int f, .int t, .int lo, .int hi, .int y, .int un]) (n := 8) (Nat.le_of_ble_eq_true rfl)
  rw [lg_entry_eq]
  generalize (lg_sl ([.ref o, .int f, .int t, .int lo, .int hi, .int y, .int un]) ++ List.replicate (8 - (lg_sl ([.ref o, .int f, .int t, .int lo, .int hi, .int y, .int un])).length) Slot.unset).toArray = ls at hl ⊢
  have hl : lv_has ls 8 [(0, .ref o), (1, .int f), (2, .int t), (3, .int lo), (4, .int hi), (5, .int y), (6, .int un)] := hl
  refine lv_iload_n hx hb d_T_rule_0 rfl (lv_at hl 2 rfl) ?_
  refine lv_iload_n hx hb d_T_rule_1 rfl (lv_at hl 1 rfl) ?_
  refine lv_icmp_lt (tgt := 61) hx hb d_T_rule_2 (by decide) (fun c_2 => ?_) (fun c_2 => ?_)
  · refine lv_iconst (v := 1) hx hb d_T_rule_61 (by decide) ?_
    refine lv_goto (tgt := 66) hx hb d_T_rule_62 (by decide) ?_
    refine lv_istore (lv' := [(7, .int 1), (0, .ref o), (1, .int f), (2, .int t), (3, .int lo), (4, .int hi), (5, .int y), (6, .int un)]) hx hb d_T_rule_66 hl (by decide) rfl (fun ls hl => ?_)
    refine lv_aload_n hx hb d_T_rule_68 rfl (lv_at hl 1 rfl) ?_
    refine lv_aload_n hx hb d_T_rule_69 rfl (lv_at hl 1 rfl) ?_
    refine lv_iload_n hx hb d_T_rule_70 rfl (lv_at hl 2 rfl) ?_
    refine lv_i2l (v := f.toInt64) hx hb d_T_rule_71 rfl ?_
    refine vp_callSi (va_Run.run (va_runV (As := [.long f.toInt64]) (rest := [.ref o]) ⟨hx, hb, hml, hown, hg⟩ (c_T_isPlace_ok l D cI cZ cJ cO o dT gT la ca aa na ya ta n ns nn nr d g sl cr ak no ye tl th be bp bm bo h4 h64 hd f.toInt64) (cwV 1 hg (gv g_699 g_701 g_9 g_26 g_702) rfl rfl rfl (by decide +kernel) ⟨Nat.le_of_ble_eq_true rfl, Nat.le_of_ble_eq_true rfl⟩) (pV hP hK hN (va_recv hK hP (ci := 7) (q0 := 0) rfl rfl)) rfl rfl hl.1 rfl (lv_room (Nat.le_of_ble_eq_true rfl)) d_T_rule_72 ⟨Nat.zero_le _, Nat.zero_le _⟩)) (fun r_1 hr_1 => ?_)
    subst hr_1
    rw [hs64]
    refine lv_if_eq (tgt := 87) hx hb d_T_rule_75 (by decide) (fun c_75 => ?_) (fun c_75 => ?_)
    · refine lv_iconst (v := 1) hx hb d_T_rule_87 (by decide) ?_
      refine lv_goto (tgt := 114) hx hb d_T_rule_88 (by decide) ?_
      refine va_put (D := D) (ci := 7) (v := .int 1) (ty := .int) (C := Q_T) (T := F_T) (N := 17) hx hb hg in_T tq_T tq_T_ok n_T hown hK hP hD hS 0 rfl rfl 0 (by decide) (hg _ g_639) (fun _ h9 => h9) rfl (by decide +kernel) rfl rfl (Nat.le_of_ble_eq_true rfl) d_T_rule_114 (fun H locs hP hD hS => ?_)
      have hP : va_P D cls [(o, .inr (7, [.int 1, .int (nI n), .ref dT, .ref gT, .int (nI ns), .ref la, .ref ca, .int (nI nn), .ref aa, .ref na, .ref ya, .int (nI nr), .ref ta, .int be, .int bp, .long bo, .int bm])), (dT, .inl (cI, 64, .inl d)), (gT, .inl (cZ, 64, .inl g)), (la, .inl (cI, 8, .inl sl)), (ca, .inl (cI, 128, .inl cr)), (aa, .inl (cI, 16, .inl ak)), (na, .inl (cI, 16, .inl no)), (ya, .inl (cI, 16, .inl ye)), (ta, .inl (cI, 48, .inl tl))] H := hP
      have hD : va_D A [(o, .inr (7, [.int 1, .int (nI n), .ref dT, .ref gT, .int (nI ns), .ref la, .ref ca, .int (nI nn), .ref aa, .ref na, .ref ya, .int (nI nr), .ref ta, .int be, .int bp, .long bo, .int bm])), (dT, .inl (cI, 64, .inl d)), (gT, .inl (cZ, 64, .inl g)), (la, .inl (cI, 8, .inl sl)), (ca, .inl (cI, 128, .inl cr)), (aa, .inl (cI, 16, .inl ak)), (na, .inl (cI, 16, .inl no)), (ya, .inl (cI, 16, .inl ye)), (ta, .inl (cI, 48, .inl tl))] := hD
      refine lv_aload_n hx hb d_T_rule_117 rfl (lv_at hl 1 rfl) ?_
      refine va_get (D := D) (ci := 7) (v := .int 1) (C := Q_T) (T := F_T) (N := 17) hx hb hg in_T hown hK hP 0 rfl rfl 0 (by decide) (hg _ g_639) (fun _ h9 => h9) rfl d_T_rule_118 ?_
      refine lv_if_le (tgt := 126) hx hb d_T_rule_121 (by decide) (fun c_121 => ?_) (fun c_121 => ?_)
      · exact absurd c_121 (by decide)
      · refine lv_iconst (v := 0) hx hb d_T_rule_124 (by decide) ?_
        exact W.iret hx hb hr (fun t9 ht hW => ⟨⟨_, [(o, .inr (7, [.int 1, .int (nI n), .ref dT, .ref gT, .int (nI ns), .ref la, .ref ca, .int (nI nn), .ref aa, .ref na, .ref ya, .int (nI nr), .ref ta, .int be, .int bp, .long bo, .int bm])), (dT, .inl (cI, 64, .inl d)), (gT, .inl (cZ, 64, .inl g)), (la, .inl (cI, 8, .inl sl)), (ca, .inl (cI, 128, .inl cr)), (aa, .inl (cI, 16, .inl ak)), (na, .inl (cI, 16, .inl no)), (ya, .inl (cI, 16, .inl ye)), (ta, .inl (cI, 48, .inl tl))], rfl, Or.inr ⟨by first | (rw [cu_1 c_75]; decide) | (rw [cu_2 c_84]; decide) | (rw [cu_w c_75 c_84 (rw_1 c_2)]; decide) | (rw [cu_w c_75 c_84 (rw_2 c_14)]; decide) | (rw [cu_w c_75 c_84 (rw_3 c_28)]; decide) | (rw [cu_w c_75 c_84 (rw_4 c_43)]; decide) | (rw [cu_w c_75 c_84 (rw_5 c_58)]; decide) | (rw [cu_8 c_75 c_84 (rw_0 c_2 c_14 c_28 c_43 c_58) c_106]; decide), by first | rw [cu_1 c_75] | rw [cu_2 c_84] | rw [cu_w c_75 c_84 (rw_1 c_2)] | rw [cu_w c_75 c_84 (rw_2 c_14)] | rw [cu_w c_75 c_84 (rw_3 c_28)] | rw [cu_w c_75 c_84 (rw_4 c_43)] | rw [cu_w c_75 c_84 (rw_5 c_58)] | rw [cu_8 c_75 c_84 (rw_0 c_2 c_14 c_28 c_43 c_58) c_106]⟩, by rw [ht]; exact hP, va_K.moved hW.alike hK, hD⟩, hS.F ht⟩) hS.2.2 d_T_rule_125
    · refine lv_aload_n hx hb d_T_rule_78 rfl (lv_at hl 1 rfl) ?_
      refine lv_iload_n hx hb d_T_rule_79 rfl (lv_at hl 3 rfl) ?_
      refine lv_i2l (v := t.toInt64) hx hb d_T_rule_80 rfl ?_
      refine vp_callSi (va_Run.run (va_runV (As := [.long t.toInt64]) (rest := [.ref o]) ⟨hx, hb, hml, hown, hg⟩ (c_T_isPlace_ok l D cI cZ cJ cO o dT gT la ca aa na ya ta n ns nn nr d g sl cr ak no ye tl th be bp bm bo h4 h64 hd t.toInt64) (cwV 1 hg (gv g_699 g_701 g_9 g_26 g_702) rfl rfl rfl (by decide +kernel) ⟨Nat.le_of_ble_eq_true rfl, Nat.le_of_ble_eq_true rfl⟩) (pV hP hK hN (va_recv hK hP (ci := 7) (q0 := 0) rfl rfl)) rfl rfl hl.1 rfl (lv_room (Nat.le_of_ble_eq_true rfl)) d_T_rule_81 ⟨Nat.zero_le _, Nat.zero_le _⟩)) (fun r_2 hr_2 => ?_)
      subst hr_2
      rw [hs64]
      refine lv_if_ne (tgt := 91) hx hb d_T_rule_84 (by decide) (fun c_84 => ?_) (fun c_84 => ?_)
      · refine lv_iload hx hb d_T_rule_91 (lv_at hl 0 rfl) ?_
        refine lv_if_eq (tgt := 100) hx hb d_T_rule_93 (by decide) (fun c_93 => ?_) (fun c_93 => ?_)
        · exact absurd c_93 (by decide)
        · refine lv_iconst (v := 2) hx hb d_T_rule_96 (by decide) ?_
          refine lv_goto (tgt := 114) hx hb d_T_rule_97 (by decide) ?_
          refine va_put (D := D) (ci := 7) (v := .int 2) (ty := .int) (C := Q_T) (T := F_T) (N := 17) hx hb hg in_T tq_T tq_T_ok n_T hown hK hP hD hS 0 rfl rfl 0 (by decide) (hg _ g_639) (fun _ h9 => h9) rfl (by decide +kernel) rfl rfl (Nat.le_of_ble_eq_true rfl) d_T_rule_114 (fun H locs hP hD hS => ?_)
          have hP : va_P D cls [(o, .inr (7, [.int 2, .int (nI n), .ref dT, .ref gT, .int (nI ns), .ref la, .ref ca, .int (nI nn), .ref aa, .ref na, .ref ya, .int (nI nr), .ref ta, .int be, .int bp, .long bo, .int bm])), (dT, .inl (cI, 64, .inl d)), (gT, .inl (cZ, 64, .inl g)), (la, .inl (cI, 8, .inl sl)), (ca, .inl (cI, 128, .inl cr)), (aa, .inl (cI, 16, .inl ak)), (na, .inl (cI, 16, .inl no)), (ya, .inl (cI, 16, .inl ye)), (ta, .inl (cI, 48, .inl tl))] H := hP
          have hD : va_D A [(o, .inr (7, [.int 2, .int (nI n), .ref dT, .ref gT, .int (nI ns), .ref la, .ref ca, .int (nI nn), .ref aa, .ref na, .ref ya, .int (nI nr), .ref ta, .int be, .int bp, .long bo, .int bm])), (dT, .inl (cI, 64, .inl d)), (gT, .inl (cZ, 64, .inl g)), (la, .inl (cI, 8, .inl sl)), (ca, .inl (cI, 128, .inl cr)), (aa, .inl (cI, 16, .inl ak)), (na, .inl (cI, 16, .inl no)), (ya, .inl (cI, 16, .inl ye)), (ta, .inl (cI, 48, .inl tl))] := hD
          refine lv_aload_n hx hb d_T_rule_117 rfl (lv_at hl 1 rfl) ?_
          refine va_get (D := D) (ci := 7) (v := .int 2) (C := Q_T) (T := F_T) (N := 17) hx hb hg in_T hown hK hP 0 rfl rfl 0 (by decide) (hg _ g_639) (fun _ h9 => h9) rfl d_T_rule_118 ?_
          refine lv_if_le (tgt := 126) hx hb d_T_rule_121 (by decide) (fun c_121 => ?_) (fun c_121 => ?_)
          · exact absurd c_121 (by decide)
          · refine lv_iconst (v := 0) hx hb d_T_rule_124 (by decide) ?_
            exact W.iret hx hb hr (fun t9 ht hW => ⟨⟨_, [(o, .inr (7, [.int 2, .int (nI n), .ref dT, .ref gT, .int (nI ns), .ref la, .ref ca, .int (nI nn), .ref aa, .ref na, .ref ya, .int (nI nr), .ref ta, .int be, .int bp, .long bo, .int bm])), (dT, .inl (cI, 64, .inl d)), (gT, .inl (cZ, 64, .inl g)), (la, .inl (cI, 8, .inl sl)), (ca, .inl (cI, 128, .inl cr)), (aa, .inl (cI, 16, .inl ak)), (na, .inl (cI, 16, .inl no)), (ya, .inl (cI, 16, .inl ye)), (ta, .inl (cI, 48, .inl tl))], rfl, Or.inr ⟨by first | (rw [cu_1 c_75]; decide) | (rw [cu_2 c_84]; decide) | (rw [cu_w c_75 c_84 (rw_1 c_2)]; decide) | (rw [cu_w c_75 c_84 (rw_2 c_14)]; decide) | (rw [cu_w c_75 c_84 (rw_3 c_28)]; decide) | (rw [cu_w c_75 c_84 (rw_4 c_43)]; decide) | (rw [cu_w c_75 c_84 (rw_5 c_58)]; decide) | (rw [cu_8 c_75 c_84 (rw_0 c_2 c_14 c_28 c_43 c_58) c_106]; decide), by first | rw [cu_1 c_75] | rw [cu_2 c_84] | rw [cu_w c_75 c_84 (rw_1 c_2)] | rw [cu_w c_75 c_84 (rw_2 c_14)] | rw [cu_w c_75 c_84 (rw_3 c_28)] | rw [cu_w c_75 c_84 (rw_4 c_43)] | rw [cu_w c_75 c_84 (rw_5 c_58)] | rw [cu_8 c_75 c_84 (rw_0 c_2 c_14 c_28 c_43 c_58) c_106]⟩, by rw [ht]; exact hP, va_K.moved hW.alike hK, hD⟩, hS.F ht⟩) hS.2.2 d_T_rule_125
      · refine lv_iconst (v := 1) hx hb d_T_rule_87 (by decide) ?_
        refine lv_goto (tgt := 114) hx hb d_T_rule_88 (by decide) ?_
        refine va_put (D := D) (ci := 7) (v := .int 1) (ty := .int) (C := Q_T) (T := F_T) (N := 17) hx hb hg in_T tq_T tq_T_ok n_T hown hK hP hD hS 0 rfl rfl 0 (by decide) (hg _ g_639) (fun _ h9 => h9) rfl (by decide +kernel) rfl rfl (Nat.le_of_ble_eq_true rfl) d_T_rule_114 (fun H locs hP hD hS => ?_)
        have hP : va_P D cls [(o, .inr (7, [.int 1, .int (nI n), .ref dT, .ref gT, .int (nI ns), .ref la, .ref ca, .int (nI nn), .ref aa, .ref na, .ref ya, .int (nI nr), .ref ta, .int be, .int bp, .long bo, .int bm])), (dT, .inl (cI, 64, .inl d)), (gT, .inl (cZ, 64, .inl g)), (la, .inl (cI, 8, .inl sl)), (ca, .inl (cI, 128, .inl cr)), (aa, .inl (cI, 16, .inl ak)), (na, .inl (cI, 16, .inl no)), (ya, .inl (cI, 16, .inl ye)), (ta, .inl (cI, 48, .inl tl))] H := hP
        have hD : va_D A [(o, .inr (7, [.int 1, .int (nI n), .ref dT, .ref gT, .int (nI ns), .ref la, .ref ca, .int (nI nn), .ref aa, .ref na, .ref ya, .int (nI nr), .ref ta, .int be, .int bp, .long bo, .int bm])), (dT, .inl (cI, 64, .inl d)), (gT, .inl (cZ, 64, .inl g)), (la, .inl (cI, 8, .inl sl)), (ca, .inl (cI, 128, .inl cr)), (aa, .inl (cI, 16, .inl ak)), (na, .inl (cI, 16, .inl no)), (ya, .inl (cI, 16, .inl ye)), (ta, .inl (cI, 48, .inl tl))] := hD
        refine lv_aload_n hx hb d_T_rule_117 rfl (lv_at hl 1 rfl) ?_
        refine va_get (D := D) (ci := 7) (v := .int 1) (C := Q_T) (T := F_T) (N := 17) hx hb hg in_T hown hK hP 0 rfl rfl 0 (by decide) (hg _ g_639) (fun _ h9 => h9) rfl d_T_rule_118 ?_
        refine lv_if_le (tgt := 126) hx hb d_T_rule_121 (by decide) (fun c_121 => ?_) (fun c_121 => ?_)
        · exact absurd c_121 (by decide)
        · refine lv_iconst (v := 0) hx hb d_T_rule_124 (by decide) ?_
          exact W.iret hx hb hr (fun t9 ht hW => ⟨⟨_, [(o, .inr (7, [.int 1, .int (nI n), .ref dT, .ref gT, .int (nI ns), .ref la, .ref ca, .int (nI nn), .ref aa, .ref na, .ref ya, .int (nI nr), .ref ta, .int be, .int bp, .long bo, .int bm])), (dT, .inl (cI, 64, .inl d)), (gT, .inl (cZ, 64, .inl g)), (la, .inl (cI, 8, .inl sl)), (ca, .inl (cI, 128, .inl cr)), (aa, .inl (cI, 16, .inl ak)), (na, .inl (cI, 16, .inl no)), (ya, .inl (cI, 16, .inl ye)), (ta, .inl (cI, 48, .inl tl))], rfl, Or.inr ⟨by first | (rw [cu_1 c_75]; decide) | (rw [cu_2 c_84]; decide) | (rw [cu_w c_75 c_84 (rw_1 c_2)]; decide) | (rw [cu_w c_75 c_84 (rw_2 c_14)]; decide) | (rw [cu_w c_75 c_84 (rw_3 c_28)]; decide) | (rw [cu_w c_75 c_84 (rw_4 c_43)]; decide) | (rw [cu_w c_75 c_84 (rw_5 c_58)]; decide) | (rw [cu_8 c_75 c_84 (rw_0 c_2 c_14 c_28 c_43 c_58) c_106]; decide), by first | rw [cu_1 c_75] | rw [cu_2 c_84] | rw [cu_w c_75 c_84 (rw_1 c_2)] | rw [cu_w c_75 c_84 (rw_2 c_14)] | rw [cu_w c_75 c_84 (rw_3 c_28)] | rw [cu_w c_75 c_84 (rw_4 c_43)] | rw [cu_w c_75 c_84 (rw_5 c_58)] | rw [cu_8 c_75 c_84 (rw_0 c_2 c_14 c_28 c_43 c_58) c_106]⟩, by rw [ht]; exact hP, va_K.moved hW.alike hK, hD⟩, hS.F ht⟩) hS.2.2 d_T_rule_125
  · refine lv_iload_n hx hb d_T_rule_5 rfl (lv_at hl 3 rfl) ?_
    refine lv_i2l (v := lo.toInt64) hx hb d_T_rule_6 rfl ?_
    refine lv_lconst (v := 0) hx hb d_T_rule_7 (by decide) ?_
    refine lv_ldc2 (v := 255) hx hb hown (hg _ g_707) d_T_rule_8 ?_
    refine vp_callSi (va_Run.run (va_runS (As := [.long lo.toInt64, .long 0, .long 255]) (rest := []) ⟨hx, hb, hml, hown, hg⟩ (c_T_isIn_ok l D cI cZ cJ cO lo.toInt64 0 255) (va_cwS 3 hg (gs2 g_703 g_704 g_26 g_705) rfl rfl rfl (by decide +kernel) ⟨Nat.le_of_ble_eq_true rfl, Nat.le_of_ble_eq_true rfl⟩) (pS ba_nil hK hN) rfl rfl hl.1 rfl (lv_room (Nat.le_of_ble_eq_true rfl)) d_T_rule_11 ⟨Nat.zero_le _, Nat.zero_le _⟩)) (fun r_3 hr_3 => ?_)
    subst hr_3
    rw [lw_c (v := lo) (lo := 0) (hi := 255) (by decide) (by decide)]
    refine lv_if_eq (tgt := 61) hx hb d_T_rule_14 (by decide) (fun c_14 => ?_) (fun c_14 => ?_)
    · refine lv_iconst (v := 1) hx hb d_T_rule_61 (by decide) ?_
      refine lv_goto (tgt := 66) hx hb d_T_rule_62 (by decide) ?_
      refine lv_istore (lv' := [(7, .int 1), (0, .ref o), (1, .int f), (2, .int t), (3, .int lo), (4, .int hi), (5, .int y), (6, .int un)]) hx hb d_T_rule_66 hl (by decide) rfl (fun ls hl => ?_)
      refine lv_aload_n hx hb d_T_rule_68 rfl (lv_at hl 1 rfl) ?_
      refine lv_aload_n hx hb d_T_rule_69 rfl (lv_at hl 1 rfl) ?_
      refine lv_iload_n hx hb d_T_rule_70 rfl (lv_at hl 2 rfl) ?_
      refine lv_i2l (v := f.toInt64) hx hb d_T_rule_71 rfl ?_
      refine vp_callSi (va_Run.run (va_runV (As := [.long f.toInt64]) (rest := [.ref o]) ⟨hx, hb, hml, hown, hg⟩ (c_T_isPlace_ok l D cI cZ cJ cO o dT gT la ca aa na ya ta n ns nn nr d g sl cr ak no ye tl th be bp bm bo h4 h64 hd f.toInt64) (cwV 1 hg (gv g_699 g_701 g_9 g_26 g_702) rfl rfl rfl (by decide +kernel) ⟨Nat.le_of_ble_eq_true rfl, Nat.le_of_ble_eq_true rfl⟩) (pV hP hK hN (va_recv hK hP (ci := 7) (q0 := 0) rfl rfl)) rfl rfl hl.1 rfl (lv_room (Nat.le_of_ble_eq_true rfl)) d_T_rule_72 ⟨Nat.zero_le _, Nat.zero_le _⟩)) (fun r_4 hr_4 => ?_)
      subst hr_4
      rw [hs64]
      refine lv_if_eq (tgt := 87) hx hb d_T_rule_75 (by decide) (fun c_75 => ?_) (fun c_75 => ?_)
      · refine lv_iconst (v := 1) hx hb d_T_rule_87 (by decide) ?_
        refine lv_goto (tgt := 114) hx hb d_T_rule_88 (by decide) ?_
        refine va_put (D := D) (ci := 7) (v := .int 1) (ty := .int) (C := Q_T) (T := F_T) (N := 17) hx hb hg in_T tq_T tq_T_ok n_T hown hK hP hD hS 0 rfl rfl 0 (by decide) (hg _ g_639) (fun _ h9 => h9) rfl (by decide +kernel) rfl rfl (Nat.le_of_ble_eq_true rfl) d_T_rule_114 (fun H locs hP hD hS => ?_)
        have hP : va_P D cls [(o, .inr (7, [.int 1, .int (nI n), .ref dT, .ref gT, .int (nI ns), .ref la, .ref ca, .int (nI nn), .ref aa, .ref na, .ref ya, .int (nI nr), .ref ta, .int be, .int bp, .long bo, .int bm])), (dT, .inl (cI, 64, .inl d)), (gT, .inl (cZ, 64, .inl g)), (la, .inl (cI, 8, .inl sl)), (ca, .inl (cI, 128, .inl cr)), (aa, .inl (cI, 16, .inl ak)), (na, .inl (cI, 16, .inl no)), (ya, .inl (cI, 16, .inl ye)), (ta, .inl (cI, 48, .inl tl))] H := hP
        have hD : va_D A [(o, .inr (7, [.int 1, .int (nI n), .ref dT, .ref gT, .int (nI ns), .ref la, .ref ca, .int (nI nn), .ref aa, .ref na, .ref ya, .int (nI nr), .ref ta, .int be, .int bp, .long bo, .int bm])), (dT, .inl (cI, 64, .inl d)), (gT, .inl (cZ, 64, .inl g)), (la, .inl (cI, 8, .inl sl)), (ca, .inl (cI, 128, .inl cr)), (aa, .inl (cI, 16, .inl ak)), (na, .inl (cI, 16, .inl no)), (ya, .inl (cI, 16, .inl ye)), (ta, .inl (cI, 48, .inl tl))] := hD
        refine lv_aload_n hx hb d_T_rule_117 rfl (lv_at hl 1 rfl) ?_
        refine va_get (D := D) (ci := 7) (v := .int 1) (C := Q_T) (T := F_T) (N := 17) hx hb hg in_T hown hK hP 0 rfl rfl 0 (by decide) (hg _ g_639) (fun _ h9 => h9) rfl d_T_rule_118 ?_
        refine lv_if_le (tgt := 126) hx hb d_T_rule_121 (by decide) (fun c_121 => ?_) (fun c_121 => ?_)
        · exact absurd c_121 (by decide)
        · refine lv_iconst (v := 0) hx hb d_T_rule_124 (by decide) ?_
          exact W.iret hx hb hr (fun t9 ht hW => ⟨⟨_, [(o, .inr (7, [.int 1, .int (nI n), .ref dT, .ref gT, .int (nI ns), .ref la, .ref ca, .int (nI nn), .ref aa, .ref na, .ref ya, .int (nI nr), .ref ta, .int be, .int bp, .long bo, .int bm])), (dT, .inl (cI, 64, .inl d)), (gT, .inl (cZ, 64, .inl g)), (la, .inl (cI, 8, .inl sl)), (ca, .inl (cI, 128, .inl cr)), (aa, .inl (cI, 16, .inl ak)), (na, .inl (cI, 16, .inl no)), (ya, .inl (cI, 16, .inl ye)), (ta, .inl (cI, 48, .inl tl))], rfl, Or.inr ⟨by first | (rw [cu_1 c_75]; decide) | (rw [cu_2 c_84]; decide) | (rw [cu_w c_75 c_84 (rw_1 c_2)]; decide) | (rw [cu_w c_75 c_84 (rw_2 c_14)]; decide) | (rw [cu_w c_75 c_84 (rw_3 c_28)]; decide) | (rw [cu_w c_75 c_84 (rw_4 c_43)]; decide) | (rw [cu_w c_75 c_84 (rw_5 c_58)]; decide) | (rw [cu_8 c_75 c_84 (rw_0 c_2 c_14 c_28 c_43 c_58) c_106]; decide), by first | rw [cu_1 c_75] | rw [cu_2 c_84] | rw [cu_w c_75 c_84 (rw_1 c_2)] | rw [cu_w c_75 c_84 (rw_2 c_14)] | rw [cu_w c_75 c_84 (rw_3 c_28)] | rw [cu_w c_75 c_84 (rw_4 c_43)] | rw [cu_w c_75 c_84 (rw_5 c_58)] | rw [cu_8 c_75 c_84 (rw_0 c_2 c_14 c_28 c_43 c_58) c_106]⟩, by rw [ht]; exact hP, va_K.moved hW.alike hK, hD⟩, hS.F ht⟩) hS.2.2 d_T_rule_125
      · refine lv_aload_n hx hb d_T_rule_78 rfl (lv_at hl 1 rfl) ?_
        refine lv_iload_n hx hb d_T_rule_79 rfl (lv_at hl 3 rfl) ?_
        refine lv_i2l (v := t.toInt64) hx hb d_T_rule_80 rfl ?_
        refine vp_callSi (va_Run.run (va_runV (As := [.long t.toInt64]) (rest := [.ref o]) ⟨hx, hb, hml, hown, hg⟩ (c_T_isPlace_ok l D cI cZ cJ cO o dT gT la ca aa na ya ta n ns nn nr d g sl cr ak no ye tl th be bp bm bo h4 h64 hd t.toInt64) (cwV 1 hg (gv g_699 g_701 g_9 g_26 g_702) rfl rfl rfl (by decide +kernel) ⟨Nat.le_of_ble_eq_true rfl, Nat.le_of_ble_eq_true rfl⟩) (pV hP hK hN (va_recv hK hP (ci := 7) (q0 := 0) rfl rfl)) rfl rfl hl.1 rfl (lv_room (Nat.le_of_ble_eq_true rfl)) d_T_rule_81 ⟨Nat.zero_le _, Nat.zero_le _⟩)) (fun r_5 hr_5 => ?_)
        subst hr_5
        rw [hs64]
        refine lv_if_ne (tgt := 91) hx hb d_T_rule_84 (by decide) (fun c_84 => ?_) (fun c_84 => ?_)
        · refine lv_iload hx hb d_T_rule_91 (lv_at hl 0 rfl) ?_
          refine lv_if_eq (tgt := 100) hx hb d_T_rule_93 (by decide) (fun c_93 => ?_) (fun c_93 => ?_)
          · exact absurd c_93 (by decide)
          · refine lv_iconst (v := 2) hx hb d_T_rule_96 (by decide) ?_
            refine lv_goto (tgt := 114) hx hb d_T_rule_97 (by decide) ?_
            refine va_put (D := D) (ci := 7) (v := .int 2) (ty := .int) (C := Q_T) (T := F_T) (N := 17) hx hb hg in_T tq_T tq_T_ok n_T hown hK hP hD hS 0 rfl rfl 0 (by decide) (hg _ g_639) (fun _ h9 => h9) rfl (by decide +kernel) rfl rfl (Nat.le_of_ble_eq_true rfl) d_T_rule_114 (fun H locs hP hD hS => ?_)
            have hP : va_P D cls [(o, .inr (7, [.int 2, .int (nI n), .ref dT, .ref gT, .int (nI ns), .ref la, .ref ca, .int (nI nn), .ref aa, .ref na, .ref ya, .int (nI nr), .ref ta, .int be, .int bp, .long bo, .int bm])), (dT, .inl (cI, 64, .inl d)), (gT, .inl (cZ, 64, .inl g)), (la, .inl (cI, 8, .inl sl)), (ca, .inl (cI, 128, .inl cr)), (aa, .inl (cI, 16, .inl ak)), (na, .inl (cI, 16, .inl no)), (ya, .inl (cI, 16, .inl ye)), (ta, .inl (cI, 48, .inl tl))] H := hP
            have hD : va_D A [(o, .inr (7, [.int 2, .int (nI n), .ref dT, .ref gT, .int (nI ns), .ref la, .ref ca, .int (nI nn), .ref aa, .ref na, .ref ya, .int (nI nr), .ref ta, .int be, .int bp, .long bo, .int bm])), (dT, .inl (cI, 64, .inl d)), (gT, .inl (cZ, 64, .inl g)), (la, .inl (cI, 8, .inl sl)), (ca, .inl (cI, 128, .inl cr)), (aa, .inl (cI, 16, .inl ak)), (na, .inl (cI, 16, .inl no)), (ya, .inl (cI, 16, .inl ye)), (ta, .inl (cI, 48, .inl tl))] := hD
            refine lv_aload_n hx hb d_T_rule_117 rfl (lv_at hl 1 rfl) ?_
            refine va_get (D := D) (ci := 7) (v := .int 2) (C := Q_T) (T := F_T) (N := 17) hx hb hg in_T hown hK hP 0 rfl rfl 0 (by decide) (hg _ g_639) (fun _ h9 => h9) rfl d_T_rule_118 ?_
            refine lv_if_le (tgt := 126) hx hb d_T_rule_121 (by decide) (fun c_121 => ?_) (fun c_121 => ?_)
            · exact absurd c_121 (by decide)
            · refine lv_iconst (v := 0) hx hb d_T_rule_124 (by decide) ?_
              exact W.iret hx hb hr (fun t9 ht hW => ⟨⟨_, [(o, .inr (7, [.int 2, .int (nI n), .ref dT, .ref gT, .int (nI ns), .ref la, .ref ca, .int (nI nn), .ref aa, .ref na, .ref ya, .int (nI nr), .ref ta, .int be, .int bp, .long bo, .int bm])), (dT, .inl (cI, 64, .inl d)), (gT, .inl (cZ, 64, .inl g)), (la, .inl (cI, 8, .inl sl)), (ca, .inl (cI, 128, .inl cr)), (aa, .inl (cI, 16, .inl ak)), (na, .inl (cI, 16, .inl no)), (ya, .inl (cI, 16, .inl ye)), (ta, .inl (cI, 48, .inl tl))], rfl, Or.inr ⟨by first | (rw [cu_1 c_75]; decide) | (rw [cu_2 c_84]; decide) | (rw [cu_w c_75 c_84 (rw_1 c_2)]; decide) | (rw [cu_w c_75 c_84 (rw_2 c_14)]; decide) | (rw [cu_w c_75 c_84 (rw_3 c_28)]; decide) | (rw [cu_w c_75 c_84 (rw_4 c_43)]; decide) | (rw [cu_w c_75 c_84 (rw_5 c_58)]; decide) | (rw [cu_8 c_75 c_84 (rw_0 c_2 c_14 c_28 c_43 c_58) c_106]; decide), by first | rw [cu_1 c_75] | rw [cu_2 c_84] | rw [cu_w c_75 c_84 (rw_1 c_2)] | rw [cu_w c_75 c_84 (rw_2 c_14)] | rw [cu_w c_75 c_84 (rw_3 c_28)] | rw [cu_w c_75 c_84 (rw_4 c_43)] | rw [cu_w c_75 c_84 (rw_5 c_58)] | rw [cu_8 c_75 c_84 (rw_0 c_2 c_14 c_28 c_43 c_58) c_106]⟩, by rw [ht]; exact hP, va_K.moved hW.alike hK, hD⟩, hS.F ht⟩) hS.2.2 d_T_rule_125
        · refine lv_iconst (v := 1) hx hb d_T_rule_87 (by decide) ?_
          refine lv_goto (tgt := 114) hx hb d_T_rule_88 (by decide) ?_
          refine va_put (D := D) (ci := 7) (v := .int 1) (ty := .int) (C := Q_T) (T := F_T) (N := 17) hx hb hg in_T tq_T tq_T_ok n_T hown hK hP hD hS 0 rfl rfl 0 (by decide) (hg _ g_639) (fun _ h9 => h9) rfl (by decide +kernel) rfl rfl (Nat.le_of_ble_eq_true rfl) d_T_rule_114 (fun H locs hP hD hS => ?_)
          have hP : va_P D cls [(o, .inr (7, [.int 1, .int (nI n), .ref dT, .ref gT, .int (nI ns), .ref la, .ref ca, .int (nI nn), .ref aa, .ref na, .ref ya, .int (nI nr), .ref ta, .int be, .int bp, .long bo, .int bm])), (dT, .inl (cI, 64, .inl d)), (gT, .inl (cZ, 64, .inl g)), (la, .inl (cI, 8, .inl sl)), (ca, .inl (cI, 128, .inl cr)), (aa, .inl (cI, 16, .inl ak)), (na, .inl (cI, 16, .inl no)), (ya, .inl (cI, 16, .inl ye)), (ta, .inl (cI, 48, .inl tl))] H := hP
          have hD : va_D A [(o, .inr (7, [.int 1, .int (nI n), .ref dT, .ref gT, .int (nI ns), .ref la, .ref ca, .int (nI nn), .ref aa, .ref na, .ref ya, .int (nI nr), .ref ta, .int be, .int bp, .long bo, .int bm])), (dT, .inl (cI, 64, .inl d)), (gT, .inl (cZ, 64, .inl g)), (la, .inl (cI, 8, .inl sl)), (ca, .inl (cI, 128, .inl cr)), (aa, .inl (cI, 16, .inl ak)), (na, .inl (cI, 16, .inl no)), (ya, .inl (cI, 16, .inl ye)), (ta, .inl (cI, 48, .inl tl))] := hD
          refine lv_aload_n hx hb d_T_rule_117 rfl (lv_at hl 1 rfl) ?_
          refine va_get (D := D) (ci := 7) (v := .int 1) (C := Q_T) (T := F_T) (N := 17) hx hb hg in_T hown hK hP 0 rfl rfl 0 (by decide) (hg _ g_639) (fun _ h9 => h9) rfl d_T_rule_118 ?_
          refine lv_if_le (tgt := 126) hx hb d_T_rule_121 (by decide) (fun c_121 => ?_) (fun c_121 => ?_)
          · exact absurd c_121 (by decide)
          · refine lv_iconst (v := 0) hx hb d_T_rule_124 (by decide) ?_
            exact W.iret hx hb hr (fun t9 ht hW => ⟨⟨_, [(o, .inr (7, [.int 1, .int (nI n), .ref dT, .ref gT, .int (nI ns), .ref la, .ref ca, .int (nI nn), .ref aa, .ref na, .ref ya, .int (nI nr), .ref ta, .int be, .int bp, .long bo, .int bm])), (dT, .inl (cI, 64, .inl d)), (gT, .inl (cZ, 64, .inl g)), (la, .inl (cI, 8, .inl sl)), (ca, .inl (cI, 128, .inl cr)), (aa, .inl (cI, 16, .inl ak)), (na, .inl (cI, 16, .inl no)), (ya, .inl (cI, 16, .inl ye)), (ta, .inl (cI, 48, .inl tl))], rfl, Or.inr ⟨by first | (rw [cu_1 c_75]; decide) | (rw [cu_2 c_84]; decide) | (rw [cu_w c_75 c_84 (rw_1 c_2)]; decide) | (rw [cu_w c_75 c_84 (rw_2 c_14)]; decide) | (rw [cu_w c_75 c_84 (rw_3 c_28)]; decide) | (rw [cu_w c_75 c_84 (rw_4 c_43)]; decide) | (rw [cu_w c_75 c_84 (rw_5 c_58)]; decide) | (rw [cu_8 c_75 c_84 (rw_0 c_2 c_14 c_28 c_43 c_58) c_106]; decide), by first | rw [cu_1 c_75] | rw [cu_2 c_84] | rw [cu_w c_75 c_84 (rw_1 c_2)] | rw [cu_w c_75 c_84 (rw_2 c_14)] | rw [cu_w c_75 c_84 (rw_3 c_28)] | rw [cu_w c_75 c_84 (rw_4 c_43)] | rw [cu_w c_75 c_84 (rw_5 c_58)] | rw [cu_8 c_75 c_84 (rw_0 c_2 c_14 c_28 c_43 c_58) c_106]⟩, by rw [ht]; exact hP, va_K.moved hW.alike hK, hD⟩, hS.F ht⟩) hS.2.2 d_T_rule_125
    · refine lv_iload hx hb d_T_rule_17 (lv_at hl 4 rfl) ?_
      refine lv_i2l (v := hi.toInt64) hx hb d_T_rule_19 rfl ?_
      refine lv_iload_n hx hb d_T_rule_20 rfl (lv_at hl 3 rfl) ?_
      refine lv_i2l (v := lo.toInt64) hx hb d_T_rule_21 rfl ?_
      refine lv_ldc2 (v := 255) hx hb hown (hg _ g_707) d_T_rule_22 ?_
      refine vp_callSi (va_Run.run (va_runS (As := [.long hi.toInt64, .long lo.toInt64, .long 255]) (rest := []) ⟨hx, hb, hml, hown, hg⟩ (c_T_isIn_ok l D cI cZ cJ cO hi.toInt64 lo.toInt64 255) (va_cwS 3 hg (gs2 g_703 g_704 g_26 g_705) rfl rfl rfl (by decide +kernel) ⟨Nat.le_of_ble_eq_true rfl, Nat.le_of_ble_eq_true rfl⟩) (pS ba_nil hK hN) rfl rfl hl.1 rfl (lv_room (Nat.le_of_ble_eq_true rfl)) d_T_rule_25 ⟨Nat.zero_le _, Nat.zero_le _⟩)) (fun r_6 hr_6 => ?_)
      subst hr_6
      rw [lw_c (v := hi) (lo := lo) (hi := 255) rfl (by decide)]
      refine lv_if_eq (tgt := 61) hx hb d_T_rule_28 (by decide) (fun c_28 => ?_) (fun c_28 => ?_)
      · refine lv_iconst (v := 1) hx hb d_T_rule_61 (by decide) ?_
        refine lv_goto (tgt := 66) hx hb d_T_rule_62 (by decide) ?_
        refine lv_istore (lv' := [(7, .int 1), (0, .ref o), (1, .int f), (2, .int t), (3, .int lo), (4, .int hi), (5, .int y), (6, .int un)]) hx hb d_T_rule_66 hl (by decide) rfl (fun ls hl => ?_)
        refine lv_aload_n hx hb d_T_rule_68 rfl (lv_at hl 1 rfl) ?_
        refine lv_aload_n hx hb d_T_rule_69 rfl (lv_at hl 1 rfl) ?_
        refine lv_iload_n hx hb d_T_rule_70 rfl (lv_at hl 2 rfl) ?_
        refine lv_i2l (v := f.toInt64) hx hb d_T_rule_71 rfl ?_
        refine vp_callSi (va_Run.run (va_runV (As := [.long f.toInt64]) (rest := [.ref o]) ⟨hx, hb, hml, hown, hg⟩ (c_T_isPlace_ok l D cI cZ cJ cO o dT gT la ca aa na ya ta n ns nn nr d g sl cr ak no ye tl th be bp bm bo h4 h64 hd f.toInt64) (cwV 1 hg (gv g_699 g_701 g_9 g_26 g_702) rfl rfl rfl (by decide +kernel) ⟨Nat.le_of_ble_eq_true rfl, Nat.le_of_ble_eq_true rfl⟩) (pV hP hK hN (va_recv hK hP (ci := 7) (q0 := 0) rfl rfl)) rfl rfl hl.1 rfl (lv_room (Nat.le_of_ble_eq_true rfl)) d_T_rule_72 ⟨Nat.zero_le _, Nat.zero_le _⟩)) (fun r_7 hr_7 => ?_)
        subst hr_7
        rw [hs64]
        refine lv_if_eq (tgt := 87) hx hb d_T_rule_75 (by decide) (fun c_75 => ?_) (fun c_75 => ?_)
        · refine lv_iconst (v := 1) hx hb d_T_rule_87 (by decide) ?_
          refine lv_goto (tgt := 114) hx hb d_T_rule_88 (by decide) ?_
          refine va_put (D := D) (ci := 7) (v := .int 1) (ty := .int) (C := Q_T) (T := F_T) (N := 17) hx hb hg in_T tq_T tq_T_ok n_T hown hK hP hD hS 0 rfl rfl 0 (by decide) (hg _ g_639) (fun _ h9 => h9) rfl (by decide +kernel) rfl rfl (Nat.le_of_ble_eq_true rfl) d_T_rule_114 (fun H locs hP hD hS => ?_)
          have hP : va_P D cls [(o, .inr (7, [.int 1, .int (nI n), .ref dT, .ref gT, .int (nI ns), .ref la, .ref ca, .int (nI nn), .ref aa, .ref na, .ref ya, .int (nI nr), .ref ta, .int be, .int bp, .long bo, .int bm])), (dT, .inl (cI, 64, .inl d)), (gT, .inl (cZ, 64, .inl g)), (la, .inl (cI, 8, .inl sl)), (ca, .inl (cI, 128, .inl cr)), (aa, .inl (cI, 16, .inl ak)), (na, .inl (cI, 16, .inl no)), (ya, .inl (cI, 16, .inl ye)), (ta, .inl (cI, 48, .inl tl))] H := hP
          have hD : va_D A [(o, .inr (7, [.int 1, .int (nI n), .ref dT, .ref gT, .int (nI ns), .ref la, .ref ca, .int (nI nn), .ref aa, .ref na, .ref ya, .int (nI nr), .ref ta, .int be, .int bp, .long bo, .int bm])), (dT, .inl (cI, 64, .inl d)), (gT, .inl (cZ, 64, .inl g)), (la, .inl (cI, 8, .inl sl)), (ca, .inl (cI, 128, .inl cr)), (aa, .inl (cI, 16, .inl ak)), (na, .inl (cI, 16, .inl no)), (ya, .inl (cI, 16, .inl ye)), (ta, .inl (cI, 48, .inl tl))] := hD
          refine lv_aload_n hx hb d_T_rule_117 rfl (lv_at hl 1 rfl) ?_
          refine va_get (D := D) (ci := 7) (v := .int 1) (C := Q_T) (T := F_T) (N := 17) hx hb hg in_T hown hK hP 0 rfl rfl 0 (by decide) (hg _ g_639) (fun _ h9 => h9) rfl d_T_rule_118 ?_
          refine lv_if_le (tgt := 126) hx hb d_T_rule_121 (by decide) (fun c_121 => ?_) (fun c_121 => ?_)
          · exact absurd c_121 (by decide)
          · refine lv_iconst (v := 0) hx hb d_T_rule_124 (by decide) ?_
            exact W.iret hx hb hr (fun t9 ht hW => ⟨⟨_, [(o, .inr (7, [.int 1, .int (nI n), .ref dT, .ref gT, .int (nI ns), .ref la, .ref ca, .int (nI nn), .ref aa, .ref na, .ref ya, .int (nI nr), .ref ta, .int be, .int bp, .long bo, .int bm])), (dT, .inl (cI, 64, .inl d)), (gT, .inl (cZ, 64, .inl g)), (la, .inl (cI, 8, .inl sl)), (ca, .inl (cI, 128, .inl cr)), (aa, .inl (cI, 16, .inl ak)), (na, .inl (cI, 16, .inl no)), (ya, .inl (cI, 16, .inl ye)), (ta, .inl (cI, 48, .inl tl))], rfl, Or.inr ⟨by first | (rw [cu_1 c_75]; decide) | (rw [cu_2 c_84]; decide) | (rw [cu_w c_75 c_84 (rw_1 c_2)]; decide) | (rw [cu_w c_75 c_84 (rw_2 c_14)]; decide) | (rw [cu_w c_75 c_84 (rw_3 c_28)]; decide) | (rw [cu_w c_75 c_84 (rw_4 c_43)]; decide) | (rw [cu_w c_75 c_84 (rw_5 c_58)]; decide) | (rw [cu_8 c_75 c_84 (rw_0 c_2 c_14 c_28 c_43 c_58) c_106]; decide), by first | rw [cu_1 c_75] | rw [cu_2 c_84] | rw [cu_w c_75 c_84 (rw_1 c_2)] | rw [cu_w c_75 c_84 (rw_2 c_14)] | rw [cu_w c_75 c_84 (rw_3 c_28)] | rw [cu_w c_75 c_84 (rw_4 c_43)] | rw [cu_w c_75 c_84 (rw_5 c_58)] | rw [cu_8 c_75 c_84 (rw_0 c_2 c_14 c_28 c_43 c_58) c_106]⟩, by rw [ht]; exact hP, va_K.moved hW.alike hK, hD⟩, hS.F ht⟩) hS.2.2 d_T_rule_125
        · refine lv_aload_n hx hb d_T_rule_78 rfl (lv_at hl 1 rfl) ?_
          refine lv_iload_n hx hb d_T_rule_79 rfl (lv_at hl 3 rfl) ?_
          refine lv_i2l (v := t.toInt64) hx hb d_T_rule_80 rfl ?_
          refine vp_callSi (va_Run.run (va_runV (As := [.long t.toInt64]) (rest := [.ref o]) ⟨hx, hb, hml, hown, hg⟩ (c_T_isPlace_ok l D cI cZ cJ cO o dT gT la ca aa na ya ta n ns nn nr d g sl cr ak no ye tl th be bp bm bo h4 h64 hd t.toInt64) (cwV 1 hg (gv g_699 g_701 g_9 g_26 g_702) rfl rfl rfl (by decide +kernel) ⟨Nat.le_of_ble_eq_true rfl, Nat.le_of_ble_eq_true rfl⟩) (pV hP hK hN (va_recv hK hP (ci := 7) (q0 := 0) rfl rfl)) rfl rfl hl.1 rfl (lv_room (Nat.le_of_ble_eq_true rfl)) d_T_rule_81 ⟨Nat.zero_le _, Nat.zero_le _⟩)) (fun r_8 hr_8 => ?_)
          subst hr_8
          rw [hs64]
          refine lv_if_ne (tgt := 91) hx hb d_T_rule_84 (by decide) (fun c_84 => ?_) (fun c_84 => ?_)
          · refine lv_iload hx hb d_T_rule_91 (lv_at hl 0 rfl) ?_
            refine lv_if_eq (tgt := 100) hx hb d_T_rule_93 (by decide) (fun c_93 => ?_) (fun c_93 => ?_)
            · exact absurd c_93 (by decide)
            · refine lv_iconst (v := 2) hx hb d_T_rule_96 (by decide) ?_
              refine lv_goto (tgt := 114) hx hb d_T_rule_97 (by decide) ?_
              refine va_put (D := D) (ci := 7) (v := .int 2) (ty := .int) (C := Q_T) (T := F_T) (N := 17) hx hb hg in_T tq_T tq_T_ok n_T hown hK hP hD hS 0 rfl rfl 0 (by decide) (hg _ g_639) (fun _ h9 => h9) rfl (by decide +kernel) rfl rfl (Nat.le_of_ble_eq_true rfl) d_T_rule_114 (fun H locs hP hD hS => ?_)
              have hP : va_P D cls [(o, .inr (7, [.int 2, .int (nI n), .ref dT, .ref gT, .int (nI ns), .ref la, .ref ca, .int (nI nn), .ref aa, .ref na, .ref ya, .int (nI nr), .ref ta, .int be, .int bp, .long bo, .int bm])), (dT, .inl (cI, 64, .inl d)), (gT, .inl (cZ, 64, .inl g)), (la, .inl (cI, 8, .inl sl)), (ca, .inl (cI, 128, .inl cr)), (aa, .inl (cI, 16, .inl ak)), (na, .inl (cI, 16, .inl no)), (ya, .inl (cI, 16, .inl ye)), (ta, .inl (cI, 48, .inl tl))] H := hP
              have hD : va_D A [(o, .inr (7, [.int 2, .int (nI n), .ref dT, .ref gT, .int (nI ns), .ref la, .ref ca, .int (nI nn), .ref aa, .ref na, .ref ya, .int (nI nr), .ref ta, .int be, .int bp, .long bo, .int bm])), (dT, .inl (cI, 64, .inl d)), (gT, .inl (cZ, 64, .inl g)), (la, .inl (cI, 8, .inl sl)), (ca, .inl (cI, 128, .inl cr)), (aa, .inl (cI, 16, .inl ak)), (na, .inl (cI, 16, .inl no)), (ya, .inl (cI, 16, .inl ye)), (ta, .inl (cI, 48, .inl tl))] := hD
              refine lv_aload_n hx hb d_T_rule_117 rfl (lv_at hl 1 rfl) ?_
              refine va_get (D := D) (ci := 7) (v := .int 2) (C := Q_T) (T := F_T) (N := 17) hx hb hg in_T hown hK hP 0 rfl rfl 0 (by decide) (hg _ g_639) (fun _ h9 => h9) rfl d_T_rule_118 ?_
              refine lv_if_le (tgt := 126) hx hb d_T_rule_121 (by decide) (fun c_121 => ?_) (fun c_121 => ?_)
              · exact absurd c_121 (by decide)
              · refine lv_iconst (v := 0) hx hb d_T_rule_124 (by decide) ?_
                exact W.iret hx hb hr (fun t9 ht hW => ⟨⟨_, [(o, .inr (7, [.int 2, .int (nI n), .ref dT, .ref gT, .int (nI ns), .ref la, .ref ca, .int (nI nn), .ref aa, .ref na, .ref ya, .int (nI nr), .ref ta, .int be, .int bp, .long bo, .int bm])), (dT, .inl (cI, 64, .inl d)), (gT, .inl (cZ, 64, .inl g)), (la, .inl (cI, 8, .inl sl)), (ca, .inl (cI, 128, .inl cr)), (aa, .inl (cI, 16, .inl ak)), (na, .inl (cI, 16, .inl no)), (ya, .inl (cI, 16, .inl ye)), (ta, .inl (cI, 48, .inl tl))], rfl, Or.inr ⟨by first | (rw [cu_1 c_75]; decide) | (rw [cu_2 c_84]; decide) | (rw [cu_w c_75 c_84 (rw_1 c_2)]; decide) | (rw [cu_w c_75 c_84 (rw_2 c_14)]; decide) | (rw [cu_w c_75 c_84 (rw_3 c_28)]; decide) | (rw [cu_w c_75 c_84 (rw_4 c_43)]; decide) | (rw [cu_w c_75 c_84 (rw_5 c_58)]; decide) | (rw [cu_8 c_75 c_84 (rw_0 c_2 c_14 c_28 c_43 c_58) c_106]; decide), by first | rw [cu_1 c_75] | rw [cu_2 c_84] | rw [cu_w c_75 c_84 (rw_1 c_2)] | rw [cu_w c_75 c_84 (rw_2 c_14)] | rw [cu_w c_75 c_84 (rw_3 c_28)] | rw [cu_w c_75 c_84 (rw_4 c_43)] | rw [cu_w c_75 c_84 (rw_5 c_58)] | rw [cu_8 c_75 c_84 (rw_0 c_2 c_14 c_28 c_43 c_58) c_106]⟩, by rw [ht]; exact hP, va_K.moved hW.alike hK, hD⟩, hS.F ht⟩) hS.2.2 d_T_rule_125
          · refine lv_iconst (v := 1) hx hb d_T_rule_87 (by decide) ?_
            refine lv_goto (tgt := 114) hx hb d_T_rule_88 (by decide) ?_
            refine va_put (D := D) (ci := 7) (v := .int 1) (ty := .int) (C := Q_T) (T := F_T) (N := 17) hx hb hg in_T tq_T tq_T_ok n_T hown hK hP hD hS 0 rfl rfl 0 (by decide) (hg _ g_639) (fun _ h9 => h9) rfl (by decide +kernel) rfl rfl (Nat.le_of_ble_eq_true rfl) d_T_rule_114 (fun H locs hP hD hS => ?_)
            have hP : va_P D cls [(o, .inr (7, [.int 1, .int (nI n), .ref dT, .ref gT, .int (nI ns), .ref la, .ref ca, .int (nI nn), .ref aa, .ref na, .ref ya, .int (nI nr), .ref ta, .int be, .int bp, .long bo, .int bm])), (dT, .inl (cI, 64, .inl d)), (gT, .inl (cZ, 64, .inl g)), (la, .inl (cI, 8, .inl sl)), (ca, .inl (cI, 128, .inl cr)), (aa, .inl (cI, 16, .inl ak)), (na, .inl (cI, 16, .inl no)), (ya, .inl (cI, 16, .inl ye)), (ta, .inl (cI, 48, .inl tl))] H := hP
            have hD : va_D A [(o, .inr (7, [.int 1, .int (nI n), .ref dT, .ref gT, .int (nI ns), .ref la, .ref ca, .int (nI nn), .ref aa, .ref na, .ref ya, .int (nI nr), .ref ta, .int be, .int bp, .long bo, .int bm])), (dT, .inl (cI, 64, .inl d)), (gT, .inl (cZ, 64, .inl g)), (la, .inl (cI, 8, .inl sl)), (ca, .inl (cI, 128, .inl cr)), (aa, .inl (cI, 16, .inl ak)), (na, .inl (cI, 16, .inl no)), (ya, .inl (cI, 16, .inl ye)), (ta, .inl (cI, 48, .inl tl))] := hD
            refine lv_aload_n hx hb d_T_rule_117 rfl (lv_at hl 1 rfl) ?_
            refine va_get (D := D) (ci := 7) (v := .int 1) (C := Q_T) (T := F_T) (N := 17) hx hb hg in_T hown hK hP 0 rfl rfl 0 (by decide) (hg _ g_639) (fun _ h9 => h9) rfl d_T_rule_118 ?_
            refine lv_if_le (tgt := 126) hx hb d_T_rule_121 (by decide) (fun c_121 => ?_) (fun c_121 => ?_)
            · exact absurd c_121 (by decide)
            · refine lv_iconst (v := 0) hx hb d_T_rule_124 (by decide) ?_
              exact W.iret hx hb hr (fun t9 ht hW => ⟨⟨_, [(o, .inr (7, [.int 1, .int (nI n), .ref dT, .ref gT, .int (nI ns), .ref la, .ref ca, .int (nI nn), .ref aa, .ref na, .ref ya, .int (nI nr), .ref ta, .int be, .int bp, .long bo, .int bm])), (dT, .inl (cI, 64, .inl d)), (gT, .inl (cZ, 64, .inl g)), (la, .inl (cI, 8, .inl sl)), (ca, .inl (cI, 128, .inl cr)), (aa, .inl (cI, 16, .inl ak)), (na, .inl (cI, 16, .inl no)), (ya, .inl (cI, 16, .inl ye)), (ta, .inl (cI, 48, .inl tl))], rfl, Or.inr ⟨by first | (rw [cu_1 c_75]; decide) | (rw [cu_2 c_84]; decide) | (rw [cu_w c_75 c_84 (rw_1 c_2)]; decide) | (rw [cu_w c_75 c_84 (rw_2 c_14)]; decide) | (rw [cu_w c_75 c_84 (rw_3 c_28)]; decide) | (rw [cu_w c_75 c_84 (rw_4 c_43)]; decide) | (rw [cu_w c_75 c_84 (rw_5 c_58)]; decide) | (rw [cu_8 c_75 c_84 (rw_0 c_2 c_14 c_28 c_43 c_58) c_106]; decide), by first | rw [cu_1 c_75] | rw [cu_2 c_84] | rw [cu_w c_75 c_84 (rw_1 c_2)] | rw [cu_w c_75 c_84 (rw_2 c_14)] | rw [cu_w c_75 c_84 (rw_3 c_28)] | rw [cu_w c_75 c_84 (rw_4 c_43)] | rw [cu_w c_75 c_84 (rw_5 c_58)] | rw [cu_8 c_75 c_84 (rw_0 c_2 c_14 c_28 c_43 c_58) c_106]⟩, by rw [ht]; exact hP, va_K.moved hW.alike hK, hD⟩, hS.F ht⟩) hS.2.2 d_T_rule_125
      · refine lv_iload hx hb d_T_rule_31 (lv_at hl 5 rfl) ?_
        refine lv_i2l (v := y.toInt64) hx hb d_T_rule_33 rfl ?_
        refine lv_ldc2 (v := (-10000)) hx hb hown (hg _ g_790) d_T_rule_34 ?_
        refine lv_ldc2 (v := 10000) hx hb hown (hg _ g_791) d_T_rule_37 ?_
        refine vp_callSi (va_Run.run (va_runS (As := [.long y.toInt64, .long (-10000), .long 10000]) (rest := []) ⟨hx, hb, hml, hown, hg⟩ (c_T_isIn_ok l D cI cZ cJ cO y.toInt64 (-10000) 10000) (va_cwS 3 hg (gs2 g_703 g_704 g_26 g_705) rfl rfl rfl (by decide +kernel) ⟨Nat.le_of_ble_eq_true rfl, Nat.le_of_ble_eq_true rfl⟩) (pS ba_nil hK hN) rfl rfl hl.1 rfl (lv_room (Nat.le_of_ble_eq_true rfl)) d_T_rule_40 ⟨Nat.zero_le _, Nat.zero_le _⟩)) (fun r_9 hr_9 => ?_)
        subst hr_9
        rw [lw_c (v := y) (lo := (-10000)) (hi := 10000) (by decide) (by decide)]
        refine lv_if_eq (tgt := 61) hx hb d_T_rule_43 (by decide) (fun c_43 => ?_) (fun c_43 => ?_)
        · refine lv_iconst (v := 1) hx hb d_T_rule_61 (by decide) ?_
          refine lv_goto (tgt := 66) hx hb d_T_rule_62 (by decide) ?_
          refine lv_istore (lv' := [(7, .int 1), (0, .ref o), (1, .int f), (2, .int t), (3, .int lo), (4, .int hi), (5, .int y), (6, .int un)]) hx hb d_T_rule_66 hl (by decide) rfl (fun ls hl => ?_)
          refine lv_aload_n hx hb d_T_rule_68 rfl (lv_at hl 1 rfl) ?_
          refine lv_aload_n hx hb d_T_rule_69 rfl (lv_at hl 1 rfl) ?_
          refine lv_iload_n hx hb d_T_rule_70 rfl (lv_at hl 2 rfl) ?_
          refine lv_i2l (v := f.toInt64) hx hb d_T_rule_71 rfl ?_
          refine vp_callSi (va_Run.run (va_runV (As := [.long f.toInt64]) (rest := [.ref o]) ⟨hx, hb, hml, hown, hg⟩ (c_T_isPlace_ok l D cI cZ cJ cO o dT gT la ca aa na ya ta n ns nn nr d g sl cr ak no ye tl th be bp bm bo h4 h64 hd f.toInt64) (cwV 1 hg (gv g_699 g_701 g_9 g_26 g_702) rfl rfl rfl (by decide +kernel) ⟨Nat.le_of_ble_eq_true rfl, Nat.le_of_ble_eq_true rfl⟩) (pV hP hK hN (va_recv hK hP (ci := 7) (q0 := 0) rfl rfl)) rfl rfl hl.1 rfl (lv_room (Nat.le_of_ble_eq_true rfl)) d_T_rule_72 ⟨Nat.zero_le _, Nat.zero_le _⟩)) (fun r_10 hr_10 => ?_)
          subst hr_10
          rw [hs64]
          refine lv_if_eq (tgt := 87) hx hb d_T_rule_75 (by decide) (fun c_75 => ?_) (fun c_75 => ?_)
          · refine lv_iconst (v := 1) hx hb d_T_rule_87 (by decide) ?_
            refine lv_goto (tgt := 114) hx hb d_T_rule_88 (by decide) ?_
            refine va_put (D := D) (ci := 7) (v := .int 1) (ty := .int) (C := Q_T) (T := F_T) (N := 17) hx hb hg in_T tq_T tq_T_ok n_T hown hK hP hD hS 0 rfl rfl 0 (by decide) (hg _ g_639) (fun _ h9 => h9) rfl (by decide +kernel) rfl rfl (Nat.le_of_ble_eq_true rfl) d_T_rule_114 (fun H locs hP hD hS => ?_)
            have hP : va_P D cls [(o, .inr (7, [.int 1, .int (nI n), .ref dT, .ref gT, .int (nI ns), .ref la, .ref ca, .int (nI nn), .ref aa, .ref na, .ref ya, .int (nI nr), .ref ta, .int be, .int bp, .long bo, .int bm])), (dT, .inl (cI, 64, .inl d)), (gT, .inl (cZ, 64, .inl g)), (la, .inl (cI, 8, .inl sl)), (ca, .inl (cI, 128, .inl cr)), (aa, .inl (cI, 16, .inl ak)), (na, .inl (cI, 16, .inl no)), (ya, .inl (cI, 16, .inl ye)), (ta, .inl (cI, 48, .inl tl))] H := hP
            have hD : va_D A [(o, .inr (7, [.int 1, .int (nI n), .ref dT, .ref gT, .int (nI ns), .ref la, .ref ca, .int (nI nn), .ref aa, .ref na, .ref ya, .int (nI nr), .ref ta, .int be, .int bp, .long bo, .int bm])), (dT, .inl (cI, 64, .inl d)), (gT, .inl (cZ, 64, .inl g)), (la, .inl (cI, 8, .inl sl)), (ca, .inl (cI, 128, .inl cr)), (aa, .inl (cI, 16, .inl ak)), (na, .inl (cI, 16, .inl no)), (ya, .inl (cI, 16, .inl ye)), (ta, .inl (cI, 48, .inl tl))] := hD
            refine lv_aload_n hx hb d_T_rule_117 rfl (lv_at hl 1 rfl) ?_
            refine va_get (D := D) (ci := 7) (v := .int 1) (C := Q_T) (T := F_T) (N := 17) hx hb hg in_T hown hK hP 0 rfl rfl 0 (by decide) (hg _ g_639) (fun _ h9 => h9) rfl d_T_rule_118 ?_
            refine lv_if_le (tgt := 126) hx hb d_T_rule_121 (by decide) (fun c_121 => ?_) (fun c_121 => ?_)
            · exact absurd c_121 (by decide)
            · refine lv_iconst (v := 0) hx hb d_T_rule_124 (by decide) ?_
              exact W.iret hx hb hr (fun t9 ht hW => ⟨⟨_, [(o, .inr (7, [.int 1, .int (nI n), .ref dT, .ref gT, .int (nI ns), .ref la, .ref ca, .int (nI nn), .ref aa, .ref na, .ref ya, .int (nI nr), .ref ta, .int be, .int bp, .long bo, .int bm])), (dT, .inl (cI, 64, .inl d)), (gT, .inl (cZ, 64, .inl g)), (la, .inl (cI, 8, .inl sl)), (ca, .inl (cI, 128, .inl cr)), (aa, .inl (cI, 16, .inl ak)), (na, .inl (cI, 16, .inl no)), (ya, .inl (cI, 16, .inl ye)), (ta, .inl (cI, 48, .inl tl))], rfl, Or.inr ⟨by first | (rw [cu_1 c_75]; decide) | (rw [cu_2 c_84]; decide) | (rw [cu_w c_75 c_84 (rw_1 c_2)]; decide) | (rw [cu_w c_75 c_84 (rw_2 c_14)]; decide) | (rw [cu_w c_75 c_84 (rw_3 c_28)]; decide) | (rw [cu_w c_75 c_84 (rw_4 c_43)]; decide) | (rw [cu_w c_75 c_84 (rw_5 c_58)]; decide) | (rw [cu_8 c_75 c_84 (rw_0 c_2 c_14 c_28 c_43 c_58) c_106]; decide), by first | rw [cu_1 c_75] | rw [cu_2 c_84] | rw [cu_w c_75 c_84 (rw_1 c_2)] | rw [cu_w c_75 c_84 (rw_2 c_14)] | rw [cu_w c_75 c_84 (rw_3 c_28)] | rw [cu_w c_75 c_84 (rw_4 c_43)] | rw [cu_w c_75 c_84 (rw_5 c_58)] | rw [cu_8 c_75 c_84 (rw_0 c_2 c_14 c_28 c_43 c_58) c_106]⟩, by rw [ht]; exact hP, va_K.moved hW.alike hK, hD⟩, hS.F ht⟩) hS.2.2 d_T_rule_125
          · refine lv_aload_n hx hb d_T_rule_78 rfl (lv_at hl 1 rfl) ?_
            refine lv_iload_n hx hb d_T_rule_79 rfl (lv_at hl 3 rfl) ?_
            refine lv_i2l (v := t.toInt64) hx hb d_T_rule_80 rfl ?_
            refine vp_callSi (va_Run.run (va_runV (As := [.long t.toInt64]) (rest := [.ref o]) ⟨hx, hb, hml, hown, hg⟩ (c_T_isPlace_ok l D cI cZ cJ cO o dT gT la ca aa na ya ta n ns nn nr d g sl cr ak no ye tl th be bp bm bo h4 h64 hd t.toInt64) (cwV 1 hg (gv g_699 g_701 g_9 g_26 g_702) rfl rfl rfl (by decide +kernel) ⟨Nat.le_of_ble_eq_true rfl, Nat.le_of_ble_eq_true rfl⟩) (pV hP hK hN (va_recv hK hP (ci := 7) (q0 := 0) rfl rfl)) rfl rfl hl.1 rfl (lv_room (Nat.le_of_ble_eq_true rfl)) d_T_rule_81 ⟨Nat.zero_le _, Nat.zero_le _⟩)) (fun r_11 hr_11 => ?_)
            subst hr_11
            rw [hs64]
            refine lv_if_ne (tgt := 91) hx hb d_T_rule_84 (by decide) (fun c_84 => ?_) (fun c_84 => ?_)
            · refine lv_iload hx hb d_T_rule_91 (lv_at hl 0 rfl) ?_
              refine lv_if_eq (tgt := 100) hx hb d_T_rule_93 (by decide) (fun c_93 => ?_) (fun c_93 => ?_)
              · exact absurd c_93 (by decide)
              · refine lv_iconst (v := 2) hx hb d_T_rule_96 (by decide) ?_
                refine lv_goto (tgt := 114) hx hb d_T_rule_97 (by decide) ?_
                refine va_put (D := D) (ci := 7) (v := .int 2) (ty := .int) (C := Q_T) (T := F_T) (N := 17) hx hb hg in_T tq_T tq_T_ok n_T hown hK hP hD hS 0 rfl rfl 0 (by decide) (hg _ g_639) (fun _ h9 => h9) rfl (by decide +kernel) rfl rfl (Nat.le_of_ble_eq_true rfl) d_T_rule_114 (fun H locs hP hD hS => ?_)
                have hP : va_P D cls [(o, .inr (7, [.int 2, .int (nI n), .ref dT, .ref gT, .int (nI ns), .ref la, .ref ca, .int (nI nn), .ref aa, .ref na, .ref ya, .int (nI nr), .ref ta, .int be, .int bp, .long bo, .int bm])), (dT, .inl (cI, 64, .inl d)), (gT, .inl (cZ, 64, .inl g)), (la, .inl (cI, 8, .inl sl)), (ca, .inl (cI, 128, .inl cr)), (aa, .inl (cI, 16, .inl ak)), (na, .inl (cI, 16, .inl no)), (ya, .inl (cI, 16, .inl ye)), (ta, .inl (cI, 48, .inl tl))] H := hP
                have hD : va_D A [(o, .inr (7, [.int 2, .int (nI n), .ref dT, .ref gT, .int (nI ns), .ref la, .ref ca, .int (nI nn), .ref aa, .ref na, .ref ya, .int (nI nr), .ref ta, .int be, .int bp, .long bo, .int bm])), (dT, .inl (cI, 64, .inl d)), (gT, .inl (cZ, 64, .inl g)), (la, .inl (cI, 8, .inl sl)), (ca, .inl (cI, 128, .inl cr)), (aa, .inl (cI, 16, .inl ak)), (na, .inl (cI, 16, .inl no)), (ya, .inl (cI, 16, .inl ye)), (ta, .inl (cI, 48, .inl tl))] := hD
                refine lv_aload_n hx hb d_T_rule_117 rfl (lv_at hl 1 rfl) ?_
                refine va_get (D := D) (ci := 7) (v := .int 2) (C := Q_T) (T := F_T) (N := 17) hx hb hg in_T hown hK hP 0 rfl rfl 0 (by decide) (hg _ g_639) (fun _ h9 => h9) rfl d_T_rule_118 ?_
                refine lv_if_le (tgt := 126) hx hb d_T_rule_121 (by decide) (fun c_121 => ?_) (fun c_121 => ?_)
                · exact absurd c_121 (by decide)
                · refine lv_iconst (v := 0) hx hb d_T_rule_124 (by decide) ?_
                  exact W.iret hx hb hr (fun t9 ht hW => ⟨⟨_, [(o, .inr (7, [.int 2, .int (nI n), .ref dT, .ref gT, .int (nI ns), .ref la, .ref ca, .int (nI nn), .ref aa, .ref na, .ref ya, .int (nI nr), .ref ta, .int be, .int bp, .long bo, .int bm])), (dT, .inl (cI, 64, .inl d)), (gT, .inl (cZ, 64, .inl g)), (la, .inl (cI, 8, .inl sl)), (ca, .inl (cI, 128, .inl cr)), (aa, .inl (cI, 16, .inl ak)), (na, .inl (cI, 16, .inl no)), (ya, .inl (cI, 16, .inl ye)), (ta, .inl (cI, 48, .inl tl))], rfl, Or.inr ⟨by first | (rw [cu_1 c_75]; decide) | (rw [cu_2 c_84]; decide) | (rw [cu_w c_75 c_84 (rw_1 c_2)]; decide) | (rw [cu_w c_75 c_84 (rw_2 c_14)]; decide) | (rw [cu_w c_75 c_84 (rw_3 c_28)]; decide) | (rw [cu_w c_75 c_84 (rw_4 c_43)]; decide) | (rw [cu_w c_75 c_84 (rw_5 c_58)]; decide) | (rw [cu_8 c_75 c_84 (rw_0 c_2 c_14 c_28 c_43 c_58) c_106]; decide), by first | rw [cu_1 c_75] | rw [cu_2 c_84] | rw [cu_w c_75 c_84 (rw_1 c_2)] | rw [cu_w c_75 c_84 (rw_2 c_14)] | rw [cu_w c_75 c_84 (rw_3 c_28)] | rw [cu_w c_75 c_84 (rw_4 c_43)] | rw [cu_w c_75 c_84 (rw_5 c_58)] | rw [cu_8 c_75 c_84 (rw_0 c_2 c_14 c_28 c_43 c_58) c_106]⟩, by rw [ht]; exact hP, va_K.moved hW.alike hK, hD⟩, hS.F ht⟩) hS.2.2 d_T_rule_125
            · refine lv_iconst (v := 1) hx hb d_T_rule_87 (by decide) ?_
              refine lv_goto (tgt := 114) hx hb d_T_rule_88 (by decide) ?_
              refine va_put (D := D) (ci := 7) (v := .int 1) (ty := .int) (C := Q_T) (T := F_T) (N := 17) hx hb hg in_T tq_T tq_T_ok n_T hown hK hP hD hS 0 rfl rfl 0 (by decide) (hg _ g_639) (fun _ h9 => h9) rfl (by decide +kernel) rfl rfl (Nat.le_of_ble_eq_true rfl) d_T_rule_114 (fun H locs hP hD hS => ?_)
              have hP : va_P D cls [(o, .inr (7, [.int 1, .int (nI n), .ref dT, .ref gT, .int (nI ns), .ref la, .ref ca, .int (nI nn), .ref aa, .ref na, .ref ya, .int (nI nr), .ref ta, .int be, .int bp, .long bo, .int bm])), (dT, .inl (cI, 64, .inl d)), (gT, .inl (cZ, 64, .inl g)), (la, .inl (cI, 8, .inl sl)), (ca, .inl (cI, 128, .inl cr)), (aa, .inl (cI, 16, .inl ak)), (na, .inl (cI, 16, .inl no)), (ya, .inl (cI, 16, .inl ye)), (ta, .inl (cI, 48, .inl tl))] H := hP
              have hD : va_D A [(o, .inr (7, [.int 1, .int (nI n), .ref dT, .ref gT, .int (nI ns), .ref la, .ref ca, .int (nI nn), .ref aa, .ref na, .ref ya, .int (nI nr), .ref ta, .int be, .int bp, .long bo, .int bm])), (dT, .inl (cI, 64, .inl d)), (gT, .inl (cZ, 64, .inl g)), (la, .inl (cI, 8, .inl sl)), (ca, .inl (cI, 128, .inl cr)), (aa, .inl (cI, 16, .inl ak)), (na, .inl (cI, 16, .inl no)), (ya, .inl (cI, 16, .inl ye)), (ta, .inl (cI, 48, .inl tl))] := hD
              refine lv_aload_n hx hb d_T_rule_117 rfl (lv_at hl 1 rfl) ?_
              refine va_get (D := D) (ci := 7) (v := .int 1) (C := Q_T) (T := F_T) (N := 17) hx hb hg in_T hown hK hP 0 rfl rfl 0 (by decide) (hg _ g_639) (fun _ h9 => h9) rfl d_T_rule_118 ?_
              refine lv_if_le (tgt := 126) hx hb d_T_rule_121 (by decide) (fun c_121 => ?_) (fun c_121 => ?_)
              · exact absurd c_121 (by decide)
              · refine lv_iconst (v := 0) hx hb d_T_rule_124 (by decide) ?_
                exact W.iret hx hb hr (fun t9 ht hW => ⟨⟨_, [(o, .inr (7, [.int 1, .int (nI n), .ref dT, .ref gT, .int (nI ns), .ref la, .ref ca, .int (nI nn), .ref aa, .ref na, .ref ya, .int (nI nr), .ref ta, .int be, .int bp, .long bo, .int bm])), (dT, .inl (cI, 64, .inl d)), (gT, .inl (cZ, 64, .inl g)), (la, .inl (cI, 8, .inl sl)), (ca, .inl (cI, 128, .inl cr)), (aa, .inl (cI, 16, .inl ak)), (na, .inl (cI, 16, .inl no)), (ya, .inl (cI, 16, .inl ye)), (ta, .inl (cI, 48, .inl tl))], rfl, Or.inr ⟨by first | (rw [cu_1 c_75]; decide) | (rw [cu_2 c_84]; decide) | (rw [cu_w c_75 c_84 (rw_1 c_2)]; decide) | (rw [cu_w c_75 c_84 (rw_2 c_14)]; decide) | (rw [cu_w c_75 c_84 (rw_3 c_28)]; decide) | (rw [cu_w c_75 c_84 (rw_4 c_43)]; decide) | (rw [cu_w c_75 c_84 (rw_5 c_58)]; decide) | (rw [cu_8 c_75 c_84 (rw_0 c_2 c_14 c_28 c_43 c_58) c_106]; decide), by first | rw [cu_1 c_75] | rw [cu_2 c_84] | rw [cu_w c_75 c_84 (rw_1 c_2)] | rw [cu_w c_75 c_84 (rw_2 c_14)] | rw [cu_w c_75 c_84 (rw_3 c_28)] | rw [cu_w c_75 c_84 (rw_4 c_43)] | rw [cu_w c_75 c_84 (rw_5 c_58)] | rw [cu_8 c_75 c_84 (rw_0 c_2 c_14 c_28 c_43 c_58) c_106]⟩, by rw [ht]; exact hP, va_K.moved hW.alike hK, hD⟩, hS.F ht⟩) hS.2.2 d_T_rule_125
        · refine lv_iload hx hb d_T_rule_46 (lv_at hl 6 rfl) ?_
          refine lv_i2l (v := un.toInt64) hx hb d_T_rule_48 rfl ?_
          refine lv_iload hx hb d_T_rule_49 (lv_at hl 5 rfl) ?_
          refine lv_i2l (v := y.toInt64) hx hb d_T_rule_51 rfl ?_
          refine lv_ldc2 (v := 10000) hx hb hown (hg _ g_791) d_T_rule_52 ?_
          refine vp_callSi (va_Run.run (va_runS (As := [.long un.toInt64, .long y.toInt64, .long 10000]) (rest := []) ⟨hx, hb, hml, hown, hg⟩ (c_T_isIn_ok l D cI cZ cJ cO un.toInt64 y.toInt64 10000) (va_cwS 3 hg (gs2 g_703 g_704 g_26 g_705) rfl rfl rfl (by decide +kernel) ⟨Nat.le_of_ble_eq_true rfl, Nat.le_of_ble_eq_true rfl⟩) (pS ba_nil hK hN) rfl rfl hl.1 rfl (lv_room (Nat.le_of_ble_eq_true rfl)) d_T_rule_55 ⟨Nat.zero_le _, Nat.zero_le _⟩)) (fun r_12 hr_12 => ?_)
          subst hr_12
          rw [lw_c (v := un) (lo := y) (hi := 10000) rfl (by decide)]
          refine lv_if_ne (tgt := 65) hx hb d_T_rule_58 (by decide) (fun c_58 => ?_) (fun c_58 => ?_)
          · refine lv_iconst (v := 0) hx hb d_T_rule_65 (by decide) ?_
            refine lv_istore (lv' := [(7, .int 0), (0, .ref o), (1, .int f), (2, .int t), (3, .int lo), (4, .int hi), (5, .int y), (6, .int un)]) hx hb d_T_rule_66 hl (by decide) rfl (fun ls hl => ?_)
            refine lv_aload_n hx hb d_T_rule_68 rfl (lv_at hl 1 rfl) ?_
            refine lv_aload_n hx hb d_T_rule_69 rfl (lv_at hl 1 rfl) ?_
            refine lv_iload_n hx hb d_T_rule_70 rfl (lv_at hl 2 rfl) ?_
            refine lv_i2l (v := f.toInt64) hx hb d_T_rule_71 rfl ?_
            refine vp_callSi (va_Run.run (va_runV (As := [.long f.toInt64]) (rest := [.ref o]) ⟨hx, hb, hml, hown, hg⟩ (c_T_isPlace_ok l D cI cZ cJ cO o dT gT la ca aa na ya ta n ns nn nr d g sl cr ak no ye tl th be bp bm bo h4 h64 hd f.toInt64) (cwV 1 hg (gv g_699 g_701 g_9 g_26 g_702) rfl rfl rfl (by decide +kernel) ⟨Nat.le_of_ble_eq_true rfl, Nat.le_of_ble_eq_true rfl⟩) (pV hP hK hN (va_recv hK hP (ci := 7) (q0 := 0) rfl rfl)) rfl rfl hl.1 rfl (lv_room (Nat.le_of_ble_eq_true rfl)) d_T_rule_72 ⟨Nat.zero_le _, Nat.zero_le _⟩)) (fun r_13 hr_13 => ?_)
            subst hr_13
            rw [hs64]
            refine lv_if_eq (tgt := 87) hx hb d_T_rule_75 (by decide) (fun c_75 => ?_) (fun c_75 => ?_)
            · refine lv_iconst (v := 1) hx hb d_T_rule_87 (by decide) ?_
              refine lv_goto (tgt := 114) hx hb d_T_rule_88 (by decide) ?_
              refine va_put (D := D) (ci := 7) (v := .int 1) (ty := .int) (C := Q_T) (T := F_T) (N := 17) hx hb hg in_T tq_T tq_T_ok n_T hown hK hP hD hS 0 rfl rfl 0 (by decide) (hg _ g_639) (fun _ h9 => h9) rfl (by decide +kernel) rfl rfl (Nat.le_of_ble_eq_true rfl) d_T_rule_114 (fun H locs hP hD hS => ?_)
              have hP : va_P D cls [(o, .inr (7, [.int 1, .int (nI n), .ref dT, .ref gT, .int (nI ns), .ref la, .ref ca, .int (nI nn), .ref aa, .ref na, .ref ya, .int (nI nr), .ref ta, .int be, .int bp, .long bo, .int bm])), (dT, .inl (cI, 64, .inl d)), (gT, .inl (cZ, 64, .inl g)), (la, .inl (cI, 8, .inl sl)), (ca, .inl (cI, 128, .inl cr)), (aa, .inl (cI, 16, .inl ak)), (na, .inl (cI, 16, .inl no)), (ya, .inl (cI, 16, .inl ye)), (ta, .inl (cI, 48, .inl tl))] H := hP
              have hD : va_D A [(o, .inr (7, [.int 1, .int (nI n), .ref dT, .ref gT, .int (nI ns), .ref la, .ref ca, .int (nI nn), .ref aa, .ref na, .ref ya, .int (nI nr), .ref ta, .int be, .int bp, .long bo, .int bm])), (dT, .inl (cI, 64, .inl d)), (gT, .inl (cZ, 64, .inl g)), (la, .inl (cI, 8, .inl sl)), (ca, .inl (cI, 128, .inl cr)), (aa, .inl (cI, 16, .inl ak)), (na, .inl (cI, 16, .inl no)), (ya, .inl (cI, 16, .inl ye)), (ta, .inl (cI, 48, .inl tl))] := hD
              refine lv_aload_n hx hb d_T_rule_117 rfl (lv_at hl 1 rfl) ?_
              refine va_get (D := D) (ci := 7) (v := .int 1) (C := Q_T) (T := F_T) (N := 17) hx hb hg in_T hown hK hP 0 rfl rfl 0 (by decide) (hg _ g_639) (fun _ h9 => h9) rfl d_T_rule_118 ?_
              refine lv_if_le (tgt := 126) hx hb d_T_rule_121 (by decide) (fun c_121 => ?_) (fun c_121 => ?_)
              · exact absurd c_121 (by decide)
              · refine lv_iconst (v := 0) hx hb d_T_rule_124 (by decide) ?_
                exact W.iret hx hb hr (fun t9 ht hW => ⟨⟨_, [(o, .inr (7, [.int 1, .int (nI n), .ref dT, .ref gT, .int (nI ns), .ref la, .ref ca, .int (nI nn), .ref aa, .ref na, .ref ya, .int (nI nr), .ref ta, .int be, .int bp, .long bo, .int bm])), (dT, .inl (cI, 64, .inl d)), (gT, .inl (cZ, 64, .inl g)), (la, .inl (cI, 8, .inl sl)), (ca, .inl (cI, 128, .inl cr)), (aa, .inl (cI, 16, .inl ak)), (na, .inl (cI, 16, .inl no)), (ya, .inl (cI, 16, .inl ye)), (ta, .inl (cI, 48, .inl tl))], rfl, Or.inr ⟨by first | (rw [cu_1 c_75]; decide) | (rw [cu_2 c_84]; decide) | (rw [cu_w c_75 c_84 (rw_1 c_2)]; decide) | (rw [cu_w c_75 c_84 (rw_2 c_14)]; decide) | (rw [cu_w c_75 c_84 (rw_3 c_28)]; decide) | (rw [cu_w c_75 c_84 (rw_4 c_43)]; decide) | (rw [cu_w c_75 c_84 (rw_5 c_58)]; decide) | (rw [cu_8 c_75 c_84 (rw_0 c_2 c_14 c_28 c_43 c_58) c_106]; decide), by first | rw [cu_1 c_75] | rw [cu_2 c_84] | rw [cu_w c_75 c_84 (rw_1 c_2)] | rw [cu_w c_75 c_84 (rw_2 c_14)] | rw [cu_w c_75 c_84 (rw_3 c_28)] | rw [cu_w c_75 c_84 (rw_4 c_43)] | rw [cu_w c_75 c_84 (rw_5 c_58)] | rw [cu_8 c_75 c_84 (rw_0 c_2 c_14 c_28 c_43 c_58) c_106]⟩, by rw [ht]; exact hP, va_K.moved hW.alike hK, hD⟩, hS.F ht⟩) hS.2.2 d_T_rule_125
            · refine lv_aload_n hx hb d_T_rule_78 rfl (lv_at hl 1 rfl) ?_
              refine lv_iload_n hx hb d_T_rule_79 rfl (lv_at hl 3 rfl) ?_
              refine lv_i2l (v := t.toInt64) hx hb d_T_rule_80 rfl ?_
              refine vp_callSi (va_Run.run (va_runV (As := [.long t.toInt64]) (rest := [.ref o]) ⟨hx, hb, hml, hown, hg⟩ (c_T_isPlace_ok l D cI cZ cJ cO o dT gT la ca aa na ya ta n ns nn nr d g sl cr ak no ye tl th be bp bm bo h4 h64 hd t.toInt64) (cwV 1 hg (gv g_699 g_701 g_9 g_26 g_702) rfl rfl rfl (by decide +kernel) ⟨Nat.le_of_ble_eq_true rfl, Nat.le_of_ble_eq_true rfl⟩) (pV hP hK hN (va_recv hK hP (ci := 7) (q0 := 0) rfl rfl)) rfl rfl hl.1 rfl (lv_room (Nat.le_of_ble_eq_true rfl)) d_T_rule_81 ⟨Nat.zero_le _, Nat.zero_le _⟩)) (fun r_14 hr_14 => ?_)
              subst hr_14
              rw [hs64]
              refine lv_if_ne (tgt := 91) hx hb d_T_rule_84 (by decide) (fun c_84 => ?_) (fun c_84 => ?_)
              · refine lv_iload hx hb d_T_rule_91 (lv_at hl 0 rfl) ?_
                refine lv_if_eq (tgt := 100) hx hb d_T_rule_93 (by decide) (fun c_93 => ?_) (fun c_93 => ?_)
                · refine lv_aload_n hx hb d_T_rule_100 rfl (lv_at hl 1 rfl) ?_
                  refine va_get (D := D) (ci := 7) (v := .int (nI nr)) (C := Q_T) (T := F_T) (N := 17) hx hb hg in_T hown hK hP 0 rfl rfl 11 (by decide) (hg _ g_650) (fun _ h9 => h9) rfl d_T_rule_101 ?_
                  refine lv_bipush (v := 8) hx hb d_T_rule_104 (by decide) ?_
                  refine lv_icmp_ne (tgt := 113) hx hb d_T_rule_106 (by decide) (fun c_106 => ?_) (fun c_106 => ?_)
                  · refine lv_iconst (v := 0) hx hb d_T_rule_113 (by decide) ?_
                    refine va_put (D := D) (ci := 7) (v := .int 0) (ty := .int) (C := Q_T) (T := F_T) (N := 17) hx hb hg in_T tq_T tq_T_ok n_T hown hK hP hD hS 0 rfl rfl 0 (by decide) (hg _ g_639) (fun _ h9 => h9) rfl (by decide +kernel) rfl rfl (Nat.le_of_ble_eq_true rfl) d_T_rule_114 (fun H locs hP hD hS => ?_)
                    have hP : va_P D cls [(o, .inr (7, [.int 0, .int (nI n), .ref dT, .ref gT, .int (nI ns), .ref la, .ref ca, .int (nI nn), .ref aa, .ref na, .ref ya, .int (nI nr), .ref ta, .int be, .int bp, .long bo, .int bm])), (dT, .inl (cI, 64, .inl d)), (gT, .inl (cZ, 64, .inl g)), (la, .inl (cI, 8, .inl sl)), (ca, .inl (cI, 128, .inl cr)), (aa, .inl (cI, 16, .inl ak)), (na, .inl (cI, 16, .inl no)), (ya, .inl (cI, 16, .inl ye)), (ta, .inl (cI, 48, .inl tl))] H := hP
                    have hD : va_D A [(o, .inr (7, [.int 0, .int (nI n), .ref dT, .ref gT, .int (nI ns), .ref la, .ref ca, .int (nI nn), .ref aa, .ref na, .ref ya, .int (nI nr), .ref ta, .int be, .int bp, .long bo, .int bm])), (dT, .inl (cI, 64, .inl d)), (gT, .inl (cZ, 64, .inl g)), (la, .inl (cI, 8, .inl sl)), (ca, .inl (cI, 128, .inl cr)), (aa, .inl (cI, 16, .inl ak)), (na, .inl (cI, 16, .inl no)), (ya, .inl (cI, 16, .inl ye)), (ta, .inl (cI, 48, .inl tl))] := hD
                    refine lv_aload_n hx hb d_T_rule_117 rfl (lv_at hl 1 rfl) ?_
                    refine va_get (D := D) (ci := 7) (v := .int 0) (C := Q_T) (T := F_T) (N := 17) hx hb hg in_T hown hK hP 0 rfl rfl 0 (by decide) (hg _ g_639) (fun _ h9 => h9) rfl d_T_rule_118 ?_
                    refine lv_if_le (tgt := 126) hx hb d_T_rule_121 (by decide) (fun c_121 => ?_) (fun c_121 => ?_)
                    · refine lv_aload_n hx hb d_T_rule_126 rfl (lv_at hl 1 rfl) ?_
                      refine va_get (D := D) (ci := 7) (v := .ref ta) (C := Q_T) (T := F_T) (N := 17) hx hb hg in_T hown hK hP 0 rfl rfl 12 (by decide) (hg _ g_651) (fun _ h9 => h9) rfl d_T_rule_127 ?_
                      refine lv_bipush (v := 6) hx hb d_T_rule_130 (by decide) ?_
                      refine lv_aload_n hx hb d_T_rule_132 rfl (lv_at hl 1 rfl) ?_
                      refine va_get (D := D) (ci := 7) (v := .int (nI nr)) (C := Q_T) (T := F_T) (N := 17) hx hb hg in_T hown hK hP 0 rfl rfl 11 (by decide) (hg _ g_650) (fun _ h9 => h9) rfl d_T_rule_133 ?_
                      refine lv_imul hx hb d_T_rule_136 ?_
                      refine lv_iload_n hx hb d_T_rule_137 rfl (lv_at hl 2 rfl) ?_
                      refine va_iast hx hb hK hP hD hS 8 0 rfl rfl (v48 (ns8 hnr c_106)) d_T_rule_138 (fun H locs hP hD hS => ?_)
                      rw [c48 (ns8 hnr c_106)] at hP hD
                      have hP : va_P D cls [(o, .inr (7, [.int 0, .int (nI n), .ref dT, .ref gT, .int (nI ns), .ref la, .ref ca, .int (nI nn), .ref aa, .ref na, .ref ya, .int (nI nr), .ref ta, .int be, .int bp, .long bo, .int bm])), (dT, .inl (cI, 64, .inl d)), (gT, .inl (cZ, 64, .inl g)), (la, .inl (cI, 8, .inl sl)), (ca, .inl (cI, 128, .inl cr)), (aa, .inl (cI, 16, .inl ak)), (na, .inl (cI, 16, .inl no)), (ya, .inl (cI, 16, .inl ye)), (ta, .inl (cI, 48, .inl (upd tl (6 * nr) f)))] H := hP
                      have hD : va_D A [(o, .inr (7, [.int 0, .int (nI n), .ref dT, .ref gT, .int (nI ns), .ref la, .ref ca, .int (nI nn), .ref aa, .ref na, .ref ya, .int (nI nr), .ref ta, .int be, .int bp, .long bo, .int bm])), (dT, .inl (cI, 64, .inl d)), (gT, .inl (cZ, 64, .inl g)), (la, .inl (cI, 8, .inl sl)), (ca, .inl (cI, 128, .inl cr)), (aa, .inl (cI, 16, .inl ak)), (na, .inl (cI, 16, .inl no)), (ya, .inl (cI, 16, .inl ye)), (ta, .inl (cI, 48, .inl (upd tl (6 * nr) f)))] := hD
                      refine lv_aload_n hx hb d_T_rule_139 rfl (lv_at hl 1 rfl) ?_
                      refine va_get (D := D) (ci := 7) (v := .ref ta) (C := Q_T) (T := F_T) (N := 17) hx hb hg in_T hown hK hP 0 rfl rfl 12 (by decide) (hg _ g_651) (fun _ h9 => h9) rfl d_T_rule_140 ?_
                      refine lv_bipush (v := 6) hx hb d_T_rule_143 (by decide) ?_
                      refine lv_aload_n hx hb d_T_rule_145 rfl (lv_at hl 1 rfl) ?_
                      refine va_get (D := D) (ci := 7) (v := .int (nI nr)) (C := Q_T) (T := F_T) (N := 17) hx hb hg in_T hown hK hP 0 rfl rfl 11 (by decide) (hg _ g_650) (fun _ h9 => h9) rfl d_T_rule_146 ?_
                      refine lv_imul hx hb d_T_rule_149 ?_
                      refine lv_iconst (v := 1) hx hb d_T_rule_150 (by decide) ?_
                      refine lv_iadd hx hb d_T_rule_151 ?_
                      refine lv_iload_n hx hb d_T_rule_152 rfl (lv_at hl 3 rfl) ?_
                      refine va_iast hx hb hK hP hD hS 8 0 rfl rfl (v48k (k := 1) (ns8 hnr c_106) (by omega)) d_T_rule_153 (fun H locs hP hD hS => ?_)
                      rw [show ((6 : Int32) * nI nr + 1).toNatClampNeg = 6 * nr + 1 from c48k (k := 1) (ns8 hnr c_106) (by omega)] at hP hD
                      have hP : va_P D cls [(o, .inr (7, [.int 0, .int (nI n), .ref dT, .ref gT, .int (nI ns), .ref la, .ref ca, .int (nI nn), .ref aa, .ref na, .ref ya, .int (nI nr), .ref ta, .int be, .int bp, .long bo, .int bm])), (dT, .inl (cI, 64, .inl d)), (gT, .inl (cZ, 64, .inl g)), (la, .inl (cI, 8, .inl sl)), (ca, .inl (cI, 128, .inl cr)), (aa, .inl (cI, 16, .inl ak)), (na, .inl (cI, 16, .inl no)), (ya, .inl (cI, 16, .inl ye)), (ta, .inl (cI, 48, .inl (upd (upd tl (6 * nr) f) (6 * nr + 1) t)))] H := hP
                      have hD : va_D A [(o, .inr (7, [.int 0, .int (nI n), .ref dT, .ref gT, .int (nI ns), .ref la, .ref ca, .int (nI nn), .ref aa, .ref na, .ref ya, .int (nI nr), .ref ta, .int be, .int bp, .long bo, .int bm])), (dT, .inl (cI, 64, .inl d)), (gT, .inl (cZ, 64, .inl g)), (la, .inl (cI, 8, .inl sl)), (ca, .inl (cI, 128, .inl cr)), (aa, .inl (cI, 16, .inl ak)), (na, .inl (cI, 16, .inl no)), (ya, .inl (cI, 16, .inl ye)), (ta, .inl (cI, 48, .inl (upd (upd tl (6 * nr) f) (6 * nr + 1) t)))] := hD
                      refine lv_aload_n hx hb d_T_rule_154 rfl (lv_at hl 1 rfl) ?_
                      refine va_get (D := D) (ci := 7) (v := .ref ta) (C := Q_T) (T := F_T) (N := 17) hx hb hg in_T hown hK hP 0 rfl rfl 12 (by decide) (hg _ g_651) (fun _ h9 => h9) rfl d_T_rule_155 ?_
                      refine lv_bipush (v := 6) hx hb d_T_rule_158 (by decide) ?_
                      refine lv_aload_n hx hb d_T_rule_160 rfl (lv_at hl 1 rfl) ?_
                      refine va_get (D := D) (ci := 7) (v := .int (nI nr)) (C := Q_T) (T := F_T) (N := 17) hx hb hg in_T hown hK hP 0 rfl rfl 11 (by decide) (hg _ g_650) (fun _ h9 => h9) rfl d_T_rule_161 ?_
                      refine lv_imul hx hb d_T_rule_164 ?_
                      refine lv_iconst (v := 2) hx hb d_T_rule_165 (by decide) ?_
                      refine lv_iadd hx hb d_T_rule_166 ?_
                      refine lv_iload_n hx hb d_T_rule_167 rfl (lv_at hl 4 rfl) ?_
                      refine va_iast hx hb hK hP hD hS 8 0 rfl rfl (v48k (k := 2) (ns8 hnr c_106) (by omega)) d_T_rule_168 (fun H locs hP hD hS => ?_)
                      rw [show ((6 : Int32) * nI nr + 2).toNatClampNeg = 6 * nr + 2 from c48k (k := 2) (ns8 hnr c_106) (by omega)] at hP hD
                      have hP : va_P D cls [(o, .inr (7, [.int 0, .int (nI n), .ref dT, .ref gT, .int (nI ns), .ref la, .ref ca, .int (nI nn), .ref aa, .ref na, .ref ya, .int (nI nr), .ref ta, .int be, .int bp, .long bo, .int bm])), (dT, .inl (cI, 64, .inl d)), (gT, .inl (cZ, 64, .inl g)), (la, .inl (cI, 8, .inl sl)), (ca, .inl (cI, 128, .inl cr)), (aa, .inl (cI, 16, .inl ak)), (na, .inl (cI, 16, .inl no)), (ya, .inl (cI, 16, .inl ye)), (ta, .inl (cI, 48, .inl (upd (upd (upd tl (6 * nr) f) (6 * nr + 1) t) (6 * nr + 2) lo)))] H := hP
                      have hD : va_D A [(o, .inr (7, [.int 0, .int (nI n), .ref dT, .ref gT, .int (nI ns), .ref la, .ref ca, .int (nI nn), .ref aa, .ref na, .ref ya, .int (nI nr), .ref ta, .int be, .int bp, .long bo, .int bm])), (dT, .inl (cI, 64, .inl d)), (gT, .inl (cZ, 64, .inl g)), (la, .inl (cI, 8, .inl sl)), (ca, .inl (cI, 128, .inl cr)), (aa, .inl (cI, 16, .inl ak)), (na, .inl (cI, 16, .inl no)), (ya, .inl (cI, 16, .inl ye)), (ta, .inl (cI, 48, .inl (upd (upd (upd tl (6 * nr) f) (6 * nr + 1) t) (6 * nr + 2) lo)))] := hD
                      refine lv_aload_n hx hb d_T_rule_169 rfl (lv_at hl 1 rfl) ?_
                      refine va_get (D := D) (ci := 7) (v := .ref ta) (C := Q_T) (T := F_T) (N := 17) hx hb hg in_T hown hK hP 0 rfl rfl 12 (by decide) (hg _ g_651) (fun _ h9 => h9) rfl d_T_rule_170 ?_
                      refine lv_bipush (v := 6) hx hb d_T_rule_173 (by decide) ?_
                      refine lv_aload_n hx hb d_T_rule_175 rfl (lv_at hl 1 rfl) ?_
                      refine va_get (D := D) (ci := 7) (v := .int (nI nr)) (C := Q_T) (T := F_T) (N := 17) hx hb hg in_T hown hK hP 0 rfl rfl 11 (by decide) (hg _ g_650) (fun _ h9 => h9) rfl d_T_rule_176 ?_
                      refine lv_imul hx hb d_T_rule_179 ?_
                      refine lv_iconst (v := 3) hx hb d_T_rule_180 (by decide) ?_
                      refine lv_iadd hx hb d_T_rule_181 ?_
                      refine lv_iload hx hb d_T_rule_182 (lv_at hl 5 rfl) ?_
                      refine va_iast hx hb hK hP hD hS 8 0 rfl rfl (v48k (k := 3) (ns8 hnr c_106) (by omega)) d_T_rule_184 (fun H locs hP hD hS => ?_)
                      rw [show ((6 : Int32) * nI nr + 3).toNatClampNeg = 6 * nr + 3 from c48k (k := 3) (ns8 hnr c_106) (by omega)] at hP hD
                      have hP : va_P D cls [(o, .inr (7, [.int 0, .int (nI n), .ref dT, .ref gT, .int (nI ns), .ref la, .ref ca, .int (nI nn), .ref aa, .ref na, .ref ya, .int (nI nr), .ref ta, .int be, .int bp, .long bo, .int bm])), (dT, .inl (cI, 64, .inl d)), (gT, .inl (cZ, 64, .inl g)), (la, .inl (cI, 8, .inl sl)), (ca, .inl (cI, 128, .inl cr)), (aa, .inl (cI, 16, .inl ak)), (na, .inl (cI, 16, .inl no)), (ya, .inl (cI, 16, .inl ye)), (ta, .inl (cI, 48, .inl (upd (upd (upd (upd tl (6 * nr) f) (6 * nr + 1) t) (6 * nr + 2) lo) (6 * nr + 3) hi)))] H := hP
                      have hD : va_D A [(o, .inr (7, [.int 0, .int (nI n), .ref dT, .ref gT, .int (nI ns), .ref la, .ref ca, .int (nI nn), .ref aa, .ref na, .ref ya, .int (nI nr), .ref ta, .int be, .int bp, .long bo, .int bm])), (dT, .inl (cI, 64, .inl d)), (gT, .inl (cZ, 64, .inl g)), (la, .inl (cI, 8, .inl sl)), (ca, .inl (cI, 128, .inl cr)), (aa, .inl (cI, 16, .inl ak)), (na, .inl (cI, 16, .inl no)), (ya, .inl (cI, 16, .inl ye)), (ta, .inl (cI, 48, .inl (upd (upd (upd (upd tl (6 * nr) f) (6 * nr + 1) t) (6 * nr + 2) lo) (6 * nr + 3) hi)))] := hD
                      refine lv_aload_n hx hb d_T_rule_185 rfl (lv_at hl 1 rfl) ?_
                      refine va_get (D := D) (ci := 7) (v := .ref ta) (C := Q_T) (T := F_T) (N := 17) hx hb hg in_T hown hK hP 0 rfl rfl 12 (by decide) (hg _ g_651) (fun _ h9 => h9) rfl d_T_rule_186 ?_
                      refine lv_bipush (v := 6) hx hb d_T_rule_189 (by decide) ?_
                      refine lv_aload_n hx hb d_T_rule_191 rfl (lv_at hl 1 rfl) ?_
                      refine va_get (D := D) (ci := 7) (v := .int (nI nr)) (C := Q_T) (T := F_T) (N := 17) hx hb hg in_T hown hK hP 0 rfl rfl 11 (by decide) (hg _ g_650) (fun _ h9 => h9) rfl d_T_rule_192 ?_
                      refine lv_imul hx hb d_T_rule_195 ?_
                      refine lv_iconst (v := 4) hx hb d_T_rule_196 (by decide) ?_
                      refine lv_iadd hx hb d_T_rule_197 ?_
                      refine lv_iload hx hb d_T_rule_198 (lv_at hl 6 rfl) ?_
                      refine va_iast hx hb hK hP hD hS 8 0 rfl rfl (v48k (k := 4) (ns8 hnr c_106) (by omega)) d_T_rule_200 (fun H locs hP hD hS => ?_)
                      rw [show ((6 : Int32) * nI nr + 4).toNatClampNeg = 6 * nr + 4 from c48k (k := 4) (ns8 hnr c_106) (by omega)] at hP hD
                      have hP : va_P D cls [(o, .inr (7, [.int 0, .int (nI n), .ref dT, .ref gT, .int (nI ns), .ref la, .ref ca, .int (nI nn), .ref aa, .ref na, .ref ya, .int (nI nr), .ref ta, .int be, .int bp, .long bo, .int bm])), (dT, .inl (cI, 64, .inl d)), (gT, .inl (cZ, 64, .inl g)), (la, .inl (cI, 8, .inl sl)), (ca, .inl (cI, 128, .inl cr)), (aa, .inl (cI, 16, .inl ak)), (na, .inl (cI, 16, .inl no)), (ya, .inl (cI, 16, .inl ye)), (ta, .inl (cI, 48, .inl (upd (upd (upd (upd (upd tl (6 * nr) f) (6 * nr + 1) t) (6 * nr + 2) lo) (6 * nr + 3) hi) (6 * nr + 4) y)))] H := hP
                      have hD : va_D A [(o, .inr (7, [.int 0, .int (nI n), .ref dT, .ref gT, .int (nI ns), .ref la, .ref ca, .int (nI nn), .ref aa, .ref na, .ref ya, .int (nI nr), .ref ta, .int be, .int bp, .long bo, .int bm])), (dT, .inl (cI, 64, .inl d)), (gT, .inl (cZ, 64, .inl g)), (la, .inl (cI, 8, .inl sl)), (ca, .inl (cI, 128, .inl cr)), (aa, .inl (cI, 16, .inl ak)), (na, .inl (cI, 16, .inl no)), (ya, .inl (cI, 16, .inl ye)), (ta, .inl (cI, 48, .inl (upd (upd (upd (upd (upd tl (6 * nr) f) (6 * nr + 1) t) (6 * nr + 2) lo) (6 * nr + 3) hi) (6 * nr + 4) y)))] := hD
                      refine lv_aload_n hx hb d_T_rule_201 rfl (lv_at hl 1 rfl) ?_
                      refine va_get (D := D) (ci := 7) (v := .ref ta) (C := Q_T) (T := F_T) (N := 17) hx hb hg in_T hown hK hP 0 rfl rfl 12 (by decide) (hg _ g_651) (fun _ h9 => h9) rfl d_T_rule_202 ?_
                      refine lv_bipush (v := 6) hx hb d_T_rule_205 (by decide) ?_
                      refine lv_aload_n hx hb d_T_rule_207 rfl (lv_at hl 1 rfl) ?_
                      refine va_get (D := D) (ci := 7) (v := .int (nI nr)) (C := Q_T) (T := F_T) (N := 17) hx hb hg in_T hown hK hP 0 rfl rfl 11 (by decide) (hg _ g_650) (fun _ h9 => h9) rfl d_T_rule_208 ?_
                      refine lv_imul hx hb d_T_rule_211 ?_
                      refine lv_iconst (v := 5) hx hb d_T_rule_212 (by decide) ?_
                      refine lv_iadd hx hb d_T_rule_213 ?_
                      refine lv_iload hx hb d_T_rule_214 (lv_at hl 7 rfl) ?_
                      refine va_iast hx hb hK hP hD hS 8 0 rfl rfl (v48k (k := 5) (ns8 hnr c_106) (by omega)) d_T_rule_216 (fun H locs hP hD hS => ?_)
                      rw [show ((6 : Int32) * nI nr + 5).toNatClampNeg = 6 * nr + 5 from c48k (k := 5) (ns8 hnr c_106) (by omega)] at hP hD
                      have hP : va_P D cls [(o, .inr (7, [.int 0, .int (nI n), .ref dT, .ref gT, .int (nI ns), .ref la, .ref ca, .int (nI nn), .ref aa, .ref na, .ref ya, .int (nI nr), .ref ta, .int be, .int bp, .long bo, .int bm])), (dT, .inl (cI, 64, .inl d)), (gT, .inl (cZ, 64, .inl g)), (la, .inl (cI, 8, .inl sl)), (ca, .inl (cI, 128, .inl cr)), (aa, .inl (cI, 16, .inl ak)), (na, .inl (cI, 16, .inl no)), (ya, .inl (cI, 16, .inl ye)), (ta, .inl (cI, 48, .inl (upd (upd (upd (upd (upd (upd tl (6 * nr) f) (6 * nr + 1) t) (6 * nr + 2) lo) (6 * nr + 3) hi) (6 * nr + 4) y) (6 * nr + 5) un)))] H := hP
                      have hD : va_D A [(o, .inr (7, [.int 0, .int (nI n), .ref dT, .ref gT, .int (nI ns), .ref la, .ref ca, .int (nI nn), .ref aa, .ref na, .ref ya, .int (nI nr), .ref ta, .int be, .int bp, .long bo, .int bm])), (dT, .inl (cI, 64, .inl d)), (gT, .inl (cZ, 64, .inl g)), (la, .inl (cI, 8, .inl sl)), (ca, .inl (cI, 128, .inl cr)), (aa, .inl (cI, 16, .inl ak)), (na, .inl (cI, 16, .inl no)), (ya, .inl (cI, 16, .inl ye)), (ta, .inl (cI, 48, .inl (upd (upd (upd (upd (upd (upd tl (6 * nr) f) (6 * nr + 1) t) (6 * nr + 2) lo) (6 * nr + 3) hi) (6 * nr + 4) y) (6 * nr + 5) un)))] := hD
                      refine lv_aload_n hx hb d_T_rule_217 rfl (lv_at hl 1 rfl) ?_
                      refine lv_dup hx hb d_T_rule_218 rfl ?_
                      refine va_get (D := D) (ci := 7) (v := .int (nI nr)) (C := Q_T) (T := F_T) (N := 17) hx hb hg in_T hown hK hP 0 rfl rfl 11 (by decide) (hg _ g_650) (fun _ h9 => h9) rfl d_T_rule_219 ?_
                      refine lv_iconst (v := 1) hx hb d_T_rule_222 (by decide) ?_
                      refine lv_iadd hx hb d_T_rule_223 ?_
                      refine va_put (D := D) (ci := 7) (v := .int ((nI nr) + 1)) (ty := .int) (C := Q_T) (T := F_T) (N := 17) hx hb hg in_T tq_T tq_T_ok n_T hown hK hP hD hS 0 rfl rfl 11 (by decide) (hg _ g_650) (fun _ h9 => h9) rfl (by decide +kernel) rfl rfl (Nat.le_of_ble_eq_true rfl) d_T_rule_224 (fun H locs hP hD hS => ?_)
                      have hP : va_P D cls [(o, .inr (7, [.int 0, .int (nI n), .ref dT, .ref gT, .int (nI ns), .ref la, .ref ca, .int (nI nn), .ref aa, .ref na, .ref ya, .int ((nI nr) + 1), .ref ta, .int be, .int bp, .long bo, .int bm])), (dT, .inl (cI, 64, .inl d)), (gT, .inl (cZ, 64, .inl g)), (la, .inl (cI, 8, .inl sl)), (ca, .inl (cI, 128, .inl cr)), (aa, .inl (cI, 16, .inl ak)), (na, .inl (cI, 16, .inl no)), (ya, .inl (cI, 16, .inl ye)), (ta, .inl (cI, 48, .inl (upd (upd (upd (upd (upd (upd tl (6 * nr) f) (6 * nr + 1) t) (6 * nr + 2) lo) (6 * nr + 3) hi) (6 * nr + 4) y) (6 * nr + 5) un)))] H := hP
                      have hD : va_D A [(o, .inr (7, [.int 0, .int (nI n), .ref dT, .ref gT, .int (nI ns), .ref la, .ref ca, .int (nI nn), .ref aa, .ref na, .ref ya, .int ((nI nr) + 1), .ref ta, .int be, .int bp, .long bo, .int bm])), (dT, .inl (cI, 64, .inl d)), (gT, .inl (cZ, 64, .inl g)), (la, .inl (cI, 8, .inl sl)), (ca, .inl (cI, 128, .inl cr)), (aa, .inl (cI, 16, .inl ak)), (na, .inl (cI, 16, .inl no)), (ya, .inl (cI, 16, .inl ye)), (ta, .inl (cI, 48, .inl (upd (upd (upd (upd (upd (upd tl (6 * nr) f) (6 * nr + 1) t) (6 * nr + 2) lo) (6 * nr + 3) hi) (6 * nr + 4) y) (6 * nr + 5) un)))] := hD
                      refine lv_aload_n hx hb d_T_rule_227 rfl (lv_at hl 1 rfl) ?_
                      refine va_get (D := D) (ci := 7) (v := .int ((nI nr) + 1)) (C := Q_T) (T := F_T) (N := 17) hx hb hg in_T hown hK hP 0 rfl rfl 11 (by decide) (hg _ g_650) (fun _ h9 => h9) rfl d_T_rule_228 ?_
                      exact W.iret hx hb hr (fun t9 ht hW => ⟨⟨_, [(o, .inr (7, [.int 0, .int (nI n), .ref dT, .ref gT, .int (nI ns), .ref la, .ref ca, .int (nI nn), .ref aa, .ref na, .ref ya, .int ((nI nr) + 1), .ref ta, .int be, .int bp, .long bo, .int bm])), (dT, .inl (cI, 64, .inl d)), (gT, .inl (cZ, 64, .inl g)), (la, .inl (cI, 8, .inl sl)), (ca, .inl (cI, 128, .inl cr)), (aa, .inl (cI, 16, .inl ak)), (na, .inl (cI, 16, .inl no)), (ya, .inl (cI, 16, .inl ye)), (ta, .inl (cI, 48, .inl (upd (upd (upd (upd (upd (upd tl (6 * nr) f) (6 * nr + 1) t) (6 * nr + 2) lo) (6 * nr + 3) hi) (6 * nr + 4) y) (6 * nr + 5) un)))], rfl, Or.inl ⟨cu_0 c_75 c_84 (rw_0 c_2 c_14 c_28 c_43 c_58) c_106, by rw [← nI_1]; rfl, nI_1 nr⟩, by rw [ht]; exact hP, va_K.moved hW.alike hK, hD⟩, hS.F ht⟩) hS.2.2 d_T_rule_231
                    · exact absurd c_121 (by decide)
                  · refine lv_iconst (v := 3) hx hb d_T_rule_109 (by decide) ?_
                    refine lv_goto (tgt := 114) hx hb d_T_rule_110 (by decide) ?_
                    refine va_put (D := D) (ci := 7) (v := .int 3) (ty := .int) (C := Q_T) (T := F_T) (N := 17) hx hb hg in_T tq_T tq_T_ok n_T hown hK hP hD hS 0 rfl rfl 0 (by decide) (hg _ g_639) (fun _ h9 => h9) rfl (by decide +kernel) rfl rfl (Nat.le_of_ble_eq_true rfl) d_T_rule_114 (fun H locs hP hD hS => ?_)
                    have hP : va_P D cls [(o, .inr (7, [.int 3, .int (nI n), .ref dT, .ref gT, .int (nI ns), .ref la, .ref ca, .int (nI nn), .ref aa, .ref na, .ref ya, .int (nI nr), .ref ta, .int be, .int bp, .long bo, .int bm])), (dT, .inl (cI, 64, .inl d)), (gT, .inl (cZ, 64, .inl g)), (la, .inl (cI, 8, .inl sl)), (ca, .inl (cI, 128, .inl cr)), (aa, .inl (cI, 16, .inl ak)), (na, .inl (cI, 16, .inl no)), (ya, .inl (cI, 16, .inl ye)), (ta, .inl (cI, 48, .inl tl))] H := hP
                    have hD : va_D A [(o, .inr (7, [.int 3, .int (nI n), .ref dT, .ref gT, .int (nI ns), .ref la, .ref ca, .int (nI nn), .ref aa, .ref na, .ref ya, .int (nI nr), .ref ta, .int be, .int bp, .long bo, .int bm])), (dT, .inl (cI, 64, .inl d)), (gT, .inl (cZ, 64, .inl g)), (la, .inl (cI, 8, .inl sl)), (ca, .inl (cI, 128, .inl cr)), (aa, .inl (cI, 16, .inl ak)), (na, .inl (cI, 16, .inl no)), (ya, .inl (cI, 16, .inl ye)), (ta, .inl (cI, 48, .inl tl))] := hD
                    refine lv_aload_n hx hb d_T_rule_117 rfl (lv_at hl 1 rfl) ?_
                    refine va_get (D := D) (ci := 7) (v := .int 3) (C := Q_T) (T := F_T) (N := 17) hx hb hg in_T hown hK hP 0 rfl rfl 0 (by decide) (hg _ g_639) (fun _ h9 => h9) rfl d_T_rule_118 ?_
                    refine lv_if_le (tgt := 126) hx hb d_T_rule_121 (by decide) (fun c_121 => ?_) (fun c_121 => ?_)
                    · exact absurd c_121 (by decide)
                    · refine lv_iconst (v := 0) hx hb d_T_rule_124 (by decide) ?_
                      exact W.iret hx hb hr (fun t9 ht hW => ⟨⟨_, [(o, .inr (7, [.int 3, .int (nI n), .ref dT, .ref gT, .int (nI ns), .ref la, .ref ca, .int (nI nn), .ref aa, .ref na, .ref ya, .int (nI nr), .ref ta, .int be, .int bp, .long bo, .int bm])), (dT, .inl (cI, 64, .inl d)), (gT, .inl (cZ, 64, .inl g)), (la, .inl (cI, 8, .inl sl)), (ca, .inl (cI, 128, .inl cr)), (aa, .inl (cI, 16, .inl ak)), (na, .inl (cI, 16, .inl no)), (ya, .inl (cI, 16, .inl ye)), (ta, .inl (cI, 48, .inl tl))], rfl, Or.inr ⟨by first | (rw [cu_1 c_75]; decide) | (rw [cu_2 c_84]; decide) | (rw [cu_w c_75 c_84 (rw_1 c_2)]; decide) | (rw [cu_w c_75 c_84 (rw_2 c_14)]; decide) | (rw [cu_w c_75 c_84 (rw_3 c_28)]; decide) | (rw [cu_w c_75 c_84 (rw_4 c_43)]; decide) | (rw [cu_w c_75 c_84 (rw_5 c_58)]; decide) | (rw [cu_8 c_75 c_84 (rw_0 c_2 c_14 c_28 c_43 c_58) c_106]; decide), by first | rw [cu_1 c_75] | rw [cu_2 c_84] | rw [cu_w c_75 c_84 (rw_1 c_2)] | rw [cu_w c_75 c_84 (rw_2 c_14)] | rw [cu_w c_75 c_84 (rw_3 c_28)] | rw [cu_w c_75 c_84 (rw_4 c_43)] | rw [cu_w c_75 c_84 (rw_5 c_58)] | rw [cu_8 c_75 c_84 (rw_0 c_2 c_14 c_28 c_43 c_58) c_106]⟩, by rw [ht]; exact hP, va_K.moved hW.alike hK, hD⟩, hS.F ht⟩) hS.2.2 d_T_rule_125
                · exact absurd c_93 (by decide)
              · refine lv_iconst (v := 1) hx hb d_T_rule_87 (by decide) ?_
                refine lv_goto (tgt := 114) hx hb d_T_rule_88 (by decide) ?_
                refine va_put (D := D) (ci := 7) (v := .int 1) (ty := .int) (C := Q_T) (T := F_T) (N := 17) hx hb hg in_T tq_T tq_T_ok n_T hown hK hP hD hS 0 rfl rfl 0 (by decide) (hg _ g_639) (fun _ h9 => h9) rfl (by decide +kernel) rfl rfl (Nat.le_of_ble_eq_true rfl) d_T_rule_114 (fun H locs hP hD hS => ?_)
                have hP : va_P D cls [(o, .inr (7, [.int 1, .int (nI n), .ref dT, .ref gT, .int (nI ns), .ref la, .ref ca, .int (nI nn), .ref aa, .ref na, .ref ya, .int (nI nr), .ref ta, .int be, .int bp, .long bo, .int bm])), (dT, .inl (cI, 64, .inl d)), (gT, .inl (cZ, 64, .inl g)), (la, .inl (cI, 8, .inl sl)), (ca, .inl (cI, 128, .inl cr)), (aa, .inl (cI, 16, .inl ak)), (na, .inl (cI, 16, .inl no)), (ya, .inl (cI, 16, .inl ye)), (ta, .inl (cI, 48, .inl tl))] H := hP
                have hD : va_D A [(o, .inr (7, [.int 1, .int (nI n), .ref dT, .ref gT, .int (nI ns), .ref la, .ref ca, .int (nI nn), .ref aa, .ref na, .ref ya, .int (nI nr), .ref ta, .int be, .int bp, .long bo, .int bm])), (dT, .inl (cI, 64, .inl d)), (gT, .inl (cZ, 64, .inl g)), (la, .inl (cI, 8, .inl sl)), (ca, .inl (cI, 128, .inl cr)), (aa, .inl (cI, 16, .inl ak)), (na, .inl (cI, 16, .inl no)), (ya, .inl (cI, 16, .inl ye)), (ta, .inl (cI, 48, .inl tl))] := hD
                refine lv_aload_n hx hb d_T_rule_117 rfl (lv_at hl 1 rfl) ?_
                refine va_get (D := D) (ci := 7) (v := .int 1) (C := Q_T) (T := F_T) (N := 17) hx hb hg in_T hown hK hP 0 rfl rfl 0 (by decide) (hg _ g_639) (fun _ h9 => h9) rfl d_T_rule_118 ?_
                refine lv_if_le (tgt := 126) hx hb d_T_rule_121 (by decide) (fun c_121 => ?_) (fun c_121 => ?_)
                · exact absurd c_121 (by decide)
                · refine lv_iconst (v := 0) hx hb d_T_rule_124 (by decide) ?_
                  exact W.iret hx hb hr (fun t9 ht hW => ⟨⟨_, [(o, .inr (7, [.int 1, .int (nI n), .ref dT, .ref gT, .int (nI ns), .ref la, .ref ca, .int (nI nn), .ref aa, .ref na, .ref ya, .int (nI nr), .ref ta, .int be, .int bp, .long bo, .int bm])), (dT, .inl (cI, 64, .inl d)), (gT, .inl (cZ, 64, .inl g)), (la, .inl (cI, 8, .inl sl)), (ca, .inl (cI, 128, .inl cr)), (aa, .inl (cI, 16, .inl ak)), (na, .inl (cI, 16, .inl no)), (ya, .inl (cI, 16, .inl ye)), (ta, .inl (cI, 48, .inl tl))], rfl, Or.inr ⟨by first | (rw [cu_1 c_75]; decide) | (rw [cu_2 c_84]; decide) | (rw [cu_w c_75 c_84 (rw_1 c_2)]; decide) | (rw [cu_w c_75 c_84 (rw_2 c_14)]; decide) | (rw [cu_w c_75 c_84 (rw_3 c_28)]; decide) | (rw [cu_w c_75 c_84 (rw_4 c_43)]; decide) | (rw [cu_w c_75 c_84 (rw_5 c_58)]; decide) | (rw [cu_8 c_75 c_84 (rw_0 c_2 c_14 c_28 c_43 c_58) c_106]; decide), by first | rw [cu_1 c_75] | rw [cu_2 c_84] | rw [cu_w c_75 c_84 (rw_1 c_2)] | rw [cu_w c_75 c_84 (rw_2 c_14)] | rw [cu_w c_75 c_84 (rw_3 c_28)] | rw [cu_w c_75 c_84 (rw_4 c_43)] | rw [cu_w c_75 c_84 (rw_5 c_58)] | rw [cu_8 c_75 c_84 (rw_0 c_2 c_14 c_28 c_43 c_58) c_106]⟩, by rw [ht]; exact hP, va_K.moved hW.alike hK, hD⟩, hS.F ht⟩) hS.2.2 d_T_rule_125
          · refine lv_iconst (v := 1) hx hb d_T_rule_61 (by decide) ?_
            refine lv_goto (tgt := 66) hx hb d_T_rule_62 (by decide) ?_
            refine lv_istore (lv' := [(7, .int 1), (0, .ref o), (1, .int f), (2, .int t), (3, .int lo), (4, .int hi), (5, .int y), (6, .int un)]) hx hb d_T_rule_66 hl (by decide) rfl (fun ls hl => ?_)
            refine lv_aload_n hx hb d_T_rule_68 rfl (lv_at hl 1 rfl) ?_
            refine lv_aload_n hx hb d_T_rule_69 rfl (lv_at hl 1 rfl) ?_
            refine lv_iload_n hx hb d_T_rule_70 rfl (lv_at hl 2 rfl) ?_
            refine lv_i2l (v := f.toInt64) hx hb d_T_rule_71 rfl ?_
            refine vp_callSi (va_Run.run (va_runV (As := [.long f.toInt64]) (rest := [.ref o]) ⟨hx, hb, hml, hown, hg⟩ (c_T_isPlace_ok l D cI cZ cJ cO o dT gT la ca aa na ya ta n ns nn nr d g sl cr ak no ye tl th be bp bm bo h4 h64 hd f.toInt64) (cwV 1 hg (gv g_699 g_701 g_9 g_26 g_702) rfl rfl rfl (by decide +kernel) ⟨Nat.le_of_ble_eq_true rfl, Nat.le_of_ble_eq_true rfl⟩) (pV hP hK hN (va_recv hK hP (ci := 7) (q0 := 0) rfl rfl)) rfl rfl hl.1 rfl (lv_room (Nat.le_of_ble_eq_true rfl)) d_T_rule_72 ⟨Nat.zero_le _, Nat.zero_le _⟩)) (fun r_15 hr_15 => ?_)
            subst hr_15
            rw [hs64]
            refine lv_if_eq (tgt := 87) hx hb d_T_rule_75 (by decide) (fun c_75 => ?_) (fun c_75 => ?_)
            · refine lv_iconst (v := 1) hx hb d_T_rule_87 (by decide) ?_
              refine lv_goto (tgt := 114) hx hb d_T_rule_88 (by decide) ?_
              refine va_put (D := D) (ci := 7) (v := .int 1) (ty := .int) (C := Q_T) (T := F_T) (N := 17) hx hb hg in_T tq_T tq_T_ok n_T hown hK hP hD hS 0 rfl rfl 0 (by decide) (hg _ g_639) (fun _ h9 => h9) rfl (by decide +kernel) rfl rfl (Nat.le_of_ble_eq_true rfl) d_T_rule_114 (fun H locs hP hD hS => ?_)
              have hP : va_P D cls [(o, .inr (7, [.int 1, .int (nI n), .ref dT, .ref gT, .int (nI ns), .ref la, .ref ca, .int (nI nn), .ref aa, .ref na, .ref ya, .int (nI nr), .ref ta, .int be, .int bp, .long bo, .int bm])), (dT, .inl (cI, 64, .inl d)), (gT, .inl (cZ, 64, .inl g)), (la, .inl (cI, 8, .inl sl)), (ca, .inl (cI, 128, .inl cr)), (aa, .inl (cI, 16, .inl ak)), (na, .inl (cI, 16, .inl no)), (ya, .inl (cI, 16, .inl ye)), (ta, .inl (cI, 48, .inl tl))] H := hP
              have hD : va_D A [(o, .inr (7, [.int 1, .int (nI n), .ref dT, .ref gT, .int (nI ns), .ref la, .ref ca, .int (nI nn), .ref aa, .ref na, .ref ya, .int (nI nr), .ref ta, .int be, .int bp, .long bo, .int bm])), (dT, .inl (cI, 64, .inl d)), (gT, .inl (cZ, 64, .inl g)), (la, .inl (cI, 8, .inl sl)), (ca, .inl (cI, 128, .inl cr)), (aa, .inl (cI, 16, .inl ak)), (na, .inl (cI, 16, .inl no)), (ya, .inl (cI, 16, .inl ye)), (ta, .inl (cI, 48, .inl tl))] := hD
              refine lv_aload_n hx hb d_T_rule_117 rfl (lv_at hl 1 rfl) ?_
              refine va_get (D := D) (ci := 7) (v := .int 1) (C := Q_T) (T := F_T) (N := 17) hx hb hg in_T hown hK hP 0 rfl rfl 0 (by decide) (hg _ g_639) (fun _ h9 => h9) rfl d_T_rule_118 ?_
              refine lv_if_le (tgt := 126) hx hb d_T_rule_121 (by decide) (fun c_121 => ?_) (fun c_121 => ?_)
              · exact absurd c_121 (by decide)
              · refine lv_iconst (v := 0) hx hb d_T_rule_124 (by decide) ?_
                exact W.iret hx hb hr (fun t9 ht hW => ⟨⟨_, [(o, .inr (7, [.int 1, .int (nI n), .ref dT, .ref gT, .int (nI ns), .ref la, .ref ca, .int (nI nn), .ref aa, .ref na, .ref ya, .int (nI nr), .ref ta, .int be, .int bp, .long bo, .int bm])), (dT, .inl (cI, 64, .inl d)), (gT, .inl (cZ, 64, .inl g)), (la, .inl (cI, 8, .inl sl)), (ca, .inl (cI, 128, .inl cr)), (aa, .inl (cI, 16, .inl ak)), (na, .inl (cI, 16, .inl no)), (ya, .inl (cI, 16, .inl ye)), (ta, .inl (cI, 48, .inl tl))], rfl, Or.inr ⟨by first | (rw [cu_1 c_75]; decide) | (rw [cu_2 c_84]; decide) | (rw [cu_w c_75 c_84 (rw_1 c_2)]; decide) | (rw [cu_w c_75 c_84 (rw_2 c_14)]; decide) | (rw [cu_w c_75 c_84 (rw_3 c_28)]; decide) | (rw [cu_w c_75 c_84 (rw_4 c_43)]; decide) | (rw [cu_w c_75 c_84 (rw_5 c_58)]; decide) | (rw [cu_8 c_75 c_84 (rw_0 c_2 c_14 c_28 c_43 c_58) c_106]; decide), by first | rw [cu_1 c_75] | rw [cu_2 c_84] | rw [cu_w c_75 c_84 (rw_1 c_2)] | rw [cu_w c_75 c_84 (rw_2 c_14)] | rw [cu_w c_75 c_84 (rw_3 c_28)] | rw [cu_w c_75 c_84 (rw_4 c_43)] | rw [cu_w c_75 c_84 (rw_5 c_58)] | rw [cu_8 c_75 c_84 (rw_0 c_2 c_14 c_28 c_43 c_58) c_106]⟩, by rw [ht]; exact hP, va_K.moved hW.alike hK, hD⟩, hS.F ht⟩) hS.2.2 d_T_rule_125
            · refine lv_aload_n hx hb d_T_rule_78 rfl (lv_at hl 1 rfl) ?_
              refine lv_iload_n hx hb d_T_rule_79 rfl (lv_at hl 3 rfl) ?_
              refine lv_i2l (v := t.toInt64) hx hb d_T_rule_80 rfl ?_
              refine vp_callSi (va_Run.run (va_runV (As := [.long t.toInt64]) (rest := [.ref o]) ⟨hx, hb, hml, hown, hg⟩ (c_T_isPlace_ok l D cI cZ cJ cO o dT gT la ca aa na ya ta n ns nn nr d g sl cr ak no ye tl th be bp bm bo h4 h64 hd t.toInt64) (cwV 1 hg (gv g_699 g_701 g_9 g_26 g_702) rfl rfl rfl (by decide +kernel) ⟨Nat.le_of_ble_eq_true rfl, Nat.le_of_ble_eq_true rfl⟩) (pV hP hK hN (va_recv hK hP (ci := 7) (q0 := 0) rfl rfl)) rfl rfl hl.1 rfl (lv_room (Nat.le_of_ble_eq_true rfl)) d_T_rule_81 ⟨Nat.zero_le _, Nat.zero_le _⟩)) (fun r_16 hr_16 => ?_)
              subst hr_16
              rw [hs64]
              refine lv_if_ne (tgt := 91) hx hb d_T_rule_84 (by decide) (fun c_84 => ?_) (fun c_84 => ?_)
              · refine lv_iload hx hb d_T_rule_91 (lv_at hl 0 rfl) ?_
                refine lv_if_eq (tgt := 100) hx hb d_T_rule_93 (by decide) (fun c_93 => ?_) (fun c_93 => ?_)
                · exact absurd c_93 (by decide)
                · refine lv_iconst (v := 2) hx hb d_T_rule_96 (by decide) ?_
                  refine lv_goto (tgt := 114) hx hb d_T_rule_97 (by decide) ?_
                  refine va_put (D := D) (ci := 7) (v := .int 2) (ty := .int) (C := Q_T) (T := F_T) (N := 17) hx hb hg in_T tq_T tq_T_ok n_T hown hK hP hD hS 0 rfl rfl 0 (by decide) (hg _ g_639) (fun _ h9 => h9) rfl (by decide +kernel) rfl rfl (Nat.le_of_ble_eq_true rfl) d_T_rule_114 (fun H locs hP hD hS => ?_)
                  have hP : va_P D cls [(o, .inr (7, [.int 2, .int (nI n), .ref dT, .ref gT, .int (nI ns), .ref la, .ref ca, .int (nI nn), .ref aa, .ref na, .ref ya, .int (nI nr), .ref ta, .int be, .int bp, .long bo, .int bm])), (dT, .inl (cI, 64, .inl d)), (gT, .inl (cZ, 64, .inl g)), (la, .inl (cI, 8, .inl sl)), (ca, .inl (cI, 128, .inl cr)), (aa, .inl (cI, 16, .inl ak)), (na, .inl (cI, 16, .inl no)), (ya, .inl (cI, 16, .inl ye)), (ta, .inl (cI, 48, .inl tl))] H := hP
                  have hD : va_D A [(o, .inr (7, [.int 2, .int (nI n), .ref dT, .ref gT, .int (nI ns), .ref la, .ref ca, .int (nI nn), .ref aa, .ref na, .ref ya, .int (nI nr), .ref ta, .int be, .int bp, .long bo, .int bm])), (dT, .inl (cI, 64, .inl d)), (gT, .inl (cZ, 64, .inl g)), (la, .inl (cI, 8, .inl sl)), (ca, .inl (cI, 128, .inl cr)), (aa, .inl (cI, 16, .inl ak)), (na, .inl (cI, 16, .inl no)), (ya, .inl (cI, 16, .inl ye)), (ta, .inl (cI, 48, .inl tl))] := hD
                  refine lv_aload_n hx hb d_T_rule_117 rfl (lv_at hl 1 rfl) ?_
                  refine va_get (D := D) (ci := 7) (v := .int 2) (C := Q_T) (T := F_T) (N := 17) hx hb hg in_T hown hK hP 0 rfl rfl 0 (by decide) (hg _ g_639) (fun _ h9 => h9) rfl d_T_rule_118 ?_
                  refine lv_if_le (tgt := 126) hx hb d_T_rule_121 (by decide) (fun c_121 => ?_) (fun c_121 => ?_)
                  · exact absurd c_121 (by decide)
                  · refine lv_iconst (v := 0) hx hb d_T_rule_124 (by decide) ?_
                    exact W.iret hx hb hr (fun t9 ht hW => ⟨⟨_, [(o, .inr (7, [.int 2, .int (nI n), .ref dT, .ref gT, .int (nI ns), .ref la, .ref ca, .int (nI nn), .ref aa, .ref na, .ref ya, .int (nI nr), .ref ta, .int be, .int bp, .long bo, .int bm])), (dT, .inl (cI, 64, .inl d)), (gT, .inl (cZ, 64, .inl g)), (la, .inl (cI, 8, .inl sl)), (ca, .inl (cI, 128, .inl cr)), (aa, .inl (cI, 16, .inl ak)), (na, .inl (cI, 16, .inl no)), (ya, .inl (cI, 16, .inl ye)), (ta, .inl (cI, 48, .inl tl))], rfl, Or.inr ⟨by first | (rw [cu_1 c_75]; decide) | (rw [cu_2 c_84]; decide) | (rw [cu_w c_75 c_84 (rw_1 c_2)]; decide) | (rw [cu_w c_75 c_84 (rw_2 c_14)]; decide) | (rw [cu_w c_75 c_84 (rw_3 c_28)]; decide) | (rw [cu_w c_75 c_84 (rw_4 c_43)]; decide) | (rw [cu_w c_75 c_84 (rw_5 c_58)]; decide) | (rw [cu_8 c_75 c_84 (rw_0 c_2 c_14 c_28 c_43 c_58) c_106]; decide), by first | rw [cu_1 c_75] | rw [cu_2 c_84] | rw [cu_w c_75 c_84 (rw_1 c_2)] | rw [cu_w c_75 c_84 (rw_2 c_14)] | rw [cu_w c_75 c_84 (rw_3 c_28)] | rw [cu_w c_75 c_84 (rw_4 c_43)] | rw [cu_w c_75 c_84 (rw_5 c_58)] | rw [cu_8 c_75 c_84 (rw_0 c_2 c_14 c_28 c_43 c_58) c_106]⟩, by rw [ht]; exact hP, va_K.moved hW.alike hK, hD⟩, hS.F ht⟩) hS.2.2 d_T_rule_125
              · refine lv_iconst (v := 1) hx hb d_T_rule_87 (by decide) ?_
                refine lv_goto (tgt := 114) hx hb d_T_rule_88 (by decide) ?_
                refine va_put (D := D) (ci := 7) (v := .int 1) (ty := .int) (C := Q_T) (T := F_T) (N := 17) hx hb hg in_T tq_T tq_T_ok n_T hown hK hP hD hS 0 rfl rfl 0 (by decide) (hg _ g_639) (fun _ h9 => h9) rfl (by decide +kernel) rfl rfl (Nat.le_of_ble_eq_true rfl) d_T_rule_114 (fun H locs hP hD hS => ?_)
                have hP : va_P D cls [(o, .inr (7, [.int 1, .int (nI n), .ref dT, .ref gT, .int (nI ns), .ref la, .ref ca, .int (nI nn), .ref aa, .ref na, .ref ya, .int (nI nr), .ref ta, .int be, .int bp, .long bo, .int bm])), (dT, .inl (cI, 64, .inl d)), (gT, .inl (cZ, 64, .inl g)), (la, .inl (cI, 8, .inl sl)), (ca, .inl (cI, 128, .inl cr)), (aa, .inl (cI, 16, .inl ak)), (na, .inl (cI, 16, .inl no)), (ya, .inl (cI, 16, .inl ye)), (ta, .inl (cI, 48, .inl tl))] H := hP
                have hD : va_D A [(o, .inr (7, [.int 1, .int (nI n), .ref dT, .ref gT, .int (nI ns), .ref la, .ref ca, .int (nI nn), .ref aa, .ref na, .ref ya, .int (nI nr), .ref ta, .int be, .int bp, .long bo, .int bm])), (dT, .inl (cI, 64, .inl d)), (gT, .inl (cZ, 64, .inl g)), (la, .inl (cI, 8, .inl sl)), (ca, .inl (cI, 128, .inl cr)), (aa, .inl (cI, 16, .inl ak)), (na, .inl (cI, 16, .inl no)), (ya, .inl (cI, 16, .inl ye)), (ta, .inl (cI, 48, .inl tl))] := hD
                refine lv_aload_n hx hb d_T_rule_117 rfl (lv_at hl 1 rfl) ?_
                refine va_get (D := D) (ci := 7) (v := .int 1) (C := Q_T) (T := F_T) (N := 17) hx hb hg in_T hown hK hP 0 rfl rfl 0 (by decide) (hg _ g_639) (fun _ h9 => h9) rfl d_T_rule_118 ?_
                refine lv_if_le (tgt := 126) hx hb d_T_rule_121 (by decide) (fun c_121 => ?_) (fun c_121 => ?_)
                · exact absurd c_121 (by decide)
                · refine lv_iconst (v := 0) hx hb d_T_rule_124 (by decide) ?_
                  exact W.iret hx hb hr (fun t9 ht hW => ⟨⟨_, [(o, .inr (7, [.int 1, .int (nI n), .ref dT, .ref gT, .int (nI ns), .ref la, .ref ca, .int (nI nn), .ref aa, .ref na, .ref ya, .int (nI nr), .ref ta, .int be, .int bp, .long bo, .int bm])), (dT, .inl (cI, 64, .inl d)), (gT, .inl (cZ, 64, .inl g)), (la, .inl (cI, 8, .inl sl)), (ca, .inl (cI, 128, .inl cr)), (aa, .inl (cI, 16, .inl ak)), (na, .inl (cI, 16, .inl no)), (ya, .inl (cI, 16, .inl ye)), (ta, .inl (cI, 48, .inl tl))], rfl, Or.inr ⟨by first | (rw [cu_1 c_75]; decide) | (rw [cu_2 c_84]; decide) | (rw [cu_w c_75 c_84 (rw_1 c_2)]; decide) | (rw [cu_w c_75 c_84 (rw_2 c_14)]; decide) | (rw [cu_w c_75 c_84 (rw_3 c_28)]; decide) | (rw [cu_w c_75 c_84 (rw_4 c_43)]; decide) | (rw [cu_w c_75 c_84 (rw_5 c_58)]; decide) | (rw [cu_8 c_75 c_84 (rw_0 c_2 c_14 c_28 c_43 c_58) c_106]; decide), by first | rw [cu_1 c_75] | rw [cu_2 c_84] | rw [cu_w c_75 c_84 (rw_1 c_2)] | rw [cu_w c_75 c_84 (rw_2 c_14)] | rw [cu_w c_75 c_84 (rw_3 c_28)] | rw [cu_w c_75 c_84 (rw_4 c_43)] | rw [cu_w c_75 c_84 (rw_5 c_58)] | rw [cu_8 c_75 c_84 (rw_0 c_2 c_14 c_28 c_43 c_58) c_106]⟩, by rw [ht]; exact hP, va_K.moved hW.alike hK, hD⟩, hS.F ht⟩) hS.2.2 d_T_rule_125

set_option maxHeartbeats 4000000 in
set_option maxRecDepth 100000 in
/-- the reference: age(w) -/
theorem c_T_age_ok (l : Launch) (D : va_G) (cI cZ cJ cO : ClassId) (sz : Nat) (o dT gT la ca aa na ya ta : Nat) (n ns nn nr : Nat) (d g sl cr ak no ye tl : Nat → Int32) (th be bp bm : Int32) (bo : Int64) (h4 : 4 ≤ n) (h64 : n ≤ 64) (hd : dOK n d) (w9 : Int32) (hnr : nr ≤ 8) (huOK : uOK n nr tl) : Met l y_T_age (wq y_T_age c_T_age 6 (some .int)) ({ frames := 2, cells := 0, slots := 0, locals := 48 }) (mP D (TY cI cZ cJ cO) [(o, .inr (7, [.int th, .int (nI n), .ref dT, .ref gT, .int (nI ns), .ref la, .ref ca, .int (nI nn), .ref aa, .ref na, .ref ya, .int (nI nr), .ref ta, .int be, .int bp, .long bo, .int bm])), (dT, .inl (cI, 64, .inl d)), (gT, .inl (cZ, 64, .inl g)), (la, .inl (cI, 8, .inl sl)), (ca, .inl (cI, 128, .inl cr)), (aa, .inl (cI, 16, .inl ak)), (na, .inl (cI, 16, .inl no)), (ya, .inl (cI, 16, .inl ye)), (ta, .inl (cI, 48, .inl tl))] [.ref o, .int w9] sz) (va_Qi (fun (r : Int32) (u : va_W) => ((cAge w9 (agT n d tl nr) = 0 ∧ u = [(o, .inr (7, [.int 0, .int (nI n), .ref dT, .ref gT, .int (nI ns), .ref la, .ref ca, .int (nI nn), .ref aa, .ref na, .ref ya, .int (nI nr), .ref ta, .int be, .int bp, .long bo, .int bm])), (dT, .inl (cI, 64, .inl d)), (gT, .inl (cZ, 64, .inl g)), (la, .inl (cI, 8, .inl sl)), (ca, .inl (cI, 128, .inl cr)), (aa, .inl (cI, 16, .inl ak)), (na, .inl (cI, 16, .inl no)), (ya, .inl (cI, 16, .inl ye)), (ta, .inl (cI, 48, .inl tl))] ∧ r = if w9 = 0 then (agT n d tl nr).2.1 else (agT n d tl nr).2.2) ∨ (¬ cAge w9 (agT n d tl nr) = 0 ∧ u = [(o, .inr (7, [.int (cAge w9 (agT n d tl nr)), .int (nI n), .ref dT, .ref gT, .int (nI ns), .ref la, .ref ca, .int (nI nn), .ref aa, .ref na, .ref ya, .int (nI nr), .ref ta, .int be, .int bp, .long bo, .int bm])), (dT, .inl (cI, 64, .inl d)), (gT, .inl (cZ, 64, .inl g)), (la, .inl (cI, 8, .inl sl)), (ca, .inl (cI, 128, .inl cr)), (aa, .inl (cI, 16, .inl ak)), (na, .inl (cI, 16, .inl no)), (ya, .inl (cI, 16, .inl ye)), (ta, .inl (cI, 48, .inl tl))]))) (mB D (TY cI cZ cJ cO) (va_A [(o, .inr (7, [.int th, .int (nI n), .ref dT, .ref gT, .int (nI ns), .ref la, .ref ca, .int (nI nn), .ref aa, .ref na, .ref ya, .int (nI nr), .ref ta, .int be, .int bp, .long bo, .int bm])), (dT, .inl (cI, 64, .inl d)), (gT, .inl (cZ, 64, .inl g)), (la, .inl (cI, 8, .inl sl)), (ca, .inl (cI, 128, .inl cr)), (aa, .inl (cI, 16, .inl ak)), (na, .inl (cI, 16, .inl no)), (ya, .inl (cI, 16, .inl ye)), (ta, .inl (cI, 48, .inl tl))] sz)) (va_A [(o, .inr (7, [.int th, .int (nI n), .ref dT, .ref gT, .int (nI ns), .ref la, .ref ca, .int (nI nn), .ref aa, .ref na, .ref ya, .int (nI nr), .ref ta, .int be, .int bp, .long bo, .int bm])), (dT, .inl (cI, 64, .inl d)), (gT, .inl (cZ, 64, .inl g)), (la, .inl (cI, 8, .inl sl)), (ca, .inl (cI, 128, .inl cr)), (aa, .inl (cI, 16, .inl ak)), (na, .inl (cI, 16, .inl no)), (ya, .inl (cI, 16, .inl ye)), (ta, .inl (cI, 48, .inl tl))] sz)) 0 0 (va_A [(o, .inr (7, [.int th, .int (nI n), .ref dT, .ref gT, .int (nI ns), .ref la, .ref ca, .int (nI nn), .ref aa, .ref na, .ref ya, .int (nI nr), .ref ta, .int be, .int bp, .long bo, .int bm])), (dT, .inl (cI, 64, .inl d)), (gT, .inl (cZ, 64, .inl g)), (la, .inl (cI, 8, .inl sl)), (ca, .inl (cI, 128, .inl cr)), (aa, .inl (cI, 16, .inl ak)), (na, .inl (cI, 16, .inl no)), (ya, .inl (cI, 16, .inl ye)), (ta, .inl (cI, 48, .inl tl))] sz) := by
  refine Met.ofW (cc := c_T_age) (maxL := 6) (ret := (some .int)) (by decide) rfl ?_
  intro p e s m args below meth c s₁ B hml hv
  obtain ⟨rfl, hsz, hP, hK, hD0, hN⟩ := hv
  have hx := B.exec
  have hb := B.bytes
  have hr := B.returns
  have hg := gt_h (atoms_spec (ws := (wq y_T_age c_T_age 6 (some .int))) B.pre)
  have hown : s.vm.findClass "RubbingMirrorsModel" = some m.cls := findClass_of_methodNamed B.named
  have hlocks := B.notSynchronized
  subst hsz
  have hD := hD0.self (sz := s.heap.size)
  generalize hAe : va_A [(o, .inr (7, [.int th, .int (nI n), .ref dT, .ref gT, .int (nI ns), .ref la, .ref ca, .int (nI nn), .ref aa, .ref na, .ref ya, .int (nI nr), .ref ta, .int be, .int bp, .long bo, .int bm])), (dT, .inl (cI, 64, .inl d)), (gT, .inl (cZ, 64, .inl g)), (la, .inl (cI, 8, .inl sl)), (ca, .inl (cI, 128, .inl cr)), (aa, .inl (cI, 16, .inl ak)), (na, .inl (cI, 16, .inl no)), (ya, .inl (cI, 16, .inl ye)), (ta, .inl (cI, 48, .inl tl))] s.heap.size = A at hD ⊢
  have hA : ∀ q : Nat, s.heap.size ≤ q → A q := fun q h => by rw [← hAe]; exact Or.inr h
  have hS : va_S A s.heap s.heap [] := va_S.rf
  have hl := lv_entry ([.ref o, .int w9]) (n := 6) (Nat.le_of_ble_eq_true rfl)
  rw [lg_entry_eq]
  generalize (lg_sl ([.ref o, .int w9]) ++ List.replicate (6 - (lg_sl ([.ref o, .int w9])).length) Slot.unset).toArray = ls at hl ⊢
  have hl : lv_has ls 6 [(0, .ref o), (1, .int w9)] := hl
  refine lv_sipush (v := (-20000)) hx hb d_T_age_0 (by decide) ?_
  refine lv_istore_n (lv' := [(2, .int (-20000)), (0, .ref o), (1, .int w9)]) hx hb d_T_age_3 rfl hl (by decide) rfl (fun ls hl => ?_)
  refine lv_sipush (v := 20000) hx hb d_T_age_4 (by decide) ?_
  refine lv_istore_n (lv' := [(3, .int 20000), (2, .int (-20000)), (0, .ref o), (1, .int w9)]) hx hb d_T_age_7 rfl hl (by decide) rfl (fun ls hl => ?_)
  refine lv_iconst (v := 0) hx hb d_T_age_8 (by decide) ?_
  refine lv_istore (lv' := [(4, .int 0), (3, .int 20000), (2, .int (-20000)), (0, .ref o), (1, .int w9)]) hx hb d_T_age_9 hl (by decide) rfl (fun ls hl => ?_)
  refine lv_iconst (v := 0) hx hb d_T_age_11 (by decide) ?_
  refine lv_istore (lv' := [(5, .int 0), (4, .int 0), (3, .int 20000), (2, .int (-20000)), (0, .ref o), (1, .int w9)]) hx hb d_T_age_12 hl (by decide) rfl (fun ls hl => ?_)
  have loop_14 : ∀ (f14 : Nat) (j : Nat) (x2 : Int32) (x3 : Int32) (x4 : Int32) (x5 : Int32) (ls : Array Slot), (j ≤ nr ∧ nr < j + f14 ∧ x5 = nI j ∧ (x4, x2, x3) = agT n d tl j) → lv_has ls 6 [(0, .ref o), (1, .int w9), (2, .int x2), (3, .int x3), (4, .int x4), (5, .int x5)] → W p l e (headSpec (wq y_T_age c_T_age 6 (some .int)) ({ frames := 2, cells := 0, slots := 0, locals := 48 })).room s m ([.ref o, .int w9] : List Value).toArray below meth c s.heap [] 0 0 (MQ below (va_Qi (fun (r : Int32) (u : va_W) => ((cAge w9 (agT n d tl nr) = 0 ∧ u = [(o, .inr (7, [.int 0, .int (nI n), .ref dT, .ref gT, .int (nI ns), .ref la, .ref ca, .int (nI nn), .ref aa, .ref na, .ref ya, .int (nI nr), .ref ta, .int be, .int bp, .long bo, .int bm])), (dT, .inl (cI, 64, .inl d)), (gT, .inl (cZ, 64, .inl g)), (la, .inl (cI, 8, .inl sl)), (ca, .inl (cI, 128, .inl cr)), (aa, .inl (cI, 16, .inl ak)), (na, .inl (cI, 16, .inl no)), (ya, .inl (cI, 16, .inl ye)), (ta, .inl (cI, 48, .inl tl))] ∧ r = if w9 = 0 then (agT n d tl nr).2.1 else (agT n d tl nr).2.2) ∨ (¬ cAge w9 (agT n d tl nr) = 0 ∧ u = [(o, .inr (7, [.int (cAge w9 (agT n d tl nr)), .int (nI n), .ref dT, .ref gT, .int (nI ns), .ref la, .ref ca, .int (nI nn), .ref aa, .ref na, .ref ya, .int (nI nr), .ref ta, .int be, .int bp, .long bo, .int bm])), (dT, .inl (cI, 64, .inl d)), (gT, .inl (cZ, 64, .inl g)), (la, .inl (cI, 8, .inl sl)), (ca, .inl (cI, 128, .inl cr)), (aa, .inl (cI, 16, .inl ak)), (na, .inl (cI, 16, .inl no)), (ya, .inl (cI, 16, .inl ye)), (ta, .inl (cI, 48, .inl tl))]))) (mB D (TY cI cZ cJ cO) A) A) ([.ref o, .int w9] : List Value).toArray s 0 0 A) (F0 m 14 ls []) := by
    intro f14
    induction f14 with
    | zero =>
      intro j x2 x3 x4 x5 ls hI hl
      obtain ⟨hj1, hj2, rfl, hq⟩ := hI
      omega
    | succ f14 ih14 =>
      intro j x2 x3 x4 x5 ls hI hl
      obtain ⟨hj1, hj2, rfl, hq⟩ := hI
      refine lv_iload hx hb d_T_age_14 (lv_at hl 5 rfl) ?_
      refine lv_aload_n hx hb d_T_age_16 rfl (lv_at hl 0 rfl) ?_
      refine va_get (D := D) (ci := 7) (v := .int (nI nr)) (C := Q_T) (T := F_T) (N := 17) hx hb hg in_T hown hK hP 0 rfl rfl 11 (by decide) (hg _ g_650) (fun _ h9 => h9) rfl d_T_age_17 ?_
      refine lv_icmp_ge (tgt := 107) hx hb d_T_age_20 (by decide) (fun c_20 => ?_) (fun c_20 => ?_)
      · refine lv_aload_n hx hb d_T_age_107 rfl (lv_at hl 0 rfl) ?_
        refine lv_iload_n hx hb d_T_age_108 rfl (lv_at hl 1 rfl) ?_
        refine lv_i2l (v := w9.toInt64) hx hb d_T_age_109 rfl ?_
        refine lv_lconst (v := 0) hx hb d_T_age_110 (by decide) ?_
        refine lv_lconst (v := 1) hx hb d_T_age_111 (by decide) ?_
        refine vp_callSi (va_Run.run (va_runS (As := [.long w9.toInt64, .long 0, .long 1]) (rest := [.ref o]) ⟨hx, hb, hml, hown, hg⟩ (c_T_isIn_ok l D cI cZ cJ cO w9.toInt64 0 1) (va_cwS 3 hg (gs2 g_703 g_704 g_26 g_705) rfl rfl rfl (by decide +kernel) ⟨Nat.le_of_ble_eq_true rfl, Nat.le_of_ble_eq_true rfl⟩) (pS ba_nil hK hN) rfl rfl hl.1 rfl (lv_room (Nat.le_of_ble_eq_true rfl)) d_T_age_112 ⟨Nat.zero_le _, Nat.zero_le _⟩)) (fun r_1 hr_1 => ?_)
        subst hr_1
        rw [lw_c (v := w9) (lo := 0) (hi := 1) (by decide) (by decide)]
        refine lv_if_ne (tgt := 122) hx hb d_T_age_115 (by decide) (fun c_115 => ?_) (fun c_115 => ?_)
        · refine lv_iload hx hb d_T_age_122 (lv_at hl 4 rfl) ?_
          refine lv_if_eq (tgt := 132) hx hb d_T_age_124 (by decide) (fun c_124 => ?_) (fun c_124 => ?_)
          · refine lv_iconst (v := 2) hx hb d_T_age_132 (by decide) ?_
            refine lv_goto (tgt := 137) hx hb d_T_age_133 (by decide) ?_
            refine va_put (D := D) (ci := 7) (v := .int 2) (ty := .int) (C := Q_T) (T := F_T) (N := 17) hx hb hg in_T tq_T tq_T_ok n_T hown hK hP hD hS 0 rfl rfl 0 (by decide) (hg _ g_639) (fun _ h9 => h9) rfl (by decide +kernel) rfl rfl (Nat.le_of_ble_eq_true rfl) d_T_age_137 (fun H locs hP hD hS => ?_)
            have hP : va_P D cls [(o, .inr (7, [.int 2, .int (nI n), .ref dT, .ref gT, .int (nI ns), .ref la, .ref ca, .int (nI nn), .ref aa, .ref na, .ref ya, .int (nI nr), .ref ta, .int be, .int bp, .long bo, .int bm])), (dT, .inl (cI, 64, .inl d)), (gT, .inl (cZ, 64, .inl g)), (la, .inl (cI, 8, .inl sl)), (ca, .inl (cI, 128, .inl cr)), (aa, .inl (cI, 16, .inl ak)), (na, .inl (cI, 16, .inl no)), (ya, .inl (cI, 16, .inl ye)), (ta, .inl (cI, 48, .inl tl))] H := hP
            have hD : va_D A [(o, .inr (7, [.int 2, .int (nI n), .ref dT, .ref gT, .int (nI ns), .ref la, .ref ca, .int (nI nn), .ref aa, .ref na, .ref ya, .int (nI nr), .ref ta, .int be, .int bp, .long bo, .int bm])), (dT, .inl (cI, 64, .inl d)), (gT, .inl (cZ, 64, .inl g)), (la, .inl (cI, 8, .inl sl)), (ca, .inl (cI, 128, .inl cr)), (aa, .inl (cI, 16, .inl ak)), (na, .inl (cI, 16, .inl no)), (ya, .inl (cI, 16, .inl ye)), (ta, .inl (cI, 48, .inl tl))] := hD
            refine lv_aload_n hx hb d_T_age_140 rfl (lv_at hl 0 rfl) ?_
            refine va_get (D := D) (ci := 7) (v := .int 2) (C := Q_T) (T := F_T) (N := 17) hx hb hg in_T hown hK hP 0 rfl rfl 0 (by decide) (hg _ g_639) (fun _ h9 => h9) rfl d_T_age_141 ?_
            refine lv_if_le (tgt := 151) hx hb d_T_age_144 (by decide) (fun c_144 => ?_) (fun c_144 => ?_)
            · exact absurd c_144 (by decide)
            · refine lv_iconst (v := 0) hx hb d_T_age_147 (by decide) ?_
              refine lv_goto (tgt := 160) hx hb d_T_age_148 (by decide) ?_
              exact W.iret hx hb hr (fun t9 ht hW => ⟨⟨_, [(o, .inr (7, [.int 2, .int (nI n), .ref dT, .ref gT, .int (nI ns), .ref la, .ref ca, .int (nI nn), .ref aa, .ref na, .ref ya, .int (nI nr), .ref ta, .int be, .int bp, .long bo, .int bm])), (dT, .inl (cI, 64, .inl d)), (gT, .inl (cZ, 64, .inl g)), (la, .inl (cI, 8, .inl sl)), (ca, .inl (cI, 128, .inl cr)), (aa, .inl (cI, 16, .inl ak)), (na, .inl (cI, 16, .inl no)), (ya, .inl (cI, 16, .inl ye)), (ta, .inl (cI, 48, .inl tl))], rfl, (by rw [gj_out (by omega) hj1 c_20] at hq; rw [← hq]; exact Or.inr ⟨by first | (rw [cg_1 c_115]; decide) | (rw [cg_2 c_115 c_124]; decide) | (rw [cg_3 c_115 c_129]; decide), by first | rw [cg_1 c_115] | rw [cg_2 c_115 c_124] | rw [cg_3 c_115 c_129]⟩), by rw [ht]; exact hP, va_K.moved hW.alike hK, hD⟩, hS.F ht⟩) hS.2.2 d_T_age_160
          · refine lv_iload_n hx hb d_T_age_127 rfl (lv_at hl 2 rfl) ?_
            refine lv_iload_n hx hb d_T_age_128 rfl (lv_at hl 3 rfl) ?_
            refine lv_icmp_le (tgt := 136) hx hb d_T_age_129 (by decide) (fun c_129 => ?_) (fun c_129 => ?_)
            · refine lv_iconst (v := 0) hx hb d_T_age_136 (by decide) ?_
              refine va_put (D := D) (ci := 7) (v := .int 0) (ty := .int) (C := Q_T) (T := F_T) (N := 17) hx hb hg in_T tq_T tq_T_ok n_T hown hK hP hD hS 0 rfl rfl 0 (by decide) (hg _ g_639) (fun _ h9 => h9) rfl (by decide +kernel) rfl rfl (Nat.le_of_ble_eq_true rfl) d_T_age_137 (fun H locs hP hD hS => ?_)
              have hP : va_P D cls [(o, .inr (7, [.int 0, .int (nI n), .ref dT, .ref gT, .int (nI ns), .ref la, .ref ca, .int (nI nn), .ref aa, .ref na, .ref ya, .int (nI nr), .ref ta, .int be, .int bp, .long bo, .int bm])), (dT, .inl (cI, 64, .inl d)), (gT, .inl (cZ, 64, .inl g)), (la, .inl (cI, 8, .inl sl)), (ca, .inl (cI, 128, .inl cr)), (aa, .inl (cI, 16, .inl ak)), (na, .inl (cI, 16, .inl no)), (ya, .inl (cI, 16, .inl ye)), (ta, .inl (cI, 48, .inl tl))] H := hP
              have hD : va_D A [(o, .inr (7, [.int 0, .int (nI n), .ref dT, .ref gT, .int (nI ns), .ref la, .ref ca, .int (nI nn), .ref aa, .ref na, .ref ya, .int (nI nr), .ref ta, .int be, .int bp, .long bo, .int bm])), (dT, .inl (cI, 64, .inl d)), (gT, .inl (cZ, 64, .inl g)), (la, .inl (cI, 8, .inl sl)), (ca, .inl (cI, 128, .inl cr)), (aa, .inl (cI, 16, .inl ak)), (na, .inl (cI, 16, .inl no)), (ya, .inl (cI, 16, .inl ye)), (ta, .inl (cI, 48, .inl tl))] := hD
              refine lv_aload_n hx hb d_T_age_140 rfl (lv_at hl 0 rfl) ?_
              refine va_get (D := D) (ci := 7) (v := .int 0) (C := Q_T) (T := F_T) (N := 17) hx hb hg in_T hown hK hP 0 rfl rfl 0 (by decide) (hg _ g_639) (fun _ h9 => h9) rfl d_T_age_141 ?_
              refine lv_if_le (tgt := 151) hx hb d_T_age_144 (by decide) (fun c_144 => ?_) (fun c_144 => ?_)
              · refine lv_iload_n hx hb d_T_age_151 rfl (lv_at hl 1 rfl) ?_
                refine lv_if_ne (tgt := 159) hx hb d_T_age_152 (by decide) (fun c_152 => ?_) (fun c_152 => ?_)
                · refine lv_iload_n hx hb d_T_age_159 rfl (lv_at hl 3 rfl) ?_
                  exact W.iret hx hb hr (fun t9 ht hW => ⟨⟨_, [(o, .inr (7, [.int 0, .int (nI n), .ref dT, .ref gT, .int (nI ns), .ref la, .ref ca, .int (nI nn), .ref aa, .ref na, .ref ya, .int (nI nr), .ref ta, .int be, .int bp, .long bo, .int bm])), (dT, .inl (cI, 64, .inl d)), (gT, .inl (cZ, 64, .inl g)), (la, .inl (cI, 8, .inl sl)), (ca, .inl (cI, 128, .inl cr)), (aa, .inl (cI, 16, .inl ak)), (na, .inl (cI, 16, .inl no)), (ya, .inl (cI, 16, .inl ye)), (ta, .inl (cI, 48, .inl tl))], rfl, (by rw [gj_out (by omega) hj1 c_20] at hq; rw [← hq]; exact Or.inl ⟨cg_0 c_115 c_124 c_129, rfl, by first | rw [if_pos c_152] | rw [if_neg c_152]⟩), by rw [ht]; exact hP, va_K.moved hW.alike hK, hD⟩, hS.F ht⟩) hS.2.2 d_T_age_160
                · refine lv_iload_n hx hb d_T_age_155 rfl (lv_at hl 2 rfl) ?_
                  refine lv_goto (tgt := 160) hx hb d_T_age_156 (by decide) ?_
                  exact W.iret hx hb hr (fun t9 ht hW => ⟨⟨_, [(o, .inr (7, [.int 0, .int (nI n), .ref dT, .ref gT, .int (nI ns), .ref la, .ref ca, .int (nI nn), .ref aa, .ref na, .ref ya, .int (nI nr), .ref ta, .int be, .int bp, .long bo, .int bm])), (dT, .inl (cI, 64, .inl d)), (gT, .inl (cZ, 64, .inl g)), (la, .inl (cI, 8, .inl sl)), (ca, .inl (cI, 128, .inl cr)), (aa, .inl (cI, 16, .inl ak)), (na, .inl (cI, 16, .inl no)), (ya, .inl (cI, 16, .inl ye)), (ta, .inl (cI, 48, .inl tl))], rfl, (by rw [gj_out (by omega) hj1 c_20] at hq; rw [← hq]; exact Or.inl ⟨cg_0 c_115 c_124 c_129, rfl, by first | rw [if_pos c_152] | rw [if_neg c_152]⟩), by rw [ht]; exact hP, va_K.moved hW.alike hK, hD⟩, hS.F ht⟩) hS.2.2 d_T_age_160
              · exact absurd c_144 (by decide)
            · refine lv_iconst (v := 2) hx hb d_T_age_132 (by decide) ?_
              refine lv_goto (tgt := 137) hx hb d_T_age_133 (by decide) ?_
              refine va_put (D := D) (ci := 7) (v := .int 2) (ty := .int) (C := Q_T) (T := F_T) (N := 17) hx hb hg in_T tq_T tq_T_ok n_T hown hK hP hD hS 0 rfl rfl 0 (by decide) (hg _ g_639) (fun _ h9 => h9) rfl (by decide +kernel) rfl rfl (Nat.le_of_ble_eq_true rfl) d_T_age_137 (fun H locs hP hD hS => ?_)
              have hP : va_P D cls [(o, .inr (7, [.int 2, .int (nI n), .ref dT, .ref gT, .int (nI ns), .ref la, .ref ca, .int (nI nn), .ref aa, .ref na, .ref ya, .int (nI nr), .ref ta, .int be, .int bp, .long bo, .int bm])), (dT, .inl (cI, 64, .inl d)), (gT, .inl (cZ, 64, .inl g)), (la, .inl (cI, 8, .inl sl)), (ca, .inl (cI, 128, .inl cr)), (aa, .inl (cI, 16, .inl ak)), (na, .inl (cI, 16, .inl no)), (ya, .inl (cI, 16, .inl ye)), (ta, .inl (cI, 48, .inl tl))] H := hP
              have hD : va_D A [(o, .inr (7, [.int 2, .int (nI n), .ref dT, .ref gT, .int (nI ns), .ref la, .ref ca, .int (nI nn), .ref aa, .ref na, .ref ya, .int (nI nr), .ref ta, .int be, .int bp, .long bo, .int bm])), (dT, .inl (cI, 64, .inl d)), (gT, .inl (cZ, 64, .inl g)), (la, .inl (cI, 8, .inl sl)), (ca, .inl (cI, 128, .inl cr)), (aa, .inl (cI, 16, .inl ak)), (na, .inl (cI, 16, .inl no)), (ya, .inl (cI, 16, .inl ye)), (ta, .inl (cI, 48, .inl tl))] := hD
              refine lv_aload_n hx hb d_T_age_140 rfl (lv_at hl 0 rfl) ?_
              refine va_get (D := D) (ci := 7) (v := .int 2) (C := Q_T) (T := F_T) (N := 17) hx hb hg in_T hown hK hP 0 rfl rfl 0 (by decide) (hg _ g_639) (fun _ h9 => h9) rfl d_T_age_141 ?_
              refine lv_if_le (tgt := 151) hx hb d_T_age_144 (by decide) (fun c_144 => ?_) (fun c_144 => ?_)
              · exact absurd c_144 (by decide)
              · refine lv_iconst (v := 0) hx hb d_T_age_147 (by decide) ?_
                refine lv_goto (tgt := 160) hx hb d_T_age_148 (by decide) ?_
                exact W.iret hx hb hr (fun t9 ht hW => ⟨⟨_, [(o, .inr (7, [.int 2, .int (nI n), .ref dT, .ref gT, .int (nI ns), .ref la, .ref ca, .int (nI nn), .ref aa, .ref na, .ref ya, .int (nI nr), .ref ta, .int be, .int bp, .long bo, .int bm])), (dT, .inl (cI, 64, .inl d)), (gT, .inl (cZ, 64, .inl g)), (la, .inl (cI, 8, .inl sl)), (ca, .inl (cI, 128, .inl cr)), (aa, .inl (cI, 16, .inl ak)), (na, .inl (cI, 16, .inl no)), (ya, .inl (cI, 16, .inl ye)), (ta, .inl (cI, 48, .inl tl))], rfl, (by rw [gj_out (by omega) hj1 c_20] at hq; rw [← hq]; exact Or.inr ⟨by first | (rw [cg_1 c_115]; decide) | (rw [cg_2 c_115 c_124]; decide) | (rw [cg_3 c_115 c_129]; decide), by first | rw [cg_1 c_115] | rw [cg_2 c_115 c_124] | rw [cg_3 c_115 c_129]⟩), by rw [ht]; exact hP, va_K.moved hW.alike hK, hD⟩, hS.F ht⟩) hS.2.2 d_T_age_160
        · refine lv_iconst (v := 1) hx hb d_T_age_118 (by decide) ?_
          refine lv_goto (tgt := 137) hx hb d_T_age_119 (by decide) ?_
          refine va_put (D := D) (ci := 7) (v := .int 1) (ty := .int) (C := Q_T) (T := F_T) (N := 17) hx hb hg in_T tq_T tq_T_ok n_T hown hK hP hD hS 0 rfl rfl 0 (by decide) (hg _ g_639) (fun _ h9 => h9) rfl (by decide +kernel) rfl rfl (Nat.le_of_ble_eq_true rfl) d_T_age_137 (fun H locs hP hD hS => ?_)
          have hP : va_P D cls [(o, .inr (7, [.int 1, .int (nI n), .ref dT, .ref gT, .int (nI ns), .ref la, .ref ca, .int (nI nn), .ref aa, .ref na, .ref ya, .int (nI nr), .ref ta, .int be, .int bp, .long bo, .int bm])), (dT, .inl (cI, 64, .inl d)), (gT, .inl (cZ, 64, .inl g)), (la, .inl (cI, 8, .inl sl)), (ca, .inl (cI, 128, .inl cr)), (aa, .inl (cI, 16, .inl ak)), (na, .inl (cI, 16, .inl no)), (ya, .inl (cI, 16, .inl ye)), (ta, .inl (cI, 48, .inl tl))] H := hP
          have hD : va_D A [(o, .inr (7, [.int 1, .int (nI n), .ref dT, .ref gT, .int (nI ns), .ref la, .ref ca, .int (nI nn), .ref aa, .ref na, .ref ya, .int (nI nr), .ref ta, .int be, .int bp, .long bo, .int bm])), (dT, .inl (cI, 64, .inl d)), (gT, .inl (cZ, 64, .inl g)), (la, .inl (cI, 8, .inl sl)), (ca, .inl (cI, 128, .inl cr)), (aa, .inl (cI, 16, .inl ak)), (na, .inl (cI, 16, .inl no)), (ya, .inl (cI, 16, .inl ye)), (ta, .inl (cI, 48, .inl tl))] := hD
          refine lv_aload_n hx hb d_T_age_140 rfl (lv_at hl 0 rfl) ?_
          refine va_get (D := D) (ci := 7) (v := .int 1) (C := Q_T) (T := F_T) (N := 17) hx hb hg in_T hown hK hP 0 rfl rfl 0 (by decide) (hg _ g_639) (fun _ h9 => h9) rfl d_T_age_141 ?_
          refine lv_if_le (tgt := 151) hx hb d_T_age_144 (by decide) (fun c_144 => ?_) (fun c_144 => ?_)
          · exact absurd c_144 (by decide)
          · refine lv_iconst (v := 0) hx hb d_T_age_147 (by decide) ?_
            refine lv_goto (tgt := 160) hx hb d_T_age_148 (by decide) ?_
            exact W.iret hx hb hr (fun t9 ht hW => ⟨⟨_, [(o, .inr (7, [.int 1, .int (nI n), .ref dT, .ref gT, .int (nI ns), .ref la, .ref ca, .int (nI nn), .ref aa, .ref na, .ref ya, .int (nI nr), .ref ta, .int be, .int bp, .long bo, .int bm])), (dT, .inl (cI, 64, .inl d)), (gT, .inl (cZ, 64, .inl g)), (la, .inl (cI, 8, .inl sl)), (ca, .inl (cI, 128, .inl cr)), (aa, .inl (cI, 16, .inl ak)), (na, .inl (cI, 16, .inl no)), (ya, .inl (cI, 16, .inl ye)), (ta, .inl (cI, 48, .inl tl))], rfl, (by rw [gj_out (by omega) hj1 c_20] at hq; rw [← hq]; exact Or.inr ⟨by first | (rw [cg_1 c_115]; decide) | (rw [cg_2 c_115 c_124]; decide) | (rw [cg_3 c_115 c_129]; decide), by first | rw [cg_1 c_115] | rw [cg_2 c_115 c_124] | rw [cg_3 c_115 c_129]⟩), by rw [ht]; exact hP, va_K.moved hW.alike hK, hD⟩, hS.F ht⟩) hS.2.2 d_T_age_160
      · obtain ⟨F, T, hF, hT, hFT, hTn, hlo⟩ := huOK j (gj_in (by omega) hj1 c_20)
        refine lv_aload_n hx hb d_T_age_23 rfl (lv_at hl 0 rfl) ?_
        refine lv_iload hx hb d_T_age_24 (lv_at hl 5 rfl) ?_
        refine vp_callSi (va_Run.run (va_runV (As := [.int (nI j)]) (rest := []) ⟨hx, hb, hml, hown, hg⟩ (c_T_holds_ok l D cI cZ cJ cO o dT gT la ca aa na ya ta n ns nn nr d g sl cr ak no ye tl th be bp bm bo h4 h64 hd j F T (by have := gj_in (by omega) hj1 c_20; omega) hF hT hFT hTn hlo) (cwV 1 hg (gv g_796 g_798 g_16 g_26 g_799) rfl rfl rfl (by decide +kernel) ⟨Nat.le_of_ble_eq_true rfl, Nat.le_of_ble_eq_true rfl⟩) (pV hP hK hN (va_recv hK hP (ci := 7) (q0 := 0) rfl rfl)) rfl rfl hl.1 rfl (lv_room (Nat.le_of_ble_eq_true rfl)) d_T_age_26 ⟨Nat.zero_le _, Nat.zero_le _⟩)) (fun r_2 hr_2 => ?_)
        subst hr_2
        rw [hld_e hF hT (by omega) (by omega)]
        refine lv_if_eq (tgt := 101) hx hb d_T_age_29 (by decide) (fun c_29 => ?_) (fun c_29 => ?_)
        · refine lv_iinc (v := (nI j) + 1) (lv' := [(5, .int ((nI j) + 1)), (0, .ref o), (1, .int w9), (2, .int x2), (3, .int x3), (4, .int x4)]) hx hb d_T_age_101 hl (k := 5) rfl rfl (by decide) rfl (fun ls hl => ?_)
          refine lv_goto (tgt := 14) hx hb d_T_age_104 (by decide) ?_
          exact ih14 (j + 1) x2 x3 x4 ((nI j) + 1) ls (⟨by have := gj_in (by omega) hj1 c_20; omega, by omega, nI_1 j, agT_f hq c_29⟩) (lv_sub hl [1, 2, 3, 4, 5, 0] rfl)
        · refine lv_iconst (v := 1) hx hb d_T_age_32 (by decide) ?_
          refine lv_istore (lv' := [(4, .int 1), (0, .ref o), (1, .int w9), (2, .int x2), (3, .int x3), (5, .int (nI j))]) hx hb d_T_age_33 hl (by decide) rfl (fun ls hl => ?_)
          refine lv_aload_n hx hb d_T_age_35 rfl (lv_at hl 1 rfl) ?_
          refine va_get (D := D) (ci := 7) (v := .ref ta) (C := Q_T) (T := F_T) (N := 17) hx hb hg in_T hown hK hP 0 rfl rfl 12 (by decide) (hg _ g_651) (fun _ h9 => h9) rfl d_T_age_36 ?_
          refine lv_bipush (v := 6) hx hb d_T_age_39 (by decide) ?_
          refine lv_iload hx hb d_T_age_41 (lv_at hl 5 rfl) ?_
          refine lv_imul hx hb d_T_age_43 ?_
          refine lv_iconst (v := 4) hx hb d_T_age_44 (by decide) ?_
          refine lv_iadd hx hb d_T_age_45 ?_
          refine va_iald hx hb hK hP 8 0 rfl rfl (v48k (k := 4) (by have := gj_in (by omega) hj1 c_20; omega) (by omega)) d_T_age_46 ?_
          refine lv_topi (fun y_3 ey_3 => ?_)
          obtain rfl : y_3 = tl (6 * j + 4) := ey_3.trans (by rw [show ((6 : Int32) * nI j + 4).toNatClampNeg = 6 * j + 4 from c48k (k := 4) (by have := gj_in (by omega) hj1 c_20; omega) (by omega)])
          refine lv_iload_n hx hb d_T_age_47 rfl (lv_at hl 3 rfl) ?_
          refine lv_icmp_le (tgt := 66) hx hb d_T_age_48 (by decide) (fun c_48 => ?_) (fun c_48 => ?_)
          · refine lv_iload_n hx hb d_T_age_66 rfl (lv_at hl 3 rfl) ?_
            refine lv_istore_n (lv' := [(2, .int x2), (4, .int 1), (0, .ref o), (1, .int w9), (3, .int x3), (5, .int (nI j))]) hx hb d_T_age_67 rfl hl (by decide) rfl (fun ls hl => ?_)
            refine lv_aload_n hx hb d_T_age_68 rfl (lv_at hl 2 rfl) ?_
            refine va_get (D := D) (ci := 7) (v := .ref ta) (C := Q_T) (T := F_T) (N := 17) hx hb hg in_T hown hK hP 0 rfl rfl 12 (by decide) (hg _ g_651) (fun _ h9 => h9) rfl d_T_age_69 ?_
            refine lv_bipush (v := 6) hx hb d_T_age_72 (by decide) ?_
            refine lv_iload hx hb d_T_age_74 (lv_at hl 5 rfl) ?_
            refine lv_imul hx hb d_T_age_76 ?_
            refine lv_iconst (v := 5) hx hb d_T_age_77 (by decide) ?_
            refine lv_iadd hx hb d_T_age_78 ?_
            refine va_iald hx hb hK hP 8 0 rfl rfl (v48k (k := 5) (by have := gj_in (by omega) hj1 c_20; omega) (by omega)) d_T_age_79 ?_
            refine lv_topi (fun y_4 ey_4 => ?_)
            obtain rfl : y_4 = tl (6 * j + 5) := ey_4.trans (by rw [show ((6 : Int32) * nI j + 5).toNatClampNeg = 6 * j + 5 from c48k (k := 5) (by have := gj_in (by omega) hj1 c_20; omega) (by omega)])
            refine lv_iload_n hx hb d_T_age_80 rfl (lv_at hl 4 rfl) ?_
            refine lv_icmp_ge (tgt := 99) hx hb d_T_age_81 (by decide) (fun c_81 => ?_) (fun c_81 => ?_)
            · refine lv_iload_n hx hb d_T_age_99 rfl (lv_at hl 4 rfl) ?_
              refine lv_istore_n (lv' := [(3, .int x3), (2, .int x2), (4, .int 1), (0, .ref o), (1, .int w9), (5, .int (nI j))]) hx hb d_T_age_100 rfl hl (by decide) rfl (fun ls hl => ?_)
              refine lv_iinc (v := (nI j) + 1) (lv' := [(5, .int ((nI j) + 1)), (3, .int x3), (2, .int x2), (4, .int 1), (0, .ref o), (1, .int w9)]) hx hb d_T_age_101 hl (k := 5) rfl rfl (by decide) rfl (fun ls hl => ?_)
              refine lv_goto (tgt := 14) hx hb d_T_age_104 (by decide) ?_
              exact ih14 (j + 1) x2 x3 1 ((nI j) + 1) ls (⟨by have := gj_in (by omega) hj1 c_20; omega, by omega, nI_1 j, agT_t hq c_29 (if_pos c_48).symm (if_pos c_81).symm⟩) (lv_sub hl [4, 5, 2, 1, 3, 0] rfl)
            · refine lv_aload_n hx hb d_T_age_84 rfl (lv_at hl 2 rfl) ?_
              refine va_get (D := D) (ci := 7) (v := .ref ta) (C := Q_T) (T := F_T) (N := 17) hx hb hg in_T hown hK hP 0 rfl rfl 12 (by decide) (hg _ g_651) (fun _ h9 => h9) rfl d_T_age_85 ?_
              refine lv_bipush (v := 6) hx hb d_T_age_88 (by decide) ?_
              refine lv_iload hx hb d_T_age_90 (lv_at hl 5 rfl) ?_
              refine lv_imul hx hb d_T_age_92 ?_
              refine lv_iconst (v := 5) hx hb d_T_age_93 (by decide) ?_
              refine lv_iadd hx hb d_T_age_94 ?_
              refine va_iald hx hb hK hP 8 0 rfl rfl (v48k (k := 5) (by have := gj_in (by omega) hj1 c_20; omega) (by omega)) d_T_age_95 ?_
              refine lv_topi (fun y_5 ey_5 => ?_)
              obtain rfl : y_5 = tl (6 * j + 5) := ey_5.trans (by rw [show ((6 : Int32) * nI j + 5).toNatClampNeg = 6 * j + 5 from c48k (k := 5) (by have := gj_in (by omega) hj1 c_20; omega) (by omega)])
              refine lv_goto (tgt := 100) hx hb d_T_age_96 (by decide) ?_
              refine lv_istore_n (lv' := [(3, .int (tl (6 * j + 5))), (2, .int x2), (4, .int 1), (0, .ref o), (1, .int w9), (5, .int (nI j))]) hx hb d_T_age_100 rfl hl (by decide) rfl (fun ls hl => ?_)
              refine lv_iinc (v := (nI j) + 1) (lv' := [(5, .int ((nI j) + 1)), (3, .int (tl (6 * j + 5))), (2, .int x2), (4, .int 1), (0, .ref o), (1, .int w9)]) hx hb d_T_age_101 hl (k := 5) rfl rfl (by decide) rfl (fun ls hl => ?_)
              refine lv_goto (tgt := 14) hx hb d_T_age_104 (by decide) ?_
              exact ih14 (j + 1) x2 (tl (6 * j + 5)) 1 ((nI j) + 1) ls (⟨by have := gj_in (by omega) hj1 c_20; omega, by omega, nI_1 j, agT_t hq c_29 (if_pos c_48).symm (if_neg c_81).symm⟩) (lv_sub hl [4, 5, 2, 1, 3, 0] rfl)
          · refine lv_aload_n hx hb d_T_age_51 rfl (lv_at hl 1 rfl) ?_
            refine va_get (D := D) (ci := 7) (v := .ref ta) (C := Q_T) (T := F_T) (N := 17) hx hb hg in_T hown hK hP 0 rfl rfl 12 (by decide) (hg _ g_651) (fun _ h9 => h9) rfl d_T_age_52 ?_
            refine lv_bipush (v := 6) hx hb d_T_age_55 (by decide) ?_
            refine lv_iload hx hb d_T_age_57 (lv_at hl 5 rfl) ?_
            refine lv_imul hx hb d_T_age_59 ?_
            refine lv_iconst (v := 4) hx hb d_T_age_60 (by decide) ?_
            refine lv_iadd hx hb d_T_age_61 ?_
            refine va_iald hx hb hK hP 8 0 rfl rfl (v48k (k := 4) (by have := gj_in (by omega) hj1 c_20; omega) (by omega)) d_T_age_62 ?_
            refine lv_topi (fun y_6 ey_6 => ?_)
            obtain rfl : y_6 = tl (6 * j + 4) := ey_6.trans (by rw [show ((6 : Int32) * nI j + 4).toNatClampNeg = 6 * j + 4 from c48k (k := 4) (by have := gj_in (by omega) hj1 c_20; omega) (by omega)])
            refine lv_goto (tgt := 67) hx hb d_T_age_63 (by decide) ?_
            refine lv_istore_n (lv' := [(2, .int (tl (6 * j + 4))), (4, .int 1), (0, .ref o), (1, .int w9), (3, .int x3), (5, .int (nI j))]) hx hb d_T_age_67 rfl hl (by decide) rfl (fun ls hl => ?_)
            refine lv_aload_n hx hb d_T_age_68 rfl (lv_at hl 2 rfl) ?_
            refine va_get (D := D) (ci := 7) (v := .ref ta) (C := Q_T) (T := F_T) (N := 17) hx hb hg in_T hown hK hP 0 rfl rfl 12 (by decide) (hg _ g_651) (fun _ h9 => h9) rfl d_T_age_69 ?_
            refine lv_bipush (v := 6) hx hb d_T_age_72 (by decide) ?_
            refine lv_iload hx hb d_T_age_74 (lv_at hl 5 rfl) ?_
            refine lv_imul hx hb d_T_age_76 ?_
            refine lv_iconst (v := 5) hx hb d_T_age_77 (by decide) ?_
            refine lv_iadd hx hb d_T_age_78 ?_
            refine va_iald hx hb hK hP 8 0 rfl rfl (v48k (k := 5) (by have := gj_in (by omega) hj1 c_20; omega) (by omega)) d_T_age_79 ?_
            refine lv_topi (fun y_7 ey_7 => ?_)
            obtain rfl : y_7 = tl (6 * j + 5) := ey_7.trans (by rw [show ((6 : Int32) * nI j + 5).toNatClampNeg = 6 * j + 5 from c48k (k := 5) (by have := gj_in (by omega) hj1 c_20; omega) (by omega)])
            refine lv_iload_n hx hb d_T_age_80 rfl (lv_at hl 4 rfl) ?_
            refine lv_icmp_ge (tgt := 99) hx hb d_T_age_81 (by decide) (fun c_81 => ?_) (fun c_81 => ?_)
            · refine lv_iload_n hx hb d_T_age_99 rfl (lv_at hl 4 rfl) ?_
              refine lv_istore_n (lv' := [(3, .int x3), (2, .int (tl (6 * j + 4))), (4, .int 1), (0, .ref o), (1, .int w9), (5, .int (nI j))]) hx hb d_T_age_100 rfl hl (by decide) rfl (fun ls hl => ?_)
              refine lv_iinc (v := (nI j) + 1) (lv' := [(5, .int ((nI j) + 1)), (3, .int x3), (2, .int (tl (6 * j + 4))), (4, .int 1), (0, .ref o), (1, .int w9)]) hx hb d_T_age_101 hl (k := 5) rfl rfl (by decide) rfl (fun ls hl => ?_)
              refine lv_goto (tgt := 14) hx hb d_T_age_104 (by decide) ?_
              exact ih14 (j + 1) (tl (6 * j + 4)) x3 1 ((nI j) + 1) ls (⟨by have := gj_in (by omega) hj1 c_20; omega, by omega, nI_1 j, agT_t hq c_29 (if_neg c_48).symm (if_pos c_81).symm⟩) (lv_sub hl [4, 5, 2, 1, 3, 0] rfl)
            · refine lv_aload_n hx hb d_T_age_84 rfl (lv_at hl 2 rfl) ?_
              refine va_get (D := D) (ci := 7) (v := .ref ta) (C := Q_T) (T := F_T) (N := 17) hx hb hg in_T hown hK hP 0 rfl rfl 12 (by decide) (hg _ g_651) (fun _ h9 => h9) rfl d_T_age_85 ?_
              refine lv_bipush (v := 6) hx hb d_T_age_88 (by decide) ?_
              refine lv_iload hx hb d_T_age_90 (lv_at hl 5 rfl) ?_
              refine lv_imul hx hb d_T_age_92 ?_
              refine lv_iconst (v := 5) hx hb d_T_age_93 (by decide) ?_
              refine lv_iadd hx hb d_T_age_94 ?_
              refine va_iald hx hb hK hP 8 0 rfl rfl (v48k (k := 5) (by have := gj_in (by omega) hj1 c_20; omega) (by omega)) d_T_age_95 ?_
              refine lv_topi (fun y_8 ey_8 => ?_)
              obtain rfl : y_8 = tl (6 * j + 5) := ey_8.trans (by rw [show ((6 : Int32) * nI j + 5).toNatClampNeg = 6 * j + 5 from c48k (k := 5) (by have := gj_in (by omega) hj1 c_20; omega) (by omega)])
              refine lv_goto (tgt := 100) hx hb d_T_age_96 (by decide) ?_
              refine lv_istore_n (lv' := [(3, .int (tl (6 * j + 5))), (2, .int (tl (6 * j + 4))), (4, .int 1), (0, .ref o), (1, .int w9), (5, .int (nI j))]) hx hb d_T_age_100 rfl hl (by decide) rfl (fun ls hl => ?_)
              refine lv_iinc (v := (nI j) + 1) (lv' := [(5, .int ((nI j) + 1)), (3, .int (tl (6 * j + 5))), (2, .int (tl (6 * j + 4))), (4, .int 1), (0, .ref o), (1, .int w9)]) hx hb d_T_age_101 hl (k := 5) rfl rfl (by decide) rfl (fun ls hl => ?_)
              refine lv_goto (tgt := 14) hx hb d_T_age_104 (by decide) ?_
              exact ih14 (j + 1) (tl (6 * j + 4)) (tl (6 * j + 5)) 1 ((nI j) + 1) ls (⟨by have := gj_in (by omega) hj1 c_20; omega, by omega, nI_1 j, agT_t hq c_29 (if_neg c_48).symm (if_neg c_81).symm⟩) (lv_sub hl [4, 5, 2, 1, 3, 0] rfl)
  exact loop_14 (nr + 1) 0 (-20000) 20000 0 0 ls (⟨by omega, by omega, rfl, rfl⟩) (lv_sub hl [4, 5, 3, 2, 1, 0] rfl)

set_option maxHeartbeats 4000000 in
set_option maxRecDepth 100000 in
/-- the reference: findMirror() -/
theorem c_T_findMirror_ok (l : Launch) (D : va_G) (cI cZ cJ cO : ClassId) (sz : Nat) (o dT gT la ca aa na ya ta : Nat) (n ns nn nr : Nat) (d g sl cr ak no ye tl : Nat → Int32) (th be bp bm : Int32) (bo : Int64) (h4 : 4 ≤ n) (h64 : n ≤ 64) (hd : dOK n d)  : Met l y_T_findMirror (wq y_T_findMirror c_T_findMirror 7 none) ({ frames := 3, cells := 0, slots := 0, locals := 69 }) (mP D (TY cI cZ cJ cO) [(o, .inr (7, [.int th, .int (nI n), .ref dT, .ref gT, .int (nI ns), .ref la, .ref ca, .int (nI nn), .ref aa, .ref na, .ref ya, .int (nI nr), .ref ta, .int be, .int bp, .long bo, .int bm])), (dT, .inl (cI, 64, .inl d)), (gT, .inl (cZ, 64, .inl g)), (la, .inl (cI, 8, .inl sl)), (ca, .inl (cI, 128, .inl cr)), (aa, .inl (cI, 16, .inl ak)), (na, .inl (cI, 16, .inl no)), (ya, .inl (cI, 16, .inl ye)), (ta, .inl (cI, 48, .inl tl))] [.ref o] sz) (va_Qv (fun (u : va_W) => u = [(o, .inr (7, [.int th, .int (nI n), .ref dT, .ref gT, .int (nI ns), .ref la, .ref ca, .int (nI nn), .ref aa, .ref na, .ref ya, .int (nI nr), .ref ta, .int ((fmT n d g bo bm (2 * n - 1)).1), .int bp, .long ((fmT n d g bo bm (2 * n - 1)).2.1), .int ((fmT n d g bo bm (2 * n - 1)).2.2)])), (dT, .inl (cI, 64, .inl d)), (gT, .inl (cZ, 64, .inl g)), (la, .inl (cI, 8, .inl sl)), (ca, .inl (cI, 128, .inl cr)), (aa, .inl (cI, 16, .inl ak)), (na, .inl (cI, 16, .inl no)), (ya, .inl (cI, 16, .inl ye)), (ta, .inl (cI, 48, .inl tl))]) (mB D (TY cI cZ cJ cO) (va_A [(o, .inr (7, [.int th, .int (nI n), .ref dT, .ref gT, .int (nI ns), .ref la, .ref ca, .int (nI nn), .ref aa, .ref na, .ref ya, .int (nI nr), .ref ta, .int be, .int bp, .long bo, .int bm])), (dT, .inl (cI, 64, .inl d)), (gT, .inl (cZ, 64, .inl g)), (la, .inl (cI, 8, .inl sl)), (ca, .inl (cI, 128, .inl cr)), (aa, .inl (cI, 16, .inl ak)), (na, .inl (cI, 16, .inl no)), (ya, .inl (cI, 16, .inl ye)), (ta, .inl (cI, 48, .inl tl))] sz)) (va_A [(o, .inr (7, [.int th, .int (nI n), .ref dT, .ref gT, .int (nI ns), .ref la, .ref ca, .int (nI nn), .ref aa, .ref na, .ref ya, .int (nI nr), .ref ta, .int be, .int bp, .long bo, .int bm])), (dT, .inl (cI, 64, .inl d)), (gT, .inl (cZ, 64, .inl g)), (la, .inl (cI, 8, .inl sl)), (ca, .inl (cI, 128, .inl cr)), (aa, .inl (cI, 16, .inl ak)), (na, .inl (cI, 16, .inl no)), (ya, .inl (cI, 16, .inl ye)), (ta, .inl (cI, 48, .inl tl))] sz)) 0 0 (va_A [(o, .inr (7, [.int th, .int (nI n), .ref dT, .ref gT, .int (nI ns), .ref la, .ref ca, .int (nI nn), .ref aa, .ref na, .ref ya, .int (nI nr), .ref ta, .int be, .int bp, .long bo, .int bm])), (dT, .inl (cI, 64, .inl d)), (gT, .inl (cZ, 64, .inl g)), (la, .inl (cI, 8, .inl sl)), (ca, .inl (cI, 128, .inl cr)), (aa, .inl (cI, 16, .inl ak)), (na, .inl (cI, 16, .inl no)), (ya, .inl (cI, 16, .inl ye)), (ta, .inl (cI, 48, .inl tl))] sz) := by
  refine Met.ofW (cc := c_T_findMirror) (maxL := 7) (ret := none) (by decide) rfl ?_
  intro p e s m args below meth c s₁ B hml hv
  obtain ⟨rfl, hsz, hP, hK, hD0, hN⟩ := hv
  have hx := B.exec
  have hb := B.bytes
  have hr := B.returns
  have hg := gt_h (atoms_spec (ws := (wq y_T_findMirror c_T_findMirror 7 none)) B.pre)
  have hown : s.vm.findClass "RubbingMirrorsModel" = some m.cls := findClass_of_methodNamed B.named
  have hlocks := B.notSynchronized
  subst hsz
  have hD := hD0.self (sz := s.heap.size)
  generalize hAe : va_A [(o, .inr (7, [.int th, .int (nI n), .ref dT, .ref gT, .int (nI ns), .ref la, .ref ca, .int (nI nn), .ref aa, .ref na, .ref ya, .int (nI nr), .ref ta, .int be, .int bp, .long bo, .int bm])), (dT, .inl (cI, 64, .inl d)), (gT, .inl (cZ, 64, .inl g)), (la, .inl (cI, 8, .inl sl)), (ca, .inl (cI, 128, .inl cr)), (aa, .inl (cI, 16, .inl ak)), (na, .inl (cI, 16, .inl no)), (ya, .inl (cI, 16, .inl ye)), (ta, .inl (cI, 48, .inl tl))] s.heap.size = A at hD ⊢
  have hA : ∀ q : Nat, s.heap.size ≤ q → A q := fun q h => by rw [← hAe]; exact Or.inr h
  have hS : va_S A s.heap s.heap [] := va_S.rf
  have hl := lv_entry ([.ref o]) (n := 7) (Nat.le_of_ble_eq_true rfl)
  rw [lg_entry_eq]
  generalize (lg_sl ([.ref o]) ++ List.replicate (7 - (lg_sl ([.ref o])).length) Slot.unset).toArray = ls at hl ⊢
  have hl : lv_has ls 7 [(0, .ref o)] := hl
  refine lv_aload_n hx hb d_T_findMirror_0 rfl (lv_at hl 0 rfl) ?_
  refine lv_iconst (v := (-1)) hx hb d_T_findMirror_1 (by decide) ?_
  refine va_put (D := D) (ci := 7) (v := .int (-1)) (ty := .int) (C := Q_T) (T := F_T) (N := 17) hx hb hg in_T tq_T tq_T_ok n_T hown hK hP hD hS 0 rfl rfl 13 (by decide) (hg _ g_652) (fun _ h9 => h9) rfl (by decide +kernel) rfl rfl (Nat.le_of_ble_eq_true rfl) d_T_findMirror_2 (fun H locs hP hD hS => ?_)
  have hP : va_P D cls [(o, .inr (7, [.int th, .int (nI n), .ref dT, .ref gT, .int (nI ns), .ref la, .ref ca, .int (nI nn), .ref aa, .ref na, .ref ya, .int (nI nr), .ref ta, .int (-1), .int bp, .long bo, .int bm])), (dT, .inl (cI, 64, .inl d)), (gT, .inl (cZ, 64, .inl g)), (la, .inl (cI, 8, .inl sl)), (ca, .inl (cI, 128, .inl cr)), (aa, .inl (cI, 16, .inl ak)), (na, .inl (cI, 16, .inl no)), (ya, .inl (cI, 16, .inl ye)), (ta, .inl (cI, 48, .inl tl))] H := hP
  have hD : va_D A [(o, .inr (7, [.int th, .int (nI n), .ref dT, .ref gT, .int (nI ns), .ref la, .ref ca, .int (nI nn), .ref aa, .ref na, .ref ya, .int (nI nr), .ref ta, .int (-1), .int bp, .long bo, .int bm])), (dT, .inl (cI, 64, .inl d)), (gT, .inl (cZ, 64, .inl g)), (la, .inl (cI, 8, .inl sl)), (ca, .inl (cI, 128, .inl cr)), (aa, .inl (cI, 16, .inl ak)), (na, .inl (cI, 16, .inl no)), (ya, .inl (cI, 16, .inl ye)), (ta, .inl (cI, 48, .inl tl))] := hD
  refine lv_iconst (v := 0) hx hb d_T_findMirror_5 (by decide) ?_
  refine lv_istore_n (lv' := [(1, .int 0), (0, .ref o)]) hx hb d_T_findMirror_6 rfl hl (by decide) rfl (fun ls hl => ?_)
  have loop_7 : ∀ (f7 : Nat) (j : Nat) (be1 bm1 : Int32) (bo1 : Int64) (x1 : Int32) (H : Heap) (locs : List Loc) (ls : Array Slot), (j ≤ 2 * n - 1 ∧ 2 * n - 1 < j + f7 ∧ x1 = nI j ∧ (be1, bo1, bm1) = fmT n d g bo bm j) → va_P D cls [(o, .inr (7, [.int th, .int (nI n), .ref dT, .ref gT, .int (nI ns), .ref la, .ref ca, .int (nI nn), .ref aa, .ref na, .ref ya, .int (nI nr), .ref ta, .int be1, .int bp, .long bo1, .int bm1])), (dT, .inl (cI, 64, .inl d)), (gT, .inl (cZ, 64, .inl g)), (la, .inl (cI, 8, .inl sl)), (ca, .inl (cI, 128, .inl cr)), (aa, .inl (cI, 16, .inl ak)), (na, .inl (cI, 16, .inl no)), (ya, .inl (cI, 16, .inl ye)), (ta, .inl (cI, 48, .inl tl))] H → va_D A [(o, .inr (7, [.int th, .int (nI n), .ref dT, .ref gT, .int (nI ns), .ref la, .ref ca, .int (nI nn), .ref aa, .ref na, .ref ya, .int (nI nr), .ref ta, .int be1, .int bp, .long bo1, .int bm1])), (dT, .inl (cI, 64, .inl d)), (gT, .inl (cZ, 64, .inl g)), (la, .inl (cI, 8, .inl sl)), (ca, .inl (cI, 128, .inl cr)), (aa, .inl (cI, 16, .inl ak)), (na, .inl (cI, 16, .inl no)), (ya, .inl (cI, 16, .inl ye)), (ta, .inl (cI, 48, .inl tl))] → va_S A s.heap H locs → lv_has ls 7 [(0, .ref o), (1, .int x1)] → W p l e (headSpec (wq y_T_findMirror c_T_findMirror 7 none) ({ frames := 3, cells := 0, slots := 0, locals := 69 })).room s m ([.ref o] : List Value).toArray below meth c H locs 0 0 (MQ below (va_Qv (fun (u : va_W) => u = [(o, .inr (7, [.int th, .int (nI n), .ref dT, .ref gT, .int (nI ns), .ref la, .ref ca, .int (nI nn), .ref aa, .ref na, .ref ya, .int (nI nr), .ref ta, .int ((fmT n d g bo bm (2 * n - 1)).1), .int bp, .long ((fmT n d g bo bm (2 * n - 1)).2.1), .int ((fmT n d g bo bm (2 * n - 1)).2.2)])), (dT, .inl (cI, 64, .inl d)), (gT, .inl (cZ, 64, .inl g)), (la, .inl (cI, 8, .inl sl)), (ca, .inl (cI, 128, .inl cr)), (aa, .inl (cI, 16, .inl ak)), (na, .inl (cI, 16, .inl no)), (ya, .inl (cI, 16, .inl ye)), (ta, .inl (cI, 48, .inl tl))]) (mB D (TY cI cZ cJ cO) A) A) ([.ref o] : List Value).toArray s 0 0 A) (F0 m 7 ls []) := by
    intro f7
    induction f7 with
    | zero =>
      intro j be1 bm1 bo1 x1 H locs ls hI hP hD hS hl
      obtain ⟨hj1, hj2, rfl, hq⟩ := hI
      omega
    | succ f7 ih7 =>
      intro j be1 bm1 bo1 x1 H locs ls hI hP hD hS hl
      obtain ⟨hj1, hj2, rfl, hq⟩ := hI
      refine lv_iload_n hx hb d_T_findMirror_7 rfl (lv_at hl 1 rfl) ?_
      refine lv_iconst (v := 2) hx hb d_T_findMirror_8 (by decide) ?_
      refine lv_aload_n hx hb d_T_findMirror_9 rfl (lv_at hl 0 rfl) ?_
      refine va_get (D := D) (ci := 7) (v := .int (nI n)) (C := Q_T) (T := F_T) (N := 17) hx hb hg in_T hown hK hP 0 rfl rfl 1 (by decide) (hg _ g_640) (fun _ h9 => h9) rfl d_T_findMirror_10 ?_
      refine lv_imul hx hb d_T_findMirror_13 ?_
      refine lv_iconst (v := 2) hx hb d_T_findMirror_14 (by decide) ?_
      refine lv_isub hx hb d_T_findMirror_15 ?_
      refine lv_icmp_gt (tgt := 143) hx hb d_T_findMirror_16 (by decide) (fun c_16 => ?_) (fun c_16 => ?_)
      · exact W.vret hx hb hr (fun t9 ht hW => ⟨⟨[(o, .inr (7, [.int th, .int (nI n), .ref dT, .ref gT, .int (nI ns), .ref la, .ref ca, .int (nI nn), .ref aa, .ref na, .ref ya, .int (nI nr), .ref ta, .int be1, .int bp, .long bo1, .int bm1])), (dT, .inl (cI, 64, .inl d)), (gT, .inl (cZ, 64, .inl g)), (la, .inl (cI, 8, .inl sl)), (ca, .inl (cI, 128, .inl cr)), (aa, .inl (cI, 16, .inl ak)), (na, .inl (cI, 16, .inl no)), (ya, .inl (cI, 16, .inl ye)), (ta, .inl (cI, 48, .inl tl))], rfl, (by dsimp only; rw [oj_out h4 h64 hj1 c_16] at hq; rw [← hq]), by rw [ht]; exact hP, va_K.moved hW.alike hK, hD⟩, hS.F ht⟩) hS.2.2 d_T_findMirror_143
      · refine lv_lconst (v := 0) hx hb d_T_findMirror_19 (by decide) ?_
        refine lv_lstore_n (lv' := [(2, .long 0), (0, .ref o), (1, .int (nI j))]) hx hb d_T_findMirror_20 rfl hl (by decide) rfl (fun ls hl => ?_)
        refine lv_iconst (v := 0) hx hb d_T_findMirror_21 (by decide) ?_
        refine lv_istore (lv' := [(4, .int 0), (2, .long 0), (0, .ref o), (1, .int (nI j))]) hx hb d_T_findMirror_22 hl (by decide) rfl (fun ls hl => ?_)
        refine lv_iconst (v := 0) hx hb d_T_findMirror_24 (by decide) ?_
        refine lv_istore (lv' := [(5, .int 0), (4, .int 0), (2, .long 0), (0, .ref o), (1, .int (nI j))]) hx hb d_T_findMirror_25 hl (by decide) rfl (fun ls hl => ?_)
        have loop_27 : ∀ (f27 : Nat) (i : Nat) (y2 : Int64) (y4 : Int32) (y5 : Int32) (ls : Array Slot), (i ≤ (j + 1) / 2 ∧ (j + 1) / 2 < i + f27 ∧ y2 = moL n d g j i ∧ y4 = nI (mp n d g j i) ∧ y5 = nI i) → lv_has ls 7 [(0, .ref o), (1, .int (nI j)), (2, .long y2), (4, .int y4), (5, .int y5)] → W p l e (headSpec (wq y_T_findMirror c_T_findMirror 7 none) ({ frames := 3, cells := 0, slots := 0, locals := 69 })).room s m ([.ref o] : List Value).toArray below meth c H locs 0 0 (MQ below (va_Qv (fun (u : va_W) => u = [(o, .inr (7, [.int th, .int (nI n), .ref dT, .ref gT, .int (nI ns), .ref la, .ref ca, .int (nI nn), .ref aa, .ref na, .ref ya, .int (nI nr), .ref ta, .int ((fmT n d g bo bm (2 * n - 1)).1), .int bp, .long ((fmT n d g bo bm (2 * n - 1)).2.1), .int ((fmT n d g bo bm (2 * n - 1)).2.2)])), (dT, .inl (cI, 64, .inl d)), (gT, .inl (cZ, 64, .inl g)), (la, .inl (cI, 8, .inl sl)), (ca, .inl (cI, 128, .inl cr)), (aa, .inl (cI, 16, .inl ak)), (na, .inl (cI, 16, .inl no)), (ya, .inl (cI, 16, .inl ye)), (ta, .inl (cI, 48, .inl tl))]) (mB D (TY cI cZ cJ cO) A) A) ([.ref o] : List Value).toArray s 0 0 A) (F0 m 27 ls []) := by
          intro f27
          induction f27 with
          | zero =>
            intro i y2 y4 y5 ls hI hl
            obtain ⟨hi1, hi2, rfl, rfl, rfl⟩ := hI
            omega
          | succ f27 ih27 =>
            intro i y2 y4 y5 ls hI hl
            obtain ⟨hi1, hi2, rfl, rfl, rfl⟩ := hI
            refine lv_iload hx hb d_T_findMirror_27 (lv_at hl 4 rfl) ?_
            refine lv_iload_n hx hb d_T_findMirror_29 rfl (lv_at hl 1 rfl) ?_
            refine lv_iload hx hb d_T_findMirror_30 (lv_at hl 4 rfl) ?_
            refine lv_isub hx hb d_T_findMirror_32 ?_
            refine lv_icmp_ge (tgt := 95) hx hb d_T_findMirror_33 (by decide) (fun c_33 => ?_) (fun c_33 => ?_)
            · obtain rfl := mj_out (by omega) hi1 c_33
              refine lv_iload hx hb d_T_findMirror_95 (lv_at hl 3 rfl) ?_
              refine lv_if_le (tgt := 137) hx hb d_T_findMirror_97 (by decide) (fun c_97 => ?_) (fun c_97 => ?_)
              · refine lv_iinc (v := (nI j) + 1) (lv' := [(1, .int ((nI j) + 1)), (0, .ref o), (2, .long (moL n d g j ((j + 1) / 2))), (4, .int (nI (mp n d g j ((j + 1) / 2)))), (5, .int (nI ((j + 1) / 2)))]) hx hb d_T_findMirror_137 hl (k := 1) rfl rfl (by decide) rfl (fun ls hl => ?_)
                refine lv_goto (tgt := 7) hx hb d_T_findMirror_140 (by decide) ?_
                exact ih7 (j + 1) be1 bm1 bo1 ((nI j) + 1) _ _ ls (⟨by have := oj_in h4 h64 hj1 c_16; omega, by omega, nI_1 j, by rw [fmT, ← hq]; exact (gT_1 c_97).symm⟩) hP hD hS (lv_sub hl [1, 0] rfl)
              · refine lv_iload hx hb d_T_findMirror_100 (lv_at hl 3 rfl) ?_
                refine lv_aload_n hx hb d_T_findMirror_102 rfl (lv_at hl 0 rfl) ?_
                refine va_get (D := D) (ci := 7) (v := .int (nI n)) (C := Q_T) (T := F_T) (N := 17) hx hb hg in_T hown hK hP 0 rfl rfl 1 (by decide) (hg _ g_640) (fun _ h9 => h9) rfl d_T_findMirror_103 ?_
                refine lv_iconst (v := 4) hx hb d_T_findMirror_106 (by decide) ?_
                refine lv_idiv hx hb d_T_findMirror_107 (by decide) ?_
                refine lv_icmp_lt (tgt := 137) hx hb d_T_findMirror_108 (by decide) (fun c_108 => ?_) (fun c_108 => ?_)
                · refine lv_iinc (v := (nI j) + 1) (lv' := [(1, .int ((nI j) + 1)), (0, .ref o), (2, .long (moL n d g j ((j + 1) / 2))), (4, .int (nI (mp n d g j ((j + 1) / 2)))), (5, .int (nI ((j + 1) / 2)))]) hx hb d_T_findMirror_137 hl (k := 1) rfl rfl (by decide) rfl (fun ls hl => ?_)
                  refine lv_goto (tgt := 7) hx hb d_T_findMirror_140 (by decide) ?_
                  exact ih7 (j + 1) be1 bm1 bo1 ((nI j) + 1) _ _ ls (⟨by have := oj_in h4 h64 hj1 c_16; omega, by omega, nI_1 j, by rw [fmT, ← hq]; exact (gT_2 c_108).symm⟩) hP hD hS (lv_sub hl [1, 0] rfl)
                · refine lv_aload_n hx hb d_T_findMirror_111 rfl (lv_at hl 0 rfl) ?_
                  refine lv_lload_n hx hb d_T_findMirror_112 rfl (lv_at hl 2 rfl) ?_
                  refine lv_iload hx hb d_T_findMirror_113 (lv_at hl 3 rfl) ?_
                  refine vp_callSi (va_Run.run (va_runV (As := [.long (moL n d g j ((j + 1) / 2)), .int (nI (mp n d g j ((j + 1) / 2)))]) (rest := []) ⟨hx, hb, hml, hown, hg⟩ (c_T_isBetter_ok l D cI cZ cJ cO o dT gT la ca aa na ya ta n ns nn nr d g sl cr ak no ye tl th be1 bp bm1 bo1 h4 h64 hd (moL n d g j ((j + 1) / 2)) (nI (mp n d g j ((j + 1) / 2)))) (cwV 2 hg (gv g_724 g_726 g_12 g_26 g_727) rfl rfl rfl (by decide +kernel) ⟨Nat.le_of_ble_eq_true rfl, Nat.le_of_ble_eq_true rfl⟩) (pV hP hK hN (va_recv hK hP (ci := 7) (q0 := 0) rfl rfl)) rfl rfl hl.1 rfl (lv_room (Nat.le_of_ble_eq_true rfl)) d_T_findMirror_115 ⟨Nat.zero_le _, Nat.zero_le _⟩)) (fun r_1 hr_1 => ?_)
                  subst hr_1
                  refine lv_if_eq (tgt := 137) hx hb d_T_findMirror_118 (by decide) (fun c_118 => ?_) (fun c_118 => ?_)
                  · refine lv_iinc (v := (nI j) + 1) (lv' := [(1, .int ((nI j) + 1)), (0, .ref o), (2, .long (moL n d g j ((j + 1) / 2))), (4, .int (nI (mp n d g j ((j + 1) / 2)))), (5, .int (nI ((j + 1) / 2)))]) hx hb d_T_findMirror_137 hl (k := 1) rfl rfl (by decide) rfl (fun ls hl => ?_)
                    refine lv_goto (tgt := 7) hx hb d_T_findMirror_140 (by decide) ?_
                    exact ih7 (j + 1) be1 bm1 bo1 ((nI j) + 1) _ _ ls (⟨by have := oj_in h4 h64 hj1 c_16; omega, by omega, nI_1 j, by rw [fmT, ← hq]; exact (gT_3 c_118).symm⟩) hP hD hS (lv_sub hl [1, 0] rfl)
                  · refine lv_aload_n hx hb d_T_findMirror_121 rfl (lv_at hl 0 rfl) ?_
                    refine lv_iload_n hx hb d_T_findMirror_122 rfl (lv_at hl 1 rfl) ?_
                    refine va_put (D := D) (ci := 7) (v := .int (nI j)) (ty := .int) (C := Q_T) (T := F_T) (N := 17) hx hb hg in_T tq_T tq_T_ok n_T hown hK hP hD hS 0 rfl rfl 13 (by decide) (hg _ g_652) (fun _ h9 => h9) rfl (by decide +kernel) rfl rfl (Nat.le_of_ble_eq_true rfl) d_T_findMirror_123 (fun H locs hP hD hS => ?_)
                    have hP : va_P D cls [(o, .inr (7, [.int th, .int (nI n), .ref dT, .ref gT, .int (nI ns), .ref la, .ref ca, .int (nI nn), .ref aa, .ref na, .ref ya, .int (nI nr), .ref ta, .int (nI j), .int bp, .long bo1, .int bm1])), (dT, .inl (cI, 64, .inl d)), (gT, .inl (cZ, 64, .inl g)), (la, .inl (cI, 8, .inl sl)), (ca, .inl (cI, 128, .inl cr)), (aa, .inl (cI, 16, .inl ak)), (na, .inl (cI, 16, .inl no)), (ya, .inl (cI, 16, .inl ye)), (ta, .inl (cI, 48, .inl tl))] H := hP
                    have hD : va_D A [(o, .inr (7, [.int th, .int (nI n), .ref dT, .ref gT, .int (nI ns), .ref la, .ref ca, .int (nI nn), .ref aa, .ref na, .ref ya, .int (nI nr), .ref ta, .int (nI j), .int bp, .long bo1, .int bm1])), (dT, .inl (cI, 64, .inl d)), (gT, .inl (cZ, 64, .inl g)), (la, .inl (cI, 8, .inl sl)), (ca, .inl (cI, 128, .inl cr)), (aa, .inl (cI, 16, .inl ak)), (na, .inl (cI, 16, .inl no)), (ya, .inl (cI, 16, .inl ye)), (ta, .inl (cI, 48, .inl tl))] := hD
                    refine lv_aload_n hx hb d_T_findMirror_126 rfl (lv_at hl 0 rfl) ?_
                    refine lv_lload_n hx hb d_T_findMirror_127 rfl (lv_at hl 2 rfl) ?_
                    refine va_put (D := D) (ci := 7) (v := .long (moL n d g j ((j + 1) / 2))) (ty := .long) (C := Q_T) (T := F_T) (N := 17) hx hb hg in_T tq_T tq_T_ok n_T hown hK hP hD hS 0 rfl rfl 15 (by decide) (hg _ g_654) (fun _ h9 => h9) rfl (by decide +kernel) rfl rfl (Nat.le_of_ble_eq_true rfl) d_T_findMirror_128 (fun H locs hP hD hS => ?_)
                    have hP : va_P D cls [(o, .inr (7, [.int th, .int (nI n), .ref dT, .ref gT, .int (nI ns), .ref la, .ref ca, .int (nI nn), .ref aa, .ref na, .ref ya, .int (nI nr), .ref ta, .int (nI j), .int bp, .long (moL n d g j ((j + 1) / 2)), .int bm1])), (dT, .inl (cI, 64, .inl d)), (gT, .inl (cZ, 64, .inl g)), (la, .inl (cI, 8, .inl sl)), (ca, .inl (cI, 128, .inl cr)), (aa, .inl (cI, 16, .inl ak)), (na, .inl (cI, 16, .inl no)), (ya, .inl (cI, 16, .inl ye)), (ta, .inl (cI, 48, .inl tl))] H := hP
                    have hD : va_D A [(o, .inr (7, [.int th, .int (nI n), .ref dT, .ref gT, .int (nI ns), .ref la, .ref ca, .int (nI nn), .ref aa, .ref na, .ref ya, .int (nI nr), .ref ta, .int (nI j), .int bp, .long (moL n d g j ((j + 1) / 2)), .int bm1])), (dT, .inl (cI, 64, .inl d)), (gT, .inl (cZ, 64, .inl g)), (la, .inl (cI, 8, .inl sl)), (ca, .inl (cI, 128, .inl cr)), (aa, .inl (cI, 16, .inl ak)), (na, .inl (cI, 16, .inl no)), (ya, .inl (cI, 16, .inl ye)), (ta, .inl (cI, 48, .inl tl))] := hD
                    refine lv_aload_n hx hb d_T_findMirror_131 rfl (lv_at hl 0 rfl) ?_
                    refine lv_iload hx hb d_T_findMirror_132 (lv_at hl 3 rfl) ?_
                    refine va_put (D := D) (ci := 7) (v := .int (nI (mp n d g j ((j + 1) / 2)))) (ty := .int) (C := Q_T) (T := F_T) (N := 17) hx hb hg in_T tq_T tq_T_ok n_T hown hK hP hD hS 0 rfl rfl 16 (by decide) (hg _ g_655) (fun _ h9 => h9) rfl (by decide +kernel) rfl rfl (Nat.le_of_ble_eq_true rfl) d_T_findMirror_134 (fun H locs hP hD hS => ?_)
                    have hP : va_P D cls [(o, .inr (7, [.int th, .int (nI n), .ref dT, .ref gT, .int (nI ns), .ref la, .ref ca, .int (nI nn), .ref aa, .ref na, .ref ya, .int (nI nr), .ref ta, .int (nI j), .int bp, .long (moL n d g j ((j + 1) / 2)), .int (nI (mp n d g j ((j + 1) / 2)))])), (dT, .inl (cI, 64, .inl d)), (gT, .inl (cZ, 64, .inl g)), (la, .inl (cI, 8, .inl sl)), (ca, .inl (cI, 128, .inl cr)), (aa, .inl (cI, 16, .inl ak)), (na, .inl (cI, 16, .inl no)), (ya, .inl (cI, 16, .inl ye)), (ta, .inl (cI, 48, .inl tl))] H := hP
                    have hD : va_D A [(o, .inr (7, [.int th, .int (nI n), .ref dT, .ref gT, .int (nI ns), .ref la, .ref ca, .int (nI nn), .ref aa, .ref na, .ref ya, .int (nI nr), .ref ta, .int (nI j), .int bp, .long (moL n d g j ((j + 1) / 2)), .int (nI (mp n d g j ((j + 1) / 2)))])), (dT, .inl (cI, 64, .inl d)), (gT, .inl (cZ, 64, .inl g)), (la, .inl (cI, 8, .inl sl)), (ca, .inl (cI, 128, .inl cr)), (aa, .inl (cI, 16, .inl ak)), (na, .inl (cI, 16, .inl no)), (ya, .inl (cI, 16, .inl ye)), (ta, .inl (cI, 48, .inl tl))] := hD
                    refine lv_iinc (v := (nI j) + 1) (lv' := [(1, .int ((nI j) + 1)), (0, .ref o), (2, .long (moL n d g j ((j + 1) / 2))), (4, .int (nI (mp n d g j ((j + 1) / 2)))), (5, .int (nI ((j + 1) / 2)))]) hx hb d_T_findMirror_137 hl (k := 1) rfl rfl (by decide) rfl (fun ls hl => ?_)
                    refine lv_goto (tgt := 7) hx hb d_T_findMirror_140 (by decide) ?_
                    exact ih7 (j + 1) (nI j) (nI (mp n d g j ((j + 1) / 2))) (moL n d g j ((j + 1) / 2)) ((nI j) + 1) _ _ ls (⟨by have := oj_in h4 h64 hj1 c_16; omega, by omega, nI_1 j, by rw [fmT, ← hq]; exact (gT_4 c_97 c_108 c_118).symm⟩) hP hD hS (lv_sub hl [1, 0] rfl)
            · refine lv_aload_n hx hb d_T_findMirror_36 rfl (lv_at hl 0 rfl) ?_
              refine lv_iload hx hb d_T_findMirror_37 (lv_at hl 4 rfl) ?_
              refine lv_i2l (v := (nI i).toInt64) hx hb d_T_findMirror_39 rfl ?_
              refine vp_callSi (va_Run.run (va_runV (As := [.long ((nI i).toInt64)]) (rest := []) ⟨hx, hb, hml, hown, hg⟩ (c_T_isKnown_ok l D cI cZ cJ cO o dT gT la ca aa na ya ta n ns nn nr d g sl cr ak no ye tl th be1 bp bm1 bo1 h4 h64 hd ((nI i).toInt64)) (cwV 1 hg (gv g_720 g_722 g_11 g_26 g_723) rfl rfl rfl (by decide +kernel) ⟨Nat.le_of_ble_eq_true rfl, Nat.le_of_ble_eq_true rfl⟩) (pV hP hK hN (va_recv hK hP (ci := 7) (q0 := 0) rfl rfl)) rfl rfl hl.1 rfl (lv_room (Nat.le_of_ble_eq_true rfl)) d_T_findMirror_40 ⟨Nat.zero_le _, Nat.zero_le _⟩)) (fun r_2 hr_2 => ?_)
              subst hr_2
              refine lv_if_eq (tgt := 89) hx hb d_T_findMirror_43 (by decide) (fun c_43 => ?_) (fun c_43 => ?_)
              · refine lv_iinc (v := (nI i) + 1) (lv' := [(5, .int ((nI i) + 1)), (0, .ref o), (1, .int (nI j)), (2, .long (moL n d g j i)), (4, .int (nI (mp n d g j i)))]) hx hb d_T_findMirror_89 hl (k := 4) rfl rfl (by decide) rfl (fun ls hl => ?_)
                refine lv_goto (tgt := 27) hx hb d_T_findMirror_92 (by decide) ?_
                exact ih27 (i + 1) (moL n d g j i) (nI (mp n d g j i)) ((nI i) + 1) ls (⟨by have := mj_in (by omega) hi1 c_33; omega, by omega, (by first | exact moT_t (by omega) (mj_in (by omega) hi1 c_33) c_43 c_55 | exact moT_f1 (by omega) c_43 | exact moT_f2 (by omega) (by omega) c_55), (by first | exact mpT_t (by omega) (by omega) c_43 c_55 | exact mpT_f1 (by omega) c_43 | exact mpT_f2 (by omega) (by omega) c_55), nI_1 i⟩) (lv_sub hl [1, 2, 3, 4, 0] rfl)
              · refine lv_aload_n hx hb d_T_findMirror_46 rfl (lv_at hl 0 rfl) ?_
                refine lv_iload_n hx hb d_T_findMirror_47 rfl (lv_at hl 1 rfl) ?_
                refine lv_iload hx hb d_T_findMirror_48 (lv_at hl 4 rfl) ?_
                refine lv_isub hx hb d_T_findMirror_50 ?_
                refine lv_i2l (v := ((nI j) - (nI i)).toInt64) hx hb d_T_findMirror_51 rfl ?_
                refine vp_callSi (va_Run.run (va_runV (As := [.long (((nI j) - (nI i)).toInt64)]) (rest := []) ⟨hx, hb, hml, hown, hg⟩ (c_T_isKnown_ok l D cI cZ cJ cO o dT gT la ca aa na ya ta n ns nn nr d g sl cr ak no ye tl th be1 bp bm1 bo1 h4 h64 hd (((nI j) - (nI i)).toInt64)) (cwV 1 hg (gv g_720 g_722 g_11 g_26 g_723) rfl rfl rfl (by decide +kernel) ⟨Nat.le_of_ble_eq_true rfl, Nat.le_of_ble_eq_true rfl⟩) (pV hP hK hN (va_recv hK hP (ci := 7) (q0 := 0) rfl rfl)) rfl rfl hl.1 rfl (lv_room (Nat.le_of_ble_eq_true rfl)) d_T_findMirror_52 ⟨Nat.zero_le _, Nat.zero_le _⟩)) (fun r_3 hr_3 => ?_)
                subst hr_3
                refine lv_if_eq (tgt := 89) hx hb d_T_findMirror_55 (by decide) (fun c_55 => ?_) (fun c_55 => ?_)
                · refine lv_iinc (v := (nI i) + 1) (lv' := [(5, .int ((nI i) + 1)), (0, .ref o), (1, .int (nI j)), (2, .long (moL n d g j i)), (4, .int (nI (mp n d g j i)))]) hx hb d_T_findMirror_89 hl (k := 4) rfl rfl (by decide) rfl (fun ls hl => ?_)
                  refine lv_goto (tgt := 27) hx hb d_T_findMirror_92 (by decide) ?_
                  exact ih27 (i + 1) (moL n d g j i) (nI (mp n d g j i)) ((nI i) + 1) ls (⟨by have := mj_in (by omega) hi1 c_33; omega, by omega, (by first | exact moT_t (by omega) (mj_in (by omega) hi1 c_33) c_43 c_55 | exact moT_f1 (by omega) c_43 | exact moT_f2 (by omega) (by omega) c_55), (by first | exact mpT_t (by omega) (by omega) c_43 c_55 | exact mpT_f1 (by omega) c_43 | exact mpT_f2 (by omega) (by omega) c_55), nI_1 i⟩) (lv_sub hl [1, 2, 3, 4, 0] rfl)
                · refine lv_aload_n hx hb d_T_findMirror_58 rfl (lv_at hl 0 rfl) ?_
                  refine va_get (D := D) (ci := 7) (v := .ref dT) (C := Q_T) (T := F_T) (N := 17) hx hb hg in_T hown hK hP 0 rfl rfl 2 (by decide) (hg _ g_641) (fun _ h9 => h9) rfl d_T_findMirror_59 ?_
                  refine lv_iload hx hb d_T_findMirror_62 (lv_at hl 4 rfl) ?_
                  refine va_iald hx hb hK hP 1 0 rfl rfl (v64k h64 c_43) d_T_findMirror_64 ?_
                  refine lv_aload_n hx hb d_T_findMirror_65 rfl (lv_at hl 0 rfl) ?_
                  refine va_get (D := D) (ci := 7) (v := .ref dT) (C := Q_T) (T := F_T) (N := 17) hx hb hg in_T hown hK hP 0 rfl rfl 2 (by decide) (hg _ g_641) (fun _ h9 => h9) rfl d_T_findMirror_66 ?_
                  refine lv_iload_n hx hb d_T_findMirror_69 rfl (lv_at hl 1 rfl) ?_
                  refine lv_iload hx hb d_T_findMirror_70 (lv_at hl 4 rfl) ?_
                  refine lv_isub hx hb d_T_findMirror_72 ?_
                  refine va_iald hx hb hK hP 1 0 rfl rfl (v64k h64 c_55) d_T_findMirror_73 ?_
                  refine lv_isub hx hb d_T_findMirror_74 ?_
                  refine lv_istore (lv' := [(6, .int ((d (nI i).toNatClampNeg) - (d ((nI j) - (nI i)).toNatClampNeg))), (0, .ref o), (1, .int (nI j)), (2, .long (moL n d g j i)), (4, .int (nI (mp n d g j i))), (5, .int (nI i))]) hx hb d_T_findMirror_75 hl (by decide) rfl (fun ls hl => ?_)
                  refine lv_lload_n hx hb d_T_findMirror_77 rfl (lv_at hl 3 rfl) ?_
                  refine lv_iload hx hb d_T_findMirror_78 (lv_at hl 0 rfl) ?_
                  refine lv_iload hx hb d_T_findMirror_80 (lv_at hl 0 rfl) ?_
                  refine lv_imul hx hb d_T_findMirror_82 ?_
                  refine lv_i2l (v := (((d (nI i).toNatClampNeg) - (d ((nI j) - (nI i)).toNatClampNeg)) * ((d (nI i).toNatClampNeg) - (d ((nI j) - (nI i)).toNatClampNeg))).toInt64) hx hb d_T_findMirror_83 rfl ?_
                  refine lv_ladd hx hb d_T_findMirror_84 ?_
                  refine lv_lstore_n (lv' := [(2, .long ((moL n d g j i) + ((((d (nI i).toNatClampNeg) - (d ((nI j) - (nI i)).toNatClampNeg)) * ((d (nI i).toNatClampNeg) - (d ((nI j) - (nI i)).toNatClampNeg))).toInt64))), (6, .int ((d (nI i).toNatClampNeg) - (d ((nI j) - (nI i)).toNatClampNeg))), (0, .ref o), (1, .int (nI j)), (4, .int (nI (mp n d g j i))), (5, .int (nI i))]) hx hb d_T_findMirror_85 rfl hl (by decide) rfl (fun ls hl => ?_)
                  refine lv_iinc (v := (nI (mp n d g j i)) + 1) (lv' := [(4, .int ((nI (mp n d g j i)) + 1)), (2, .long ((moL n d g j i) + ((((d (nI i).toNatClampNeg) - (d ((nI j) - (nI i)).toNatClampNeg)) * ((d (nI i).toNatClampNeg) - (d ((nI j) - (nI i)).toNatClampNeg))).toInt64))), (6, .int ((d (nI i).toNatClampNeg) - (d ((nI j) - (nI i)).toNatClampNeg))), (0, .ref o), (1, .int (nI j)), (5, .int (nI i))]) hx hb d_T_findMirror_86 hl (k := 4) rfl rfl (by decide) rfl (fun ls hl => ?_)
                  refine lv_iinc (v := (nI i) + 1) (lv' := [(5, .int ((nI i) + 1)), (4, .int ((nI (mp n d g j i)) + 1)), (2, .long ((moL n d g j i) + ((((d (nI i).toNatClampNeg) - (d ((nI j) - (nI i)).toNatClampNeg)) * ((d (nI i).toNatClampNeg) - (d ((nI j) - (nI i)).toNatClampNeg))).toInt64))), (6, .int ((d (nI i).toNatClampNeg) - (d ((nI j) - (nI i)).toNatClampNeg))), (0, .ref o), (1, .int (nI j))]) hx hb d_T_findMirror_89 hl (k := 5) rfl rfl (by decide) rfl (fun ls hl => ?_)
                  refine lv_goto (tgt := 27) hx hb d_T_findMirror_92 (by decide) ?_
                  exact ih27 (i + 1) ((moL n d g j i) + ((((d (nI i).toNatClampNeg) - (d ((nI j) - (nI i)).toNatClampNeg)) * ((d (nI i).toNatClampNeg) - (d ((nI j) - (nI i)).toNatClampNeg))).toInt64)) ((nI (mp n d g j i)) + 1) ((nI i) + 1) ls (⟨by have := mj_in (by omega) hi1 c_33; omega, by omega, (by first | exact moT_t (by omega) (mj_in (by omega) hi1 c_33) c_43 c_55 | exact moT_f1 (by omega) c_43 | exact moT_f2 (by omega) (by omega) c_55), (by first | exact mpT_t (by omega) (by omega) c_43 c_55 | exact mpT_f1 (by omega) c_43 | exact mpT_f2 (by omega) (by omega) c_55), nI_1 i⟩) (lv_sub hl [4, 5, 2, 1, 0] rfl)
        exact loop_27 (j + 2) 0 0 0 0 ls (⟨by omega, by omega, rfl, rfl, rfl⟩) (lv_sub hl [3, 4, 2, 1, 0] rfl)
  exact loop_7 (2 * n) 0 (-1) bm bo 0 _ _ ls (⟨by omega, by omega, rfl, rfl⟩) hP hD hS (lv_sub hl [1, 0] rfl)

set_option maxHeartbeats 4000000 in
set_option maxRecDepth 100000 in
/-- the reference: mirror(w) -/
theorem c_T_mirror_ok (l : Launch) (D : va_G) (cI cZ cJ cO : ClassId) (sz : Nat) (o dT gT la ca aa na ya ta : Nat) (n ns nn nr : Nat) (d g sl cr ak no ye tl : Nat → Int32) (th be bp bm : Int32) (bo : Int64) (h4 : 4 ≤ n) (h64 : n ≤ 64) (hd : dOK n d) (w9 : Int32) : Met l y_T_mirror (wq y_T_mirror c_T_mirror 2 (some .long)) ({ frames := 4, cells := 0, slots := 0, locals := 95 }) (mP D (TY cI cZ cJ cO) [(o, .inr (7, [.int th, .int (nI n), .ref dT, .ref gT, .int (nI ns), .ref la, .ref ca, .int (nI nn), .ref aa, .ref na, .ref ya, .int (nI nr), .ref ta, .int be, .int bp, .long bo, .int bm])), (dT, .inl (cI, 64, .inl d)), (gT, .inl (cZ, 64, .inl g)), (la, .inl (cI, 8, .inl sl)), (ca, .inl (cI, 128, .inl cr)), (aa, .inl (cI, 16, .inl ak)), (na, .inl (cI, 16, .inl no)), (ya, .inl (cI, 16, .inl ye)), (ta, .inl (cI, 48, .inl tl))] [.ref o, .int w9] sz) (va_Ql (fun (r : Int64) (u : va_W) => ((cMir (fmT n d g bo bm (2 * n - 1)).1 w9 = 0 ∧ u = [(o, .inr (7, [.int 0, .int (nI n), .ref dT, .ref gT, .int (nI ns), .ref la, .ref ca, .int (nI nn), .ref aa, .ref na, .ref ya, .int (nI nr), .ref ta, .int ((fmT n d g bo bm (2 * n - 1)).1), .int bp, .long ((fmT n d g bo bm (2 * n - 1)).2.1), .int ((fmT n d g bo bm (2 * n - 1)).2.2)])), (dT, .inl (cI, 64, .inl d)), (gT, .inl (cZ, 64, .inl g)), (la, .inl (cI, 8, .inl sl)), (ca, .inl (cI, 128, .inl cr)), (aa, .inl (cI, 16, .inl ak)), (na, .inl (cI, 16, .inl no)), (ya, .inl (cI, 16, .inl ye)), (ta, .inl (cI, 48, .inl tl))] ∧ r = aMir (fmT n d g bo bm (2 * n - 1)) w9) ∨ (¬ cMir (fmT n d g bo bm (2 * n - 1)).1 w9 = 0 ∧ u = [(o, .inr (7, [.int (cMir (fmT n d g bo bm (2 * n - 1)).1 w9), .int (nI n), .ref dT, .ref gT, .int (nI ns), .ref la, .ref ca, .int (nI nn), .ref aa, .ref na, .ref ya, .int (nI nr), .ref ta, .int ((fmT n d g bo bm (2 * n - 1)).1), .int bp, .long ((fmT n d g bo bm (2 * n - 1)).2.1), .int ((fmT n d g bo bm (2 * n - 1)).2.2)])), (dT, .inl (cI, 64, .inl d)), (gT, .inl (cZ, 64, .inl g)), (la, .inl (cI, 8, .inl sl)), (ca, .inl (cI, 128, .inl cr)), (aa, .inl (cI, 16, .inl ak)), (na, .inl (cI, 16, .inl no)), (ya, .inl (cI, 16, .inl ye)), (ta, .inl (cI, 48, .inl tl))]))) (mB D (TY cI cZ cJ cO) (va_A [(o, .inr (7, [.int th, .int (nI n), .ref dT, .ref gT, .int (nI ns), .ref la, .ref ca, .int (nI nn), .ref aa, .ref na, .ref ya, .int (nI nr), .ref ta, .int be, .int bp, .long bo, .int bm])), (dT, .inl (cI, 64, .inl d)), (gT, .inl (cZ, 64, .inl g)), (la, .inl (cI, 8, .inl sl)), (ca, .inl (cI, 128, .inl cr)), (aa, .inl (cI, 16, .inl ak)), (na, .inl (cI, 16, .inl no)), (ya, .inl (cI, 16, .inl ye)), (ta, .inl (cI, 48, .inl tl))] sz)) (va_A [(o, .inr (7, [.int th, .int (nI n), .ref dT, .ref gT, .int (nI ns), .ref la, .ref ca, .int (nI nn), .ref aa, .ref na, .ref ya, .int (nI nr), .ref ta, .int be, .int bp, .long bo, .int bm])), (dT, .inl (cI, 64, .inl d)), (gT, .inl (cZ, 64, .inl g)), (la, .inl (cI, 8, .inl sl)), (ca, .inl (cI, 128, .inl cr)), (aa, .inl (cI, 16, .inl ak)), (na, .inl (cI, 16, .inl no)), (ya, .inl (cI, 16, .inl ye)), (ta, .inl (cI, 48, .inl tl))] sz)) 0 0 (va_A [(o, .inr (7, [.int th, .int (nI n), .ref dT, .ref gT, .int (nI ns), .ref la, .ref ca, .int (nI nn), .ref aa, .ref na, .ref ya, .int (nI nr), .ref ta, .int be, .int bp, .long bo, .int bm])), (dT, .inl (cI, 64, .inl d)), (gT, .inl (cZ, 64, .inl g)), (la, .inl (cI, 8, .inl sl)), (ca, .inl (cI, 128, .inl cr)), (aa, .inl (cI, 16, .inl ak)), (na, .inl (cI, 16, .inl no)), (ya, .inl (cI, 16, .inl ye)), (ta, .inl (cI, 48, .inl tl))] sz) := by
  refine Met.ofW (cc := c_T_mirror) (maxL := 2) (ret := (some .long)) (by decide) rfl ?_
  intro p e s m args below meth c s₁ B hml hv
  obtain ⟨rfl, hsz, hP, hK, hD0, hN⟩ := hv
  have hx := B.exec
  have hb := B.bytes
  have hr := B.returns
  have hg := gt_h (atoms_spec (ws := (wq y_T_mirror c_T_mirror 2 (some .long))) B.pre)
  have hown : s.vm.findClass "RubbingMirrorsModel" = some m.cls := findClass_of_methodNamed B.named
  have hlocks := B.notSynchronized
  subst hsz
  have hD := hD0.self (sz := s.heap.size)
  generalize hAe : va_A [(o, .inr (7, [.int th, .int (nI n), .ref dT, .ref gT, .int (nI ns), .ref la, .ref ca, .int (nI nn), .ref aa, .ref na, .ref ya, .int (nI nr), .ref ta, .int be, .int bp, .long bo, .int bm])), (dT, .inl (cI, 64, .inl d)), (gT, .inl (cZ, 64, .inl g)), (la, .inl (cI, 8, .inl sl)), (ca, .inl (cI, 128, .inl cr)), (aa, .inl (cI, 16, .inl ak)), (na, .inl (cI, 16, .inl no)), (ya, .inl (cI, 16, .inl ye)), (ta, .inl (cI, 48, .inl tl))] s.heap.size = A at hD ⊢
  have hA : ∀ q : Nat, s.heap.size ≤ q → A q := fun q h => by rw [← hAe]; exact Or.inr h
  have hS : va_S A s.heap s.heap [] := va_S.rf
  have hl := lv_entry ([.ref o, .int w9]) (n := 2) (Nat.le_of_ble_eq_true rfl)
  rw [lg_entry_eq]
  generalize (lg_sl ([.ref o, .int w9]) ++ List.replicate (2 - (lg_sl ([.ref o, .int w9])).length) Slot.unset).toArray = ls at hl ⊢
  have hl : lv_has ls 2 [(0, .ref o), (1, .int w9)] := hl
  refine lv_aload_n hx hb d_T_mirror_0 rfl (lv_at hl 0 rfl) ?_
  have hP := hP.sub (ws' := [(o, .inr (7, [.int th, .int (nI n), .ref dT, .ref gT, .int (nI ns), .ref la, .ref ca, .int (nI nn), .ref aa, .ref na, .ref ya, .int (nI nr), .ref ta, .int be, .int bp, .long bo, .int bm])), (dT, .inl (cI, 64, .inl d)), (gT, .inl (cZ, 64, .inl g)), (la, .inl (cI, 8, .inl sl)), (ca, .inl (cI, 128, .inl cr)), (aa, .inl (cI, 16, .inl ak)), (na, .inl (cI, 16, .inl no)), (ya, .inl (cI, 16, .inl ye)), (ta, .inl (cI, 48, .inl tl))] ++ []) [0, 1, 2, 3, 4, 5, 6, 7, 8] rfl
  have hD := hD.sub (ws' := [(o, .inr (7, [.int th, .int (nI n), .ref dT, .ref gT, .int (nI ns), .ref la, .ref ca, .int (nI nn), .ref aa, .ref na, .ref ya, .int (nI nr), .ref ta, .int be, .int bp, .long bo, .int bm])), (dT, .inl (cI, 64, .inl d)), (gT, .inl (cZ, 64, .inl g)), (la, .inl (cI, 8, .inl sl)), (ca, .inl (cI, 128, .inl cr)), (aa, .inl (cI, 16, .inl ak)), (na, .inl (cI, 16, .inl no)), (ya, .inl (cI, 16, .inl ye)), (ta, .inl (cI, 48, .inl tl))] ++ []) [0, 1, 2, 3, 4, 5, 6, 7, 8] (by decide) rfl
  refine mcallv (wc := [(o, .inr (7, [.int th, .int (nI n), .ref dT, .ref gT, .int (nI ns), .ref la, .ref ca, .int (nI nn), .ref aa, .ref na, .ref ya, .int (nI nr), .ref ta, .int be, .int bp, .long bo, .int bm])), (dT, .inl (cI, 64, .inl d)), (gT, .inl (cZ, 64, .inl g)), (la, .inl (cI, 8, .inl sl)), (ca, .inl (cI, 128, .inl cr)), (aa, .inl (cI, 16, .inl ak)), (na, .inl (cI, 16, .inl no)), (ya, .inl (cI, 16, .inl ye)), (ta, .inl (cI, 48, .inl tl))]) (wr := []) (va_runV (As := []) (rest := []) ⟨hx, hb, hml, hown, hg⟩ (c_T_findMirror_ok l D cI cZ cJ cO s.heap.size o dT gT la ca aa na ya ta n ns nn nr d g sl cr ak no ye tl th be bp bm bo h4 h64 hd) (cwV 0 hg (gv g_716 g_718 g_10 g_26 g_719) rfl rfl rfl (by decide +kernel) ⟨Nat.le_of_ble_eq_true rfl, Nat.le_of_ble_eq_true rfl⟩) (mV (ba_Pl hP) hK hN (ba_Dl hD) (va_recv hK (ba_Pl hP) (ci := 7) (q0 := 0) rfl rfl)) rfl rfl hl.1 rfl (lv_room (Nat.le_of_ble_eq_true rfl)) d_T_mirror_1 ⟨Nat.le_of_ble_eq_true rfl, Nat.le_of_ble_eq_true rfl⟩) hP hD hS hA (fun u_1 H locs hu_1 hP hD hS => ?_)
  subst hu_1
  have hP : va_P D cls [(o, .inr (7, [.int th, .int (nI n), .ref dT, .ref gT, .int (nI ns), .ref la, .ref ca, .int (nI nn), .ref aa, .ref na, .ref ya, .int (nI nr), .ref ta, .int ((fmT n d g bo bm (2 * n - 1)).1), .int bp, .long ((fmT n d g bo bm (2 * n - 1)).2.1), .int ((fmT n d g bo bm (2 * n - 1)).2.2)])), (dT, .inl (cI, 64, .inl d)), (gT, .inl (cZ, 64, .inl g)), (la, .inl (cI, 8, .inl sl)), (ca, .inl (cI, 128, .inl cr)), (aa, .inl (cI, 16, .inl ak)), (na, .inl (cI, 16, .inl no)), (ya, .inl (cI, 16, .inl ye)), (ta, .inl (cI, 48, .inl tl))] H := hP
  have hD : va_D A [(o, .inr (7, [.int th, .int (nI n), .ref dT, .ref gT, .int (nI ns), .ref la, .ref ca, .int (nI nn), .ref aa, .ref na, .ref ya, .int (nI nr), .ref ta, .int ((fmT n d g bo bm (2 * n - 1)).1), .int bp, .long ((fmT n d g bo bm (2 * n - 1)).2.1), .int ((fmT n d g bo bm (2 * n - 1)).2.2)])), (dT, .inl (cI, 64, .inl d)), (gT, .inl (cZ, 64, .inl g)), (la, .inl (cI, 8, .inl sl)), (ca, .inl (cI, 128, .inl cr)), (aa, .inl (cI, 16, .inl ak)), (na, .inl (cI, 16, .inl no)), (ya, .inl (cI, 16, .inl ye)), (ta, .inl (cI, 48, .inl tl))] := hD
  obtain ⟨⟨be1, bo1, bm1⟩, hfm⟩ : ∃ t, t = (fmT n d g bo bm (2 * n - 1)) := ⟨_, rfl⟩
  rw [← hfm] at hP hD ⊢
  have hP : va_P D cls [(o, .inr (7, [.int th, .int (nI n), .ref dT, .ref gT, .int (nI ns), .ref la, .ref ca, .int (nI nn), .ref aa, .ref na, .ref ya, .int (nI nr), .ref ta, .int be1, .int bp, .long bo1, .int bm1])), (dT, .inl (cI, 64, .inl d)), (gT, .inl (cZ, 64, .inl g)), (la, .inl (cI, 8, .inl sl)), (ca, .inl (cI, 128, .inl cr)), (aa, .inl (cI, 16, .inl ak)), (na, .inl (cI, 16, .inl no)), (ya, .inl (cI, 16, .inl ye)), (ta, .inl (cI, 48, .inl tl))] H := hP
  have hD : va_D A [(o, .inr (7, [.int th, .int (nI n), .ref dT, .ref gT, .int (nI ns), .ref la, .ref ca, .int (nI nn), .ref aa, .ref na, .ref ya, .int (nI nr), .ref ta, .int be1, .int bp, .long bo1, .int bm1])), (dT, .inl (cI, 64, .inl d)), (gT, .inl (cZ, 64, .inl g)), (la, .inl (cI, 8, .inl sl)), (ca, .inl (cI, 128, .inl cr)), (aa, .inl (cI, 16, .inl ak)), (na, .inl (cI, 16, .inl no)), (ya, .inl (cI, 16, .inl ye)), (ta, .inl (cI, 48, .inl tl))] := hD
  refine lv_aload_n hx hb d_T_mirror_4 rfl (lv_at hl 0 rfl) ?_
  refine lv_aload_n hx hb d_T_mirror_5 rfl (lv_at hl 0 rfl) ?_
  refine va_get (D := D) (ci := 7) (v := .int be1) (C := Q_T) (T := F_T) (N := 17) hx hb hg in_T hown hK hP 0 rfl rfl 13 (by decide) (hg _ g_652) (fun _ h9 => h9) rfl d_T_mirror_6 ?_
  refine lv_iconst (v := (-1)) hx hb d_T_mirror_9 (by decide) ?_
  refine lv_icmp_ne (tgt := 17) hx hb d_T_mirror_10 (by decide) (fun c_10 => ?_) (fun c_10 => ?_)
  · refine lv_iload_n hx hb d_T_mirror_17 rfl (lv_at hl 1 rfl) ?_
    refine lv_i2l (v := w9.toInt64) hx hb d_T_mirror_18 rfl ?_
    refine lv_lconst (v := 0) hx hb d_T_mirror_19 (by decide) ?_
    refine lv_ldc2 (v := 2) hx hb hown (hg _ g_728) d_T_mirror_20 ?_
    refine vp_callSi (va_Run.run (va_runS (As := [.long w9.toInt64, .long 0, .long 2]) (rest := [.ref o]) ⟨hx, hb, hml, hown, hg⟩ (c_T_isIn_ok l D cI cZ cJ cO w9.toInt64 0 2) (va_cwS 3 hg (gs2 g_703 g_704 g_26 g_705) rfl rfl rfl (by decide +kernel) ⟨Nat.le_of_ble_eq_true rfl, Nat.le_of_ble_eq_true rfl⟩) (pS ba_nil hK hN) rfl rfl hl.1 rfl (lv_room (Nat.le_of_ble_eq_true rfl)) d_T_mirror_23 ⟨Nat.zero_le _, Nat.zero_le _⟩)) (fun r_3 hr_3 => ?_)
    subst hr_3
    rw [lw_c (v := w9) (lo := 0) (hi := 2) (by decide) (by decide)]
    refine lv_if_ne (tgt := 33) hx hb d_T_mirror_26 (by decide) (fun c_26 => ?_) (fun c_26 => ?_)
    · refine lv_iconst (v := 0) hx hb d_T_mirror_33 (by decide) ?_
      refine va_put (D := D) (ci := 7) (v := .int 0) (ty := .int) (C := Q_T) (T := F_T) (N := 17) hx hb hg in_T tq_T tq_T_ok n_T hown hK hP hD hS 0 rfl rfl 0 (by decide) (hg _ g_639) (fun _ h9 => h9) rfl (by decide +kernel) rfl rfl (Nat.le_of_ble_eq_true rfl) d_T_mirror_34 (fun H locs hP hD hS => ?_)
      have hP : va_P D cls [(o, .inr (7, [.int 0, .int (nI n), .ref dT, .ref gT, .int (nI ns), .ref la, .ref ca, .int (nI nn), .ref aa, .ref na, .ref ya, .int (nI nr), .ref ta, .int be1, .int bp, .long bo1, .int bm1])), (dT, .inl (cI, 64, .inl d)), (gT, .inl (cZ, 64, .inl g)), (la, .inl (cI, 8, .inl sl)), (ca, .inl (cI, 128, .inl cr)), (aa, .inl (cI, 16, .inl ak)), (na, .inl (cI, 16, .inl no)), (ya, .inl (cI, 16, .inl ye)), (ta, .inl (cI, 48, .inl tl))] H := hP
      have hD : va_D A [(o, .inr (7, [.int 0, .int (nI n), .ref dT, .ref gT, .int (nI ns), .ref la, .ref ca, .int (nI nn), .ref aa, .ref na, .ref ya, .int (nI nr), .ref ta, .int be1, .int bp, .long bo1, .int bm1])), (dT, .inl (cI, 64, .inl d)), (gT, .inl (cZ, 64, .inl g)), (la, .inl (cI, 8, .inl sl)), (ca, .inl (cI, 128, .inl cr)), (aa, .inl (cI, 16, .inl ak)), (na, .inl (cI, 16, .inl no)), (ya, .inl (cI, 16, .inl ye)), (ta, .inl (cI, 48, .inl tl))] := hD
      refine lv_aload_n hx hb d_T_mirror_37 rfl (lv_at hl 0 rfl) ?_
      refine va_get (D := D) (ci := 7) (v := .int 0) (C := Q_T) (T := F_T) (N := 17) hx hb hg in_T hown hK hP 0 rfl rfl 0 (by decide) (hg _ g_639) (fun _ h9 => h9) rfl d_T_mirror_38 ?_
      refine lv_if_le (tgt := 48) hx hb d_T_mirror_41 (by decide) (fun c_41 => ?_) (fun c_41 => ?_)
      · refine lv_iload_n hx hb d_T_mirror_48 rfl (lv_at hl 1 rfl) ?_
        refine lv_if_ne (tgt := 60) hx hb d_T_mirror_49 (by decide) (fun c_49 => ?_) (fun c_49 => ?_)
        · refine lv_iload_n hx hb d_T_mirror_60 rfl (lv_at hl 1 rfl) ?_
          refine lv_iconst (v := 1) hx hb d_T_mirror_61 (by decide) ?_
          refine lv_icmp_ne (tgt := 72) hx hb d_T_mirror_62 (by decide) (fun c_62 => ?_) (fun c_62 => ?_)
          · refine lv_aload_n hx hb d_T_mirror_72 rfl (lv_at hl 0 rfl) ?_
            refine va_get (D := D) (ci := 7) (v := .int bm1) (C := Q_T) (T := F_T) (N := 17) hx hb hg in_T hown hK hP 0 rfl rfl 16 (by decide) (hg _ g_655) (fun _ h9 => h9) rfl d_T_mirror_73 ?_
            refine lv_i2l (v := bm1.toInt64) hx hb d_T_mirror_76 rfl ?_
            exact W.lret hx hb hr (fun t9 ht hW => ⟨⟨_, [(o, .inr (7, [.int 0, .int (nI n), .ref dT, .ref gT, .int (nI ns), .ref la, .ref ca, .int (nI nn), .ref aa, .ref na, .ref ya, .int (nI nr), .ref ta, .int be1, .int bp, .long bo1, .int bm1])), (dT, .inl (cI, 64, .inl d)), (gT, .inl (cZ, 64, .inl g)), (la, .inl (cI, 8, .inl sl)), (ca, .inl (cI, 128, .inl cr)), (aa, .inl (cI, 16, .inl ak)), (na, .inl (cI, 16, .inl no)), (ya, .inl (cI, 16, .inl ye)), (ta, .inl (cI, 48, .inl tl))], rfl, Or.inl ⟨cm_0 c_10 c_26, rfl, by unfold aMir; first | rw [if_pos c_49] | rw [if_neg c_49, if_pos c_62] | rw [if_neg c_49, if_neg c_62]⟩, by rw [ht]; exact hP, va_K.moved hW.alike hK, hD⟩, hS.F ht⟩) hS.2.2 d_T_mirror_77
          · refine lv_aload_n hx hb d_T_mirror_65 rfl (lv_at hl 0 rfl) ?_
            refine va_get (D := D) (ci := 7) (v := .long bo1) (C := Q_T) (T := F_T) (N := 17) hx hb hg in_T hown hK hP 0 rfl rfl 15 (by decide) (hg _ g_654) (fun _ h9 => h9) rfl d_T_mirror_66 ?_
            refine lv_goto (tgt := 77) hx hb d_T_mirror_69 (by decide) ?_
            exact W.lret hx hb hr (fun t9 ht hW => ⟨⟨_, [(o, .inr (7, [.int 0, .int (nI n), .ref dT, .ref gT, .int (nI ns), .ref la, .ref ca, .int (nI nn), .ref aa, .ref na, .ref ya, .int (nI nr), .ref ta, .int be1, .int bp, .long bo1, .int bm1])), (dT, .inl (cI, 64, .inl d)), (gT, .inl (cZ, 64, .inl g)), (la, .inl (cI, 8, .inl sl)), (ca, .inl (cI, 128, .inl cr)), (aa, .inl (cI, 16, .inl ak)), (na, .inl (cI, 16, .inl no)), (ya, .inl (cI, 16, .inl ye)), (ta, .inl (cI, 48, .inl tl))], rfl, Or.inl ⟨cm_0 c_10 c_26, rfl, by unfold aMir; first | rw [if_pos c_49] | rw [if_neg c_49, if_pos c_62] | rw [if_neg c_49, if_neg c_62]⟩, by rw [ht]; exact hP, va_K.moved hW.alike hK, hD⟩, hS.F ht⟩) hS.2.2 d_T_mirror_77
        · refine lv_aload_n hx hb d_T_mirror_52 rfl (lv_at hl 0 rfl) ?_
          refine va_get (D := D) (ci := 7) (v := .int be1) (C := Q_T) (T := F_T) (N := 17) hx hb hg in_T hown hK hP 0 rfl rfl 13 (by decide) (hg _ g_652) (fun _ h9 => h9) rfl d_T_mirror_53 ?_
          refine lv_i2l (v := be1.toInt64) hx hb d_T_mirror_56 rfl ?_
          refine lv_goto (tgt := 77) hx hb d_T_mirror_57 (by decide) ?_
          exact W.lret hx hb hr (fun t9 ht hW => ⟨⟨_, [(o, .inr (7, [.int 0, .int (nI n), .ref dT, .ref gT, .int (nI ns), .ref la, .ref ca, .int (nI nn), .ref aa, .ref na, .ref ya, .int (nI nr), .ref ta, .int be1, .int bp, .long bo1, .int bm1])), (dT, .inl (cI, 64, .inl d)), (gT, .inl (cZ, 64, .inl g)), (la, .inl (cI, 8, .inl sl)), (ca, .inl (cI, 128, .inl cr)), (aa, .inl (cI, 16, .inl ak)), (na, .inl (cI, 16, .inl no)), (ya, .inl (cI, 16, .inl ye)), (ta, .inl (cI, 48, .inl tl))], rfl, Or.inl ⟨cm_0 c_10 c_26, rfl, by unfold aMir; first | rw [if_pos c_49] | rw [if_neg c_49, if_pos c_62] | rw [if_neg c_49, if_neg c_62]⟩, by rw [ht]; exact hP, va_K.moved hW.alike hK, hD⟩, hS.F ht⟩) hS.2.2 d_T_mirror_77
      · exact absurd c_41 (by decide)
    · refine lv_iconst (v := 2) hx hb d_T_mirror_29 (by decide) ?_
      refine lv_goto (tgt := 34) hx hb d_T_mirror_30 (by decide) ?_
      refine va_put (D := D) (ci := 7) (v := .int 2) (ty := .int) (C := Q_T) (T := F_T) (N := 17) hx hb hg in_T tq_T tq_T_ok n_T hown hK hP hD hS 0 rfl rfl 0 (by decide) (hg _ g_639) (fun _ h9 => h9) rfl (by decide +kernel) rfl rfl (Nat.le_of_ble_eq_true rfl) d_T_mirror_34 (fun H locs hP hD hS => ?_)
      have hP : va_P D cls [(o, .inr (7, [.int 2, .int (nI n), .ref dT, .ref gT, .int (nI ns), .ref la, .ref ca, .int (nI nn), .ref aa, .ref na, .ref ya, .int (nI nr), .ref ta, .int be1, .int bp, .long bo1, .int bm1])), (dT, .inl (cI, 64, .inl d)), (gT, .inl (cZ, 64, .inl g)), (la, .inl (cI, 8, .inl sl)), (ca, .inl (cI, 128, .inl cr)), (aa, .inl (cI, 16, .inl ak)), (na, .inl (cI, 16, .inl no)), (ya, .inl (cI, 16, .inl ye)), (ta, .inl (cI, 48, .inl tl))] H := hP
      have hD : va_D A [(o, .inr (7, [.int 2, .int (nI n), .ref dT, .ref gT, .int (nI ns), .ref la, .ref ca, .int (nI nn), .ref aa, .ref na, .ref ya, .int (nI nr), .ref ta, .int be1, .int bp, .long bo1, .int bm1])), (dT, .inl (cI, 64, .inl d)), (gT, .inl (cZ, 64, .inl g)), (la, .inl (cI, 8, .inl sl)), (ca, .inl (cI, 128, .inl cr)), (aa, .inl (cI, 16, .inl ak)), (na, .inl (cI, 16, .inl no)), (ya, .inl (cI, 16, .inl ye)), (ta, .inl (cI, 48, .inl tl))] := hD
      refine lv_aload_n hx hb d_T_mirror_37 rfl (lv_at hl 0 rfl) ?_
      refine va_get (D := D) (ci := 7) (v := .int 2) (C := Q_T) (T := F_T) (N := 17) hx hb hg in_T hown hK hP 0 rfl rfl 0 (by decide) (hg _ g_639) (fun _ h9 => h9) rfl d_T_mirror_38 ?_
      refine lv_if_le (tgt := 48) hx hb d_T_mirror_41 (by decide) (fun c_41 => ?_) (fun c_41 => ?_)
      · exact absurd c_41 (by decide)
      · refine lv_lconst (v := 0) hx hb d_T_mirror_44 (by decide) ?_
        refine lv_goto (tgt := 77) hx hb d_T_mirror_45 (by decide) ?_
        exact W.lret hx hb hr (fun t9 ht hW => ⟨⟨_, [(o, .inr (7, [.int 2, .int (nI n), .ref dT, .ref gT, .int (nI ns), .ref la, .ref ca, .int (nI nn), .ref aa, .ref na, .ref ya, .int (nI nr), .ref ta, .int be1, .int bp, .long bo1, .int bm1])), (dT, .inl (cI, 64, .inl d)), (gT, .inl (cZ, 64, .inl g)), (la, .inl (cI, 8, .inl sl)), (ca, .inl (cI, 128, .inl cr)), (aa, .inl (cI, 16, .inl ak)), (na, .inl (cI, 16, .inl no)), (ya, .inl (cI, 16, .inl ye)), (ta, .inl (cI, 48, .inl tl))], rfl, Or.inr ⟨by first | (rw [cm_1 c_10]; decide) | (rw [cm_2 c_10 c_26]; decide), by first | rw [cm_1 c_10] | rw [cm_2 c_10 c_26]⟩, by rw [ht]; exact hP, va_K.moved hW.alike hK, hD⟩, hS.F ht⟩) hS.2.2 d_T_mirror_77
  · refine lv_iconst (v := 1) hx hb d_T_mirror_13 (by decide) ?_
    refine lv_goto (tgt := 34) hx hb d_T_mirror_14 (by decide) ?_
    refine va_put (D := D) (ci := 7) (v := .int 1) (ty := .int) (C := Q_T) (T := F_T) (N := 17) hx hb hg in_T tq_T tq_T_ok n_T hown hK hP hD hS 0 rfl rfl 0 (by decide) (hg _ g_639) (fun _ h9 => h9) rfl (by decide +kernel) rfl rfl (Nat.le_of_ble_eq_true rfl) d_T_mirror_34 (fun H locs hP hD hS => ?_)
    have hP : va_P D cls [(o, .inr (7, [.int 1, .int (nI n), .ref dT, .ref gT, .int (nI ns), .ref la, .ref ca, .int (nI nn), .ref aa, .ref na, .ref ya, .int (nI nr), .ref ta, .int be1, .int bp, .long bo1, .int bm1])), (dT, .inl (cI, 64, .inl d)), (gT, .inl (cZ, 64, .inl g)), (la, .inl (cI, 8, .inl sl)), (ca, .inl (cI, 128, .inl cr)), (aa, .inl (cI, 16, .inl ak)), (na, .inl (cI, 16, .inl no)), (ya, .inl (cI, 16, .inl ye)), (ta, .inl (cI, 48, .inl tl))] H := hP
    have hD : va_D A [(o, .inr (7, [.int 1, .int (nI n), .ref dT, .ref gT, .int (nI ns), .ref la, .ref ca, .int (nI nn), .ref aa, .ref na, .ref ya, .int (nI nr), .ref ta, .int be1, .int bp, .long bo1, .int bm1])), (dT, .inl (cI, 64, .inl d)), (gT, .inl (cZ, 64, .inl g)), (la, .inl (cI, 8, .inl sl)), (ca, .inl (cI, 128, .inl cr)), (aa, .inl (cI, 16, .inl ak)), (na, .inl (cI, 16, .inl no)), (ya, .inl (cI, 16, .inl ye)), (ta, .inl (cI, 48, .inl tl))] := hD
    refine lv_aload_n hx hb d_T_mirror_37 rfl (lv_at hl 0 rfl) ?_
    refine va_get (D := D) (ci := 7) (v := .int 1) (C := Q_T) (T := F_T) (N := 17) hx hb hg in_T hown hK hP 0 rfl rfl 0 (by decide) (hg _ g_639) (fun _ h9 => h9) rfl d_T_mirror_38 ?_
    refine lv_if_le (tgt := 48) hx hb d_T_mirror_41 (by decide) (fun c_41 => ?_) (fun c_41 => ?_)
    · exact absurd c_41 (by decide)
    · refine lv_lconst (v := 0) hx hb d_T_mirror_44 (by decide) ?_
      refine lv_goto (tgt := 77) hx hb d_T_mirror_45 (by decide) ?_
      exact W.lret hx hb hr (fun t9 ht hW => ⟨⟨_, [(o, .inr (7, [.int 1, .int (nI n), .ref dT, .ref gT, .int (nI ns), .ref la, .ref ca, .int (nI nn), .ref aa, .ref na, .ref ya, .int (nI nr), .ref ta, .int be1, .int bp, .long bo1, .int bm1])), (dT, .inl (cI, 64, .inl d)), (gT, .inl (cZ, 64, .inl g)), (la, .inl (cI, 8, .inl sl)), (ca, .inl (cI, 128, .inl cr)), (aa, .inl (cI, 16, .inl ak)), (na, .inl (cI, 16, .inl no)), (ya, .inl (cI, 16, .inl ye)), (ta, .inl (cI, 48, .inl tl))], rfl, Or.inr ⟨by first | (rw [cm_1 c_10]; decide) | (rw [cm_2 c_10 c_26]; decide), by first | rw [cm_1 c_10] | rw [cm_2 c_10 c_26]⟩, by rw [ht]; exact hP, va_K.moved hW.alike hK, hD⟩, hS.F ht⟩) hS.2.2 d_T_mirror_77
