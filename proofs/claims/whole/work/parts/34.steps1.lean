
/-! the class's cells in blocks -/
/-- a list: its object's cell and its array's -/
def lso (cO : ClassId) (e0 c : Nat) (f : Nat → Option Nat) (cl : va_E) (a : va_W) : Prop := ∃ x : Int32, (c = 0 ∧ cl = .inr (0, [.int x, .ref e0, .int 0]) ∧ a = []) ∨ ∃ ea n1 : Nat, 0 < c ∧ c ≤ n1 ∧ (n1 = 10 ∨ n1 = 15 ∨ n1 = 22) ∧ cl = .inr (0, [.int x, .ref ea, .int (nI c)]) ∧ a = [(ea, .inl (cO, n1, .inr (.inr (.inr (.inr f)))))]
theorem lso_r {cO : ClassId} {e0 c : Nat} {f : Nat → Option Nat} {cl : va_E} {a : va_W} (h : lso cO e0 c f cl a) : ∃ (x : Int32) (ea n1 : Nat), cl = .inr (0, [.int x, .ref ea, .int (nI c)]) ∧ (c ≤ 22 → c ≤ n1) ∧ n1 ≤ 22 ∧ (0 < c → (ea, .inl (cO, n1, .inr (.inr (.inr (.inr f))))) ∈ a) := by
  obtain ⟨x, ⟨rfl, h1, h2⟩ | ⟨ea, n1, h0, h1, h2, h3, h4⟩⟩ := h
  · exact ⟨x, e0, 22, h1, fun h => h, Nat.le_refl _, fun h => absurd h (Nat.lt_irrefl 0)⟩
  · exact ⟨x, ea, n1, h3, fun _ => h1, by omega, fun _ => by rw [h4]; exact List.mem_singleton.mpr rfl⟩
def shF (cI : ClassId) (qs sa Ls : Nat → Nat) (cs : Nat → Nat → Int32) (i : Nat) : va_W := [(qs i, .inr (4, [.ref (sa i)])), (sa i, .inl (cI, Ls i, .inl (cs i)))]
def ndF (qn : Nat → Nat) (ak no ye : Nat → Int32) (i : Nat) : va_W := [(qn i, .inr (5, [.int (nA ak i), .int (nB ak i), .int (nX ak no i), .int (nX ak ye i)]))]
def ruF (qu : Nat → Nat) (tl : Nat → Int32) (i : Nat) : va_W := [(qu i, .inr (6, [.int (tl (6 * i)), .int (tl (6 * i + 1)), .int (tl (6 * i + 2)), .int (tl (6 * i + 3)), .int (tl (6 * i + 4)), .int (tl (6 * i + 5))]))]
def cB (mo row bes : va_W) (l1 l2 l3 : Nat) (c1 c2 c3 : va_E) (sh nd ru a1 a2 a3 nw : va_W) : Nat → va_W
  | 0 => mo
  | 1 => row
  | 2 => bes
  | 3 => [(l1, c1)]
  | 4 => [(l2, c2)]
  | 5 => [(l3, c3)]
  | 6 => sh
  | 7 => nd
  | 8 => ru
  | 9 => a1
  | 10 => a2
  | 11 => a3
  | 12 => nw
  | _ => []
abbrev oMO (o r0 l1 l2 l3 bb : Nat) : va_W := [(o, .inr (3, [.ref r0, .ref l1, .ref l2, .ref l3, .ref bb]))]
abbrev oBB (bb : Nat) (fo wh t2 to co : Int32) : va_W := [(bb, .inr (1, [.int fo, .int wh, .int t2, .int to, .int co]))]
/-- THE CLASS'S STATE, told by the reference's: u are its cells, in any order -/
def CI (cI cZ cO : ClassId) (e0 o n : Nat) (d g : Nat → Int32) (ns : Nat) (sl cr : Nat → Int32) (nn : Nat) (ak no ye : Nat → Int32) (nr : Nat) (tl : Nat → Int32) (u : va_W) : Prop :=
  ∃ (r0 l1 l2 l3 bb da ga : Nat) (fo wh t2 to co : Int32) (f1 f2 f3 : Nat → Option Nat) (c1 c2 c3 : va_E) (a1 a2 a3 : va_W) (qs sa Ls : Nat → Nat) (cs : Nat → Nat → Int32) (qn qu : Nat → Nat),
    lso cO e0 ns f1 c1 a1 ∧ lso cO e0 nn f2 c2 a2 ∧ lso cO e0 nr f3 c3 a3 ∧ (∀ i, i < ns → f1 i = some (qs i)) ∧ (∀ i, i < nn → f2 i = some (qn i)) ∧ (∀ i, i < nr → f3 i = some (qu i)) ∧ sR ns Ls cs sl cr ∧
    u.Perm ((List.range 13).flatMap (cB (oMO o r0 l1 l2 l3 bb) (rowW cI cZ r0 da ga n d g) (oBB bb fo wh t2 to co) l1 l2 l3 c1 c2 c3 ((List.range ns).flatMap (shF cI qs sa Ls cs)) ((List.range nn).flatMap (ndF qn ak no ye)) ((List.range nr).flatMap (ruF qu tl)) a1 a2 a3 []))
theorem blk {B : Nat → va_W} {u : va_W} (h : u.Perm ((List.range 13).flatMap B)) (is js : List Nat) (hp : (List.range 13).Perm (is ++ js)) : u.Perm (is.flatMap B ++ js.flatMap B) := by
  refine h.trans ?_
  rw [← List.flatMap_append]; exact hp.flatMap_right B
theorem blk2 {B : Nat → va_W} (is js : List Nat) (hp : (List.range 13).Perm (is ++ js)) : (is.flatMap B ++ js.flatMap B).Perm ((List.range 13).flatMap B) := by
  rw [← List.flatMap_append]; exact (hp.flatMap_right B).symm
theorem mrg {B B' : Nat → va_W} {k : Nat} {js : List Nat} (hp : (List.range 13).Perm ([k, 12] ++ js)) (hk : B' k = B k ++ B 12) (h12 : B' 12 = []) (hj : js.flatMap B' = js.flatMap B) : ((List.range 13).flatMap B).Perm ((List.range 13).flatMap B') := by
  have e1 := hp.flatMap_right B
  have e2 := hp.flatMap_right B'
  rw [List.flatMap_append] at e1 e2
  refine e1.trans (List.Perm.trans ?_ e2.symm)
  have : [k, 12].flatMap B' = [k, 12].flatMap B := by simp [List.flatMap_cons, hk, h12]
  rw [hj, this]
theorem fm_congr {F F' : Nat → va_W} : ∀ (L : List Nat), (∀ i ∈ L, F' i = F i) → L.flatMap F' = L.flatMap F
  | [], _ => rfl
  | a :: L, h => by
    rw [List.flatMap_cons, List.flatMap_cons, h a List.mem_cons_self, fm_congr L (fun i hi => h i (List.mem_cons_of_mem _ hi))]
theorem ext_f {F F' : Nat → va_W} {m : Nat} (h : ∀ i, i < m → F' i = F i) : (List.range (m + 1)).flatMap F' = (List.range m).flatMap F ++ F' m := by
  rw [List.range_succ, List.flatMap_append, fm_congr _ (fun i hi => h i (List.mem_range.mp hi)), List.flatMap_cons, List.flatMap_nil, List.append_nil]
theorem mem_f {F : Nat → va_W} {m i : Nat} {q : Nat × va_E} (hi : i < m) (h : q ∈ F i) : q ∈ (List.range m).flatMap F := List.mem_flatMap.mpr ⟨i, List.mem_range.mpr hi, h⟩
theorem at_f {F : Nat → va_W} {m i : Nat} (hi : i < m) : ((List.range m).flatMap F).Perm (F i ++ ((List.range m).erase i).flatMap F) := by
  have := (List.perm_cons_erase (List.mem_range.mpr hi)).flatMap_right F
  rw [List.flatMap_cons] at this
  exact this
theorem er_f {F F' : Nat → va_W} {m i : Nat} (h : ∀ j, j ≠ i → F' j = F j) : ((List.range m).erase i).flatMap F' = ((List.range m).erase i).flatMap F := by
  refine fm_congr _ (fun j hj => h j ?_)
  intro e
  subst e
  exact (List.nodup_range.not_mem_erase) hj
theorem CI.o {cI cZ cO : ClassId} {e0 o n : Nat} {d g : Nat → Int32} {ns : Nat} {sl cr : Nat → Int32} {nn : Nat} {ak no ye : Nat → Int32} {nr : Nat} {tl : Nat → Int32} {u : va_W} (h : CI cI cZ cO e0 o n d g ns sl cr nn ak no ye nr tl u) : ∃ fs, (o, .inr (3, fs)) ∈ u := by
  obtain ⟨r0, l1, l2, l3, bb, da, ga, fo, wh, t2, to, co, f1, f2, f3, c1, c2, c3, a1, a2, a3, qs, sa, Ls, cs, qn, qu, hs1, hs2, hs3, hq1, hq2, hq3, hR, hp⟩ := h
  refine ⟨[.ref r0, .ref l1, .ref l2, .ref l3, .ref bb], hp.mem_iff.mpr (List.mem_flatMap.mpr ⟨0, List.mem_range.mpr (by omega), ?_⟩)⟩
  exact List.mem_cons_self
theorem CI.sl {cI cZ cO : ClassId} {e0 o n : Nat} {d g : Nat → Int32} {ns : Nat} {sl cr : Nat → Int32} {nn : Nat} {ak no ye : Nat → Int32} {nr : Nat} {tl : Nat → Int32} {u : va_W} (h : CI cI cZ cO e0 o n d g ns sl cr nn ak no ye nr tl u) : ∀ i, i < ns → 2 ≤ (sl i).toInt ∧ (sl i).toInt ≤ 16 := by
  obtain ⟨r0, l1, l2, l3, bb, da, ga, fo, wh, t2, to, co, f1, f2, f3, c1, c2, c3, a1, a2, a3, qs, sa, Ls, cs, qn, qu, hs1, hs2, hs3, hq1, hq2, hq3, hR, hp⟩ := h
  intro i hi
  obtain ⟨h1, h2, h3, -⟩ := hR i hi
  rw [h1, nI_toInt (by omega)]; omega

set_option maxHeartbeats 4000000 in
set_option maxRecDepth 100000 in
theorem K_depth (l : Launch) (hlt : l.stackTraces = false) (D : va_G) (cI cZ cJ cO : ClassId) (e0 mi o n : Nat) (d g : Nat → Int32) (ns : Nat) (sl cr : Nat → Int32) (nn : Nat) (ak no ye : Nat → Int32) (nr : Nat) (tl : Nat → Int32) (h4 : 4 ≤ n) (h64 : n ≤ 64) (u0 : va_W) (h : CI cI cZ cO e0 o n d g ns sl cr nn ak no ye nr tl u0) (p0 p1 : Int32) : ∀ sz, vx_Met l y_M_depth (wq y_M_depth c_M_depth 3 none) ({ frames := 6, cells := 1, slots := 6, locals := 100 }) (kP D (TY cI cZ cJ cO) u0 [.ref o, .int p0, .int p1] sz e0 mi) (va_Qv (fun (u : va_W) => cDep n p0 p1 = 0 ∧ CI cI cZ cO e0 o n (dDep n d p0 p1) (gDep n g p0 p1) ns sl cr nn ak no ye nr tl u) (mB D (TY cI cZ cJ cO) (va_A u0 sz)) (va_A u0 sz)) (vx_X (fun u => CI cI cZ cO e0 o n d g ns sl cr nn ak no ye nr tl u) (xB D (TY cI cZ cJ cO) (va_A u0 sz) (fun E => (cDep n p0 p1 = 1 ∧ E = eI) ∨ (cDep n p0 p1 = 2 ∧ E = eA))) (va_A u0 sz)) 1 6 (va_A u0 sz) := by
  intro sz
  obtain ⟨r0, l1, l2, l3, bb, da, ga, fo, wh, t2, to, co, f1, f2, f3, c1, c2, c3, a1, a2, a3, qs, sa, Ls, cs, qn, qu, hs1, hs2, hs3, hq1, hq2, hq3, hR, hp⟩ := h
  have hp1 := blk hp [0, 1] [2, 3, 4, 5, 6, 7, 8, 9, 10, 11, 12] (by decide)
  refine xframe_v hp1 (c_M_depth_ok l hlt D cI cZ cJ cO sz o r0 l1 l2 l3 bb da ga n d g h4 h64 p0 p1) (fun a U h9 => h9.t hp1) ?_ ?_ (fun E hE => hE)
  · rintro u ⟨hc, rfl⟩
    exact ⟨hc, by rw [dDep, gDep, if_pos hc, if_pos hc]; exact ⟨r0, l1, l2, l3, bb, da, ga, fo, wh, t2, to, co, f1, f2, f3, c1, c2, c3, a1, a2, a3, qs, sa, Ls, cs, qn, qu, hs1, hs2, hs3, hq1, hq2, hq3, hR, (blk2 (B := (cB (oMO o r0 l1 l2 l3 bb) (rowW cI cZ r0 da ga n (upd d p0.toNatClampNeg p1) (upd g p0.toNatClampNeg 0)) (oBB bb fo wh t2 to co) l1 l2 l3 c1 c2 c3 ((List.range ns).flatMap (shF cI qs sa Ls cs)) ((List.range nn).flatMap (ndF qn ak no ye)) ((List.range nr).flatMap (ruF qu tl)) a1 a2 a3 [])) [0, 1] [2, 3, 4, 5, 6, 7, 8, 9, 10, 11, 12] (by decide))⟩⟩
  · rintro u rfl
    exact ⟨r0, l1, l2, l3, bb, da, ga, fo, wh, t2, to, co, f1, f2, f3, c1, c2, c3, a1, a2, a3, qs, sa, Ls, cs, qn, qu, hs1, hs2, hs3, hq1, hq2, hq3, hR, (blk2 (B := (cB (oMO o r0 l1 l2 l3 bb) (rowW cI cZ r0 da ga n d g) (oBB bb fo wh t2 to co) l1 l2 l3 c1 c2 c3 ((List.range ns).flatMap (shF cI qs sa Ls cs)) ((List.range nn).flatMap (ndF qn ak no ye)) ((List.range nr).flatMap (ruF qu tl)) a1 a2 a3 [])) [0, 1] [2, 3, 4, 5, 6, 7, 8, 9, 10, 11, 12] (by decide))⟩

set_option maxHeartbeats 4000000 in
set_option maxRecDepth 100000 in
theorem K_place (l : Launch) (hlt : l.stackTraces = false) (D : va_G) (cI cZ cJ cO : ClassId) (e0 mi o n : Nat) (d g : Nat → Int32) (ns : Nat) (sl cr : Nat → Int32) (nn : Nat) (ak no ye : Nat → Int32) (nr : Nat) (tl : Nat → Int32) (h4 : 4 ≤ n) (h64 : n ≤ 64) (u0 : va_W) (h : CI cI cZ cO e0 o n d g ns sl cr nn ak no ye nr tl u0) (p0 p1 : Int32) : ∀ sz, vx_Met l y_M_place (wq y_M_place c_M_place 3 (some .int)) ({ frames := 6, cells := 1, slots := 6, locals := 100 }) (kP D (TY cI cZ cJ cO) u0 [.ref o, .int p0, .int p1] sz e0 mi) (va_Qi (fun (r : Int32) (u : va_W) => cPla n p0 p1 = 0 ∧ r = aPla d g p0 p1 ∧ CI cI cZ cO e0 o n d g ns sl cr nn ak no ye nr tl u) (mB D (TY cI cZ cJ cO) (va_A u0 sz)) (va_A u0 sz)) (vx_X (fun u => CI cI cZ cO e0 o n d g ns sl cr nn ak no ye nr tl u) (xB D (TY cI cZ cJ cO) (va_A u0 sz) (fun E => (cPla n p0 p1 = 1 ∧ E = eI))) (va_A u0 sz)) 1 6 (va_A u0 sz) := by
  intro sz
  obtain ⟨r0, l1, l2, l3, bb, da, ga, fo, wh, t2, to, co, f1, f2, f3, c1, c2, c3, a1, a2, a3, qs, sa, Ls, cs, qn, qu, hs1, hs2, hs3, hq1, hq2, hq3, hR, hp⟩ := h
  have hp1 := blk hp [0, 1] [2, 3, 4, 5, 6, 7, 8, 9, 10, 11, 12] (by decide)
  refine xframe_i hp1 (c_M_place_ok l hlt D cI cZ cJ cO sz o r0 l1 l2 l3 bb da ga n d g h4 h64 p0 p1) (fun a U h9 => h9.t hp1) ?_ ?_ (fun E hE => hE)
  · rintro r u ⟨hc, rfl, hr⟩
    exact ⟨hc, hr, ⟨r0, l1, l2, l3, bb, da, ga, fo, wh, t2, to, co, f1, f2, f3, c1, c2, c3, a1, a2, a3, qs, sa, Ls, cs, qn, qu, hs1, hs2, hs3, hq1, hq2, hq3, hR, (blk2 (B := (cB (oMO o r0 l1 l2 l3 bb) (rowW cI cZ r0 da ga n d g) (oBB bb fo wh t2 to co) l1 l2 l3 c1 c2 c3 ((List.range ns).flatMap (shF cI qs sa Ls cs)) ((List.range nn).flatMap (ndF qn ak no ye)) ((List.range nr).flatMap (ruF qu tl)) a1 a2 a3 [])) [0, 1] [2, 3, 4, 5, 6, 7, 8, 9, 10, 11, 12] (by decide))⟩⟩
  · rintro u rfl
    exact ⟨r0, l1, l2, l3, bb, da, ga, fo, wh, t2, to, co, f1, f2, f3, c1, c2, c3, a1, a2, a3, qs, sa, Ls, cs, qn, qu, hs1, hs2, hs3, hq1, hq2, hq3, hR, (blk2 (B := (cB (oMO o r0 l1 l2 l3 bb) (rowW cI cZ r0 da ga n d g) (oBB bb fo wh t2 to co) l1 l2 l3 c1 c2 c3 ((List.range ns).flatMap (shF cI qs sa Ls cs)) ((List.range nn).flatMap (ndF qn ak no ye)) ((List.range nr).flatMap (ruF qu tl)) a1 a2 a3 [])) [0, 1] [2, 3, 4, 5, 6, 7, 8, 9, 10, 11, 12] (by decide))⟩

set_option maxHeartbeats 4000000 in
set_option maxRecDepth 100000 in
theorem K_sum (l : Launch) (hlt : l.stackTraces = false) (D : va_G) (cI cZ cJ cO : ClassId) (e0 mi o n : Nat) (d g : Nat → Int32) (ns : Nat) (sl cr : Nat → Int32) (nn : Nat) (ak no ye : Nat → Int32) (nr : Nat) (tl : Nat → Int32) (h4 : 4 ≤ n) (h64 : n ≤ 64) (u0 : va_W) (h : CI cI cZ cO e0 o n d g ns sl cr nn ak no ye nr tl u0) (p0 : Int32) : ∀ sz, vx_Met l y_M_sum (wq y_M_sum c_M_sum 2 (some .long)) ({ frames := 6, cells := 1, slots := 6, locals := 100 }) (kP D (TY cI cZ cJ cO) u0 [.ref o, .int p0] sz e0 mi) (va_Ql (fun (r : Int64) (u : va_W) => cSum n p0 = 0 ∧ r = rsv n d g p0.toNatClampNeg ∧ CI cI cZ cO e0 o n d g ns sl cr nn ak no ye nr tl u) (mB D (TY cI cZ cJ cO) (va_A u0 sz)) (va_A u0 sz)) (vx_X (fun u => CI cI cZ cO e0 o n d g ns sl cr nn ak no ye nr tl u) (xB D (TY cI cZ cJ cO) (va_A u0 sz) (fun E => (cSum n p0 = 1 ∧ E = eA))) (va_A u0 sz)) 1 6 (va_A u0 sz) := by
  intro sz
  obtain ⟨r0, l1, l2, l3, bb, da, ga, fo, wh, t2, to, co, f1, f2, f3, c1, c2, c3, a1, a2, a3, qs, sa, Ls, cs, qn, qu, hs1, hs2, hs3, hq1, hq2, hq3, hR, hp⟩ := h
  have hp1 := blk hp [0, 1] [2, 3, 4, 5, 6, 7, 8, 9, 10, 11, 12] (by decide)
  refine xframe_l hp1 (c_M_sum_ok l hlt D cI cZ cJ cO sz o r0 l1 l2 l3 bb da ga n d g h4 h64 p0) (fun a U h9 => h9.t hp1) ?_ ?_ (fun E hE => hE)
  · rintro r u ⟨hc, rfl, hr⟩
    exact ⟨hc, hr, ⟨r0, l1, l2, l3, bb, da, ga, fo, wh, t2, to, co, f1, f2, f3, c1, c2, c3, a1, a2, a3, qs, sa, Ls, cs, qn, qu, hs1, hs2, hs3, hq1, hq2, hq3, hR, (blk2 (B := (cB (oMO o r0 l1 l2 l3 bb) (rowW cI cZ r0 da ga n d g) (oBB bb fo wh t2 to co) l1 l2 l3 c1 c2 c3 ((List.range ns).flatMap (shF cI qs sa Ls cs)) ((List.range nn).flatMap (ndF qn ak no ye)) ((List.range nr).flatMap (ruF qu tl)) a1 a2 a3 [])) [0, 1] [2, 3, 4, 5, 6, 7, 8, 9, 10, 11, 12] (by decide))⟩⟩
  · rintro u rfl
    exact ⟨r0, l1, l2, l3, bb, da, ga, fo, wh, t2, to, co, f1, f2, f3, c1, c2, c3, a1, a2, a3, qs, sa, Ls, cs, qn, qu, hs1, hs2, hs3, hq1, hq2, hq3, hR, (blk2 (B := (cB (oMO o r0 l1 l2 l3 bb) (rowW cI cZ r0 da ga n d g) (oBB bb fo wh t2 to co) l1 l2 l3 c1 c2 c3 ((List.range ns).flatMap (shF cI qs sa Ls cs)) ((List.range nn).flatMap (ndF qn ak no ye)) ((List.range nr).flatMap (ruF qu tl)) a1 a2 a3 [])) [0, 1] [2, 3, 4, 5, 6, 7, 8, 9, 10, 11, 12] (by decide))⟩

set_option maxHeartbeats 4000000 in
set_option maxRecDepth 100000 in
theorem K_repeat_ (l : Launch) (hlt : l.stackTraces = false) (D : va_G) (cI cZ cJ cO : ClassId) (e0 mi o n : Nat) (d g : Nat → Int32) (ns : Nat) (sl cr : Nat → Int32) (nn : Nat) (ak no ye : Nat → Int32) (nr : Nat) (tl : Nat → Int32) (h4 : 4 ≤ n) (h64 : n ≤ 64) (u0 : va_W) (h : CI cI cZ cO e0 o n d g ns sl cr nn ak no ye nr tl u0) (p0 p1 : Int32) : ∀ sz, vx_Met l y_M_repeat_ (wq y_M_repeat_ c_M_repeat_ 10 (some .int)) ({ frames := 6, cells := 1, slots := 6, locals := 100 }) (kP D (TY cI cZ cJ cO) u0 [.ref o, .int p0, .int p1] sz e0 mi) (va_Qi (fun (r : Int32) (u : va_W) => cRep n p0 p1 = 0 ∧ r = nI (rp n d g p0.toNatClampNeg (p1.toNatClampNeg - p0.toNatClampNeg)) ∧ CI cI cZ cO e0 o n d g ns sl cr nn ak no ye nr tl u) (mB D (TY cI cZ cJ cO) (va_A u0 sz)) (va_A u0 sz)) (vx_X (fun u => CI cI cZ cO e0 o n d g ns sl cr nn ak no ye nr tl u) (xB D (TY cI cZ cJ cO) (va_A u0 sz) (fun E => (cRep n p0 p1 = 1 ∧ E = eA))) (va_A u0 sz)) 1 6 (va_A u0 sz) := by
  intro sz
  obtain ⟨r0, l1, l2, l3, bb, da, ga, fo, wh, t2, to, co, f1, f2, f3, c1, c2, c3, a1, a2, a3, qs, sa, Ls, cs, qn, qu, hs1, hs2, hs3, hq1, hq2, hq3, hR, hp⟩ := h
  have hp1 := blk hp [0, 1] [2, 3, 4, 5, 6, 7, 8, 9, 10, 11, 12] (by decide)
  refine xframe_i hp1 (c_M_repeat__ok l hlt D cI cZ cJ cO sz o r0 l1 l2 l3 bb da ga n d g h4 h64 p0 p1) (fun a U h9 => h9.t hp1) ?_ ?_ (fun E hE => hE)
  · rintro r u ⟨hc, rfl, hr⟩
    exact ⟨hc, hr, ⟨r0, l1, l2, l3, bb, da, ga, fo, wh, t2, to, co, f1, f2, f3, c1, c2, c3, a1, a2, a3, qs, sa, Ls, cs, qn, qu, hs1, hs2, hs3, hq1, hq2, hq3, hR, (blk2 (B := (cB (oMO o r0 l1 l2 l3 bb) (rowW cI cZ r0 da ga n d g) (oBB bb fo wh t2 to co) l1 l2 l3 c1 c2 c3 ((List.range ns).flatMap (shF cI qs sa Ls cs)) ((List.range nn).flatMap (ndF qn ak no ye)) ((List.range nr).flatMap (ruF qu tl)) a1 a2 a3 [])) [0, 1] [2, 3, 4, 5, 6, 7, 8, 9, 10, 11, 12] (by decide))⟩⟩
  · rintro u rfl
    exact ⟨r0, l1, l2, l3, bb, da, ga, fo, wh, t2, to, co, f1, f2, f3, c1, c2, c3, a1, a2, a3, qs, sa, Ls, cs, qn, qu, hs1, hs2, hs3, hq1, hq2, hq3, hR, (blk2 (B := (cB (oMO o r0 l1 l2 l3 bb) (rowW cI cZ r0 da ga n d g) (oBB bb fo wh t2 to co) l1 l2 l3 c1 c2 c3 ((List.range ns).flatMap (shF cI qs sa Ls cs)) ((List.range nn).flatMap (ndF qn ak no ye)) ((List.range nr).flatMap (ruF qu tl)) a1 a2 a3 [])) [0, 1] [2, 3, 4, 5, 6, 7, 8, 9, 10, 11, 12] (by decide))⟩

set_option maxHeartbeats 4000000 in
set_option maxRecDepth 100000 in
theorem K_fill (l : Launch) (hlt : l.stackTraces = false) (D : va_G) (cI cZ cJ cO : ClassId) (e0 mi o n : Nat) (d g : Nat → Int32) (ns : Nat) (sl cr : Nat → Int32) (nn : Nat) (ak no ye : Nat → Int32) (nr : Nat) (tl : Nat → Int32) (h4 : 4 ≤ n) (h64 : n ≤ 64) (u0 : va_W) (h : CI cI cZ cO e0 o n d g ns sl cr nn ak no ye nr tl u0) (p0 p1 : Int32) : ∀ sz, vx_Met l y_M_fill (wq y_M_fill c_M_fill 3 (some .int)) ({ frames := 6, cells := 1, slots := 6, locals := 100 }) (kP D (TY cI cZ cJ cO) u0 [.ref o, .int p0, .int p1] sz e0 mi) (va_Qi (fun (r : Int32) (u : va_W) => cFil n p0 p1 = 0 ∧ r = nI (fil n d g p0 p1).2.2 ∧ CI cI cZ cO e0 o n ((fil n d g p0 p1).1) ((fil n d g p0 p1).2.1) ns sl cr nn ak no ye nr tl u) (mB D (TY cI cZ cJ cO) (va_A u0 sz)) (va_A u0 sz)) (vx_X (fun u => CI cI cZ cO e0 o n d g ns sl cr nn ak no ye nr tl u) (xB D (TY cI cZ cJ cO) (va_A u0 sz) (fun E => (cFil n p0 p1 = 1 ∧ E = eA))) (va_A u0 sz)) 1 6 (va_A u0 sz) := by
  intro sz
  obtain ⟨r0, l1, l2, l3, bb, da, ga, fo, wh, t2, to, co, f1, f2, f3, c1, c2, c3, a1, a2, a3, qs, sa, Ls, cs, qn, qu, hs1, hs2, hs3, hq1, hq2, hq3, hR, hp⟩ := h
  have hp1 := blk hp [0, 1] [2, 3, 4, 5, 6, 7, 8, 9, 10, 11, 12] (by decide)
  refine xframe_i hp1 (c_M_fill_ok l hlt D cI cZ cJ cO sz o r0 l1 l2 l3 bb da ga n d g h4 h64 p0 p1) (fun a U h9 => h9.t hp1) ?_ ?_ (fun E hE => hE)
  · rintro r u ⟨hc, rfl, hr⟩
    exact ⟨hc, hr, ⟨r0, l1, l2, l3, bb, da, ga, fo, wh, t2, to, co, f1, f2, f3, c1, c2, c3, a1, a2, a3, qs, sa, Ls, cs, qn, qu, hs1, hs2, hs3, hq1, hq2, hq3, hR, (blk2 (B := (cB (oMO o r0 l1 l2 l3 bb) (rowW cI cZ r0 da ga n (fil n d g p0 p1).1 (fil n d g p0 p1).2.1) (oBB bb fo wh t2 to co) l1 l2 l3 c1 c2 c3 ((List.range ns).flatMap (shF cI qs sa Ls cs)) ((List.range nn).flatMap (ndF qn ak no ye)) ((List.range nr).flatMap (ruF qu tl)) a1 a2 a3 [])) [0, 1] [2, 3, 4, 5, 6, 7, 8, 9, 10, 11, 12] (by decide))⟩⟩
  · rintro u rfl
    exact ⟨r0, l1, l2, l3, bb, da, ga, fo, wh, t2, to, co, f1, f2, f3, c1, c2, c3, a1, a2, a3, qs, sa, Ls, cs, qn, qu, hs1, hs2, hs3, hq1, hq2, hq3, hR, (blk2 (B := (cB (oMO o r0 l1 l2 l3 bb) (rowW cI cZ r0 da ga n d g) (oBB bb fo wh t2 to co) l1 l2 l3 c1 c2 c3 ((List.range ns).flatMap (shF cI qs sa Ls cs)) ((List.range nn).flatMap (ndF qn ak no ye)) ((List.range nr).flatMap (ruF qu tl)) a1 a2 a3 [])) [0, 1] [2, 3, 4, 5, 6, 7, 8, 9, 10, 11, 12] (by decide))⟩

set_option maxHeartbeats 4000000 in
set_option maxRecDepth 100000 in
theorem K_mirror (l : Launch) (hlt : l.stackTraces = false) (D : va_G) (cI cZ cJ cO : ClassId) (e0 mi o n : Nat) (d g : Nat → Int32) (ns : Nat) (sl cr : Nat → Int32) (nn : Nat) (ak no ye : Nat → Int32) (nr : Nat) (tl : Nat → Int32) (h4 : 4 ≤ n) (h64 : n ≤ 64) (u0 : va_W) (h : CI cI cZ cO e0 o n d g ns sl cr nn ak no ye nr tl u0) (hd : dOK n d) (bo : Int64) (bm : Int32) (p0 : Int32) : ∀ sz, vx_Met l y_M_mirror (wq y_M_mirror c_M_mirror 2 (some .long)) ({ frames := 6, cells := 1, slots := 6, locals := 100 }) (kP D (TY cI cZ cJ cO) u0 [.ref o, .int p0] sz e0 mi) (va_Ql (fun (r : Int64) (u : va_W) => cMir (fmT n d g bo bm (2 * n - 1)).1 p0 = 0 ∧ r = aMir (fmT n d g bo bm (2 * n - 1)) p0 ∧ CI cI cZ cO e0 o n d g ns sl cr nn ak no ye nr tl u) (mB D (TY cI cZ cJ cO) (va_A u0 sz)) (va_A u0 sz)) (vx_X (fun u => CI cI cZ cO e0 o n d g ns sl cr nn ak no ye nr tl u) (xB D (TY cI cZ cJ cO) (va_A u0 sz) (fun E => (cMir (fmT n d g bo bm (2 * n - 1)).1 p0 = 1 ∧ E = eS) ∨ (cMir (fmT n d g bo bm (2 * n - 1)).1 p0 = 2 ∧ E = eI))) (va_A u0 sz)) 1 6 (va_A u0 sz) := by
  intro sz
  obtain ⟨r0, l1, l2, l3, bb, da, ga, fo, wh, t2, to, co, f1, f2, f3, c1, c2, c3, a1, a2, a3, qs, sa, Ls, cs, qn, qu, hs1, hs2, hs3, hq1, hq2, hq3, hR, hp⟩ := h
  have hm := mir_eq (n := n) (d := d) (g := g) hd h4 h64 (wh := wh) (t2 := t2) (to := to) (co := co) (bo := bo) (bm := bm) p0
  have hp1 := blk hp [0, 1, 2] [3, 4, 5, 6, 7, 8, 9, 10, 11, 12] (by decide)
  refine xframe_l hp1 (c_M_mirror_ok l hlt D cI cZ cJ cO sz o r0 l1 l2 l3 bb da ga n d g h4 h64 fo wh t2 to co p0) (fun a U h9 => h9.t hp1) ?_ ?_ (fun E hE => by rw [hm.1] at hE; exact hE)
  · rintro r u ⟨hc, rfl, hr⟩
    rw [hm.1] at hc; exact ⟨hc, hr.trans (hm.2 hc), ⟨r0, l1, l2, l3, bb, da, ga, _, _, _, _, _, f1, f2, f3, c1, c2, c3, a1, a2, a3, qs, sa, Ls, cs, qn, qu, hs1, hs2, hs3, hq1, hq2, hq3, hR, (blk2 (B := (cB (oMO o r0 l1 l2 l3 bb) (rowW cI cZ r0 da ga n d g) (oBB bb (fmC n d g (0, wh, t2, to, co) (2 * n - 1)).1 (fmC n d g (0, wh, t2, to, co) (2 * n - 1)).2.1 (fmC n d g (0, wh, t2, to, co) (2 * n - 1)).2.2.1 (fmC n d g (0, wh, t2, to, co) (2 * n - 1)).2.2.2.1 (fmC n d g (0, wh, t2, to, co) (2 * n - 1)).2.2.2.2) l1 l2 l3 c1 c2 c3 ((List.range ns).flatMap (shF cI qs sa Ls cs)) ((List.range nn).flatMap (ndF qn ak no ye)) ((List.range nr).flatMap (ruF qu tl)) a1 a2 a3 [])) [0, 1, 2] [3, 4, 5, 6, 7, 8, 9, 10, 11, 12] (by decide))⟩⟩
  · rintro u rfl
    exact ⟨r0, l1, l2, l3, bb, da, ga, _, _, _, _, _, f1, f2, f3, c1, c2, c3, a1, a2, a3, qs, sa, Ls, cs, qn, qu, hs1, hs2, hs3, hq1, hq2, hq3, hR, (blk2 (B := (cB (oMO o r0 l1 l2 l3 bb) (rowW cI cZ r0 da ga n d g) (oBB bb (fmC n d g (0, wh, t2, to, co) (2 * n - 1)).1 (fmC n d g (0, wh, t2, to, co) (2 * n - 1)).2.1 (fmC n d g (0, wh, t2, to, co) (2 * n - 1)).2.2.1 (fmC n d g (0, wh, t2, to, co) (2 * n - 1)).2.2.2.1 (fmC n d g (0, wh, t2, to, co) (2 * n - 1)).2.2.2.2) l1 l2 l3 c1 c2 c3 ((List.range ns).flatMap (shF cI qs sa Ls cs)) ((List.range nn).flatMap (ndF qn ak no ye)) ((List.range nr).flatMap (ruF qu tl)) a1 a2 a3 [])) [0, 1, 2] [3, 4, 5, 6, 7, 8, 9, 10, 11, 12] (by decide))⟩


theorem mframe {l : Launch} {y : MethodName} {ws : List Cond} {rm : Room} {mc ms : Nat} {D : va_G} {tys : List (ClassId × FieldType)} {wt wc wr : va_W} {av : List Value} {sz e0 mi : Nat} {φ φ' : Int32 → va_W → Prop} {Pc : Array Value → State → Prop}
    (hp : wt.Perm (wc ++ wr)) (hM : Met l y ws rm Pc (va_Qi φ (mB D tys (va_A wc sz)) (va_A wc sz)) mc ms (va_A wc sz))
    (hPc : ∀ a U, kP D tys wt av sz e0 mi a U → Pc a U) (hφ : ∀ r u, φ r u → φ' r (u ++ wr)) :
    Met l y ws rm (kP D tys wt av sz e0 mi) (va_Qi φ' (mB D tys (va_A wt sz)) (va_A wt sz)) mc ms (va_A wt sz) := by
  have hs : ∀ q, va_A wc sz q → va_A wt sz q := fun q h => va_A_s (fun x hx => hp.mem_iff.mpr (List.mem_append_left _ hx)) h
  refine MetFree.mono hM hPc (fun _ _ _ _ _ h => h) (fun a st o t hk hq => ?_)
  obtain ⟨⟨⟨r, u, hv, hp9, hb⟩, hF⟩, L, hL, hLf⟩ := hq
  obtain ⟨j1, j2⟩ := jn hp hk hF hb
  exact ⟨⟨⟨_, u ++ wr, hv, hφ _ _ hp9, j1⟩, j2⟩, L, hL, fun q hq => hs _ (hLf q hq)⟩
theorem kP.m {D : va_G} {tys : List (ClassId × FieldType)} {wt wc wr : va_W} {av : List Value} {sz e0 mi : Nat} {a : Array Value} {U : State} (hp : wt.Perm (wc ++ wr)) (h : kP D tys wt av sz e0 mi a U) : mP D tys wc av sz a U := by
  obtain ⟨q0, q⟩ := h
  obtain ⟨q1, qP, qK, qD, qN, qU, qV, qS⟩ := q.part hp
  exact ⟨q0, q1, qP, qK, qD, qN⟩
theorem K_forget (l : Launch) (hlt : l.stackTraces = false) (D : va_G) (cI cZ cJ cO : ClassId) (e0 mi o n : Nat) (d g : Nat → Int32) (ns : Nat) (sl cr : Nat → Int32) (nn : Nat) (ak no ye : Nat → Int32) (nr : Nat) (tl : Nat → Int32) (h4 : 4 ≤ n) (h64 : n ≤ 64) (u0 : va_W) (h : CI cI cZ cO e0 o n d g ns sl cr nn ak no ye nr tl u0) : ∀ sz, Met l y_M_forget (wq y_M_forget c_M_forget 1 (some .int)) ({ frames := 1, cells := 0, slots := 0, locals := 22 }) (kP D (TY cI cZ cJ cO) u0 [.ref o] sz e0 mi) (va_Qi (fun (r : Int32) (u : va_W) => r = nI (lgs d g n).2.2 ∧ CI cI cZ cO e0 o n ((lgs d g n).1) ((lgs d g n).2.1) ns sl cr nn ak no ye nr tl u) (mB D (TY cI cZ cJ cO) (va_A u0 sz)) (va_A u0 sz)) 0 0 (va_A u0 sz) := by
  intro sz
  obtain ⟨r0, l1, l2, l3, bb, da, ga, fo, wh, t2, to, co, f1, f2, f3, c1, c2, c3, a1, a2, a3, qs, sa, Ls, cs, qn, qu, hs1, hs2, hs3, hq1, hq2, hq3, hR, hp⟩ := h
  have hp1 := blk hp [0, 1] [2, 3, 4, 5, 6, 7, 8, 9, 10, 11, 12] (by decide)
  refine mframe hp1 (c_M_forget_ok l D cI cZ cJ cO sz o r0 l1 l2 l3 bb da ga n d g h4 h64) (fun a U h9 => h9.m hp1) ?_
  rintro r u ⟨hr, rfl⟩
  exact ⟨hr, ⟨r0, l1, l2, l3, bb, da, ga, fo, wh, t2, to, co, f1, f2, f3, c1, c2, c3, a1, a2, a3, qs, sa, Ls, cs, qn, qu, hs1, hs2, hs3, hq1, hq2, hq3, hR, (blk2 (B := (cB (oMO o r0 l1 l2 l3 bb) (rowW cI cZ r0 da ga n (lgs d g n).1 (lgs d g n).2.1) (oBB bb fo wh t2 to co) l1 l2 l3 c1 c2 c3 ((List.range ns).flatMap (shF cI qs sa Ls cs)) ((List.range nn).flatMap (ndF qn ak no ye)) ((List.range nr).flatMap (ruF qu tl)) a1 a2 a3 [])) [0, 1] [2, 3, 4, 5, 6, 7, 8, 9, 10, 11, 12] (by decide))⟩⟩
