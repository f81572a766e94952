
def updN {α : Type} (f : Nat → α) (k : Nat) (x : α) : Nat → α := fun i => if i = k then x else f i
theorem updN_s {α : Type} {f : Nat → α} {k : Nat} {x : α} : updN f k x k = x := if_pos rfl
theorem updN_n {α : Type} {f : Nat → α} {k i : Nat} {x : α} (h : i ≠ k) : updN f k x i = f i := if_neg h
theorem upd_s {f : Nat → Int32} {k : Nat} {x : Int32} : upd f k x k = x := if_pos rfl
theorem upd_n {f : Nat → Int32} {k i : Nat} {x : Int32} (h : i ≠ k) : upd f k x i = f i := if_neg h
theorem some_ext {f1 f4 : Nat → Option Nat} {qs : Nat → Nat} {m q : Nat} (h : ∀ i, i < m → f4 i = some (qs i)) (h2 : f4 m = some q) : ∀ i, i < m + 1 → f4 i = some (updN qs m q i) := fun i hi => by
  rcases Nat.lt_or_ge i m with c | c
  · rw [updN_n (by omega)]; exact h i c
  · rw [show i = m by omega, updN_s]; exact h2
theorem crL_lt {cr : Nat → Int32} {ns : Nat} : ∀ (j x : Nat), x < 16 * ns → crL cr ns j x = cr x
  | 0, _, _ => rfl
  | j + 1, x, h => by rw [crL, upd_n (by omega)]; exact crL_lt j x h
theorem crL_in {cr : Nat → Int32} {ns : Nat} : ∀ (j k : Nat), k < j → crL cr ns j (16 * ns + k) = 128
  | 0, _, h => absurd h (Nat.not_lt_zero _)
  | j + 1, k, h => by
    rw [crL]
    rcases Nat.lt_or_ge k j with c | c
    · rw [upd_n (by omega)]; exact crL_in j k c
    · rw [show k = j by omega, upd_s]
theorem sR_add {ns m : Nat} {Ls : Nat → Nat} {cs : Nat → Nat → Int32} {sl cr : Nat → Int32} (h : sR ns Ls cs sl cr) (hm : 2 ≤ m ∧ m ≤ 16) : sR (ns + 1) (updN Ls ns m) (updN cs ns (fun _ => 128)) (upd sl ns (nI m)) (crL cr ns 16) := by
  intro i hi
  rcases Nat.lt_or_ge i ns with c | c
  · rw [updN_n (by omega), updN_n (by omega), upd_n (by omega)]
    obtain ⟨h1, h2, h3, h4⟩ := h i c
    exact ⟨h1, h2, h3, fun k hk => by rw [crL_lt 16 _ (by omega)]; exact h4 k hk⟩
  · rw [show i = ns by omega, updN_s, updN_s, upd_s]
    exact ⟨rfl, hm.1, hm.2, fun k hk => ⟨(crL_in 16 k hk).symm, by decide, by decide⟩⟩
theorem sR_set {ns I k : Nat} {v : Int32} {Ls : Nat → Nat} {cs : Nat → Nat → Int32} {sl cr : Nat → Int32} (h : sR ns Ls cs sl cr) (hk : k < 16) (hv : 0 ≤ v.toInt ∧ v.toInt ≤ 255) : sR ns Ls (updN cs I (upd (cs I) k v)) sl (upd cr (16 * I + k) v) := by
  intro i hi
  obtain ⟨h1, h2, h3, h4⟩ := h i hi
  refine ⟨h1, h2, h3, fun j hj => ?_⟩
  rcases Nat.decEq i I with c | c
  · rw [updN_n c, upd_n (by omega)]; exact h4 j hj
  · subst c
    rw [updN_s]
    rcases Nat.decEq j k with e | e
    · rw [upd_n e, upd_n (by omega)]; exact h4 j hj
    · subst e; rw [upd_s, upd_s]; exact ⟨rfl, hv⟩
theorem sh_ext {cI : ClassId} {qs sa Ls : Nat → Nat} {cs : Nat → Nat → Int32} {ns q s1 m : Nat} {c : Nat → Int32} : (List.range (ns + 1)).flatMap (shF cI (updN qs ns q) (updN sa ns s1) (updN Ls ns m) (updN cs ns c)) = (List.range ns).flatMap (shF cI qs sa Ls cs) ++ [(q, .inr (4, [.ref s1])), (s1, .inl (cI, m, .inl c))] := by
  rw [ext_f (F := shF cI qs sa Ls cs) (fun i hi => by simp only [shF, updN_n (show i ≠ ns by omega)])]
  simp only [shF, updN_s]
theorem nd_ext {qn : Nat → Nat} {ak no ye ak' no' ye' : Nat → Int32} {nn q : Nat} {x1 x2 x3 x4 : Int32} (h : ∀ i, i < nn → ak' i = ak i ∧ no' i = no i ∧ ye' i = ye i) (h1 : nA ak' nn = x1) (h2 : nB ak' nn = x2) (h3 : nX ak' no' nn = x3) (h4 : nX ak' ye' nn = x4) : (List.range (nn + 1)).flatMap (ndF (updN qn nn q) ak' no' ye') = (List.range nn).flatMap (ndF qn ak no ye) ++ [(q, .inr (5, [.int x1, .int x2, .int x3, .int x4]))] := by
  rw [ext_f (F := ndF qn ak no ye) (fun i hi => by
    obtain ⟨e1, e2, e3⟩ := h i hi
    simp only [ndF, nA, nB, nX, e1, e2, e3, updN_n (show i ≠ nn by omega)])]
  simp only [ndF, updN_s, h1, h2, h3, h4]
theorem ru_ext {qu : Nat → Nat} {tl tl' : Nat → Int32} {nr q : Nat} {x1 x2 x3 x4 x5 x6 : Int32} (h : ∀ i, i < nr → ∀ k, k < 6 → tl' (6 * i + k) = tl (6 * i + k)) (h1 : tl' (6 * nr) = x1) (h2 : tl' (6 * nr + 1) = x2) (h3 : tl' (6 * nr + 2) = x3) (h4 : tl' (6 * nr + 3) = x4) (h5 : tl' (6 * nr + 4) = x5) (h6 : tl' (6 * nr + 5) = x6) : (List.range (nr + 1)).flatMap (ruF (updN qu nr q) tl') = (List.range nr).flatMap (ruF qu tl) ++ [(q, .inr (6, [.int x1, .int x2, .int x3, .int x4, .int x5, .int x6]))] := by
  rw [ext_f (F := ruF qu tl) (fun i hi => by
    have e := h i hi
    simp only [ruF, updN_n (show i ≠ nr by omega), e 1 (by omega), e 2 (by omega), e 3 (by omega), e 4 (by omega), e 5 (by omega), show tl' (6 * i) = tl (6 * i) from e 0 (by omega)])]
  simp only [ruF, updN_s, h1, h2, h3, h4, h5, h6]
theorem lso_n {cO : ClassId} {e0 c ea cap : Nat} {f : Nat → Option Nat} {x : Int32} (h : c + 1 ≤ cap) (h2 : cap = 10 ∨ cap = 15 ∨ cap = 22) : lso cO e0 (c + 1) f (.inr (0, [.int x, .ref ea, .int (nI (c + 1))])) [(ea, .inl (cO, cap, .inr (.inr (.inr (.inr f)))))] := ⟨x, Or.inr ⟨ea, cap, by omega, h, h2, rfl, rfl⟩⟩


set_option maxRecDepth 100000 in
theorem CI_shape {cI cZ cO : ClassId} {e0 o n : Nat} {d g : Nat → Int32} {ns : Nat} {sl cr : Nat → Int32} {nn : Nat} {ak no ye : Nat → Int32} {nr : Nat} {tl : Nat → Int32} {r0 l1 l2 l3 bb da ga : Nat} {fo wh t2 to co : Int32} {f1 f2 f3 : Nat → Option Nat} {c1 c2 c3 : va_E} {a1 a2 a3 : va_W} {qs sa Ls : Nat → Nat} {cs : Nat → Nat → Int32} {qn qu : Nat → Nat} {m s1 : Nat} {x : Int32} {ea1 cap1 q : Nat} {f4 : Nat → Option Nat} (hs2 : lso cO e0 nn f2 c2 a2) (hs3 : lso cO e0 nr f3 c3 a3) (hq2 : ∀ i, i < nn → f2 i = some (qn i)) (hq3 : ∀ i, i < nr → f3 i = some (qu i)) (hR : sR ns Ls cs sl cr) (hf1 : ∀ i, i < ns → f4 i = some (qs i)) (hf2 : f4 ns = some q) (hm : 2 ≤ m ∧ m ≤ 16) (hcp : ns + 1 ≤ cap1) (hcap : cap1 = 10 ∨ cap1 = 15 ∨ cap1 = 22) : CI cI cZ cO e0 o n d g (ns + 1) (upd sl ns (nI m)) (crL cr ns 16) nn ak no ye nr tl ([(o, .inr (3, [.ref r0, .ref l1, .ref l2, .ref l3, .ref bb])), (l1, .inr (0, [.int x, .ref ea1, .int (nI (ns + 1))])), (ea1, .inl (cO, cap1, .inr (.inr (.inr (.inr f4))))), (q, .inr (4, [.ref s1])), (s1, .inl (cI, m, .inl (fun _ => 128)))] ++ [1, 2, 4, 5, 6, 7, 8, 10, 11, 12].flatMap (cB (oMO o r0 l1 l2 l3 bb) (rowW cI cZ r0 da ga n d g) (oBB bb fo wh t2 to co) l1 l2 l3 c1 c2 c3 ((List.range ns).flatMap (shF cI qs sa Ls cs)) ((List.range nn).flatMap (ndF qn ak no ye)) ((List.range nr).flatMap (ruF qu tl)) a1 a2 a3 [])) := by
  refine ⟨r0, l1, l2, l3, bb, da, ga, fo, wh, t2, to, co, f4, f2, f3, _, c2, c3, _, a2, a3, updN qs ns q, updN sa ns s1, updN Ls ns m, updN cs ns (fun _ => 128), qn, qu, lso_n hcp hcap, hs2, hs3, some_ext (f1 := f4) hf1 hf2, hq2, hq3, sR_add hR hm, (blk2 (B := (cB (oMO o r0 l1 l2 l3 bb) (rowW cI cZ r0 da ga n d g) (oBB bb fo wh t2 to co) l1 l2 l3 (.inr (0, [.int x, .ref ea1, .int (nI (ns + 1))])) c2 c3 ((List.range ns).flatMap (shF cI qs sa Ls cs)) ((List.range nn).flatMap (ndF qn ak no ye)) ((List.range nr).flatMap (ruF qu tl)) [(ea1, .inl (cO, cap1, .inr (.inr (.inr (.inr f4)))))] a2 a3 [(q, .inr (4, [.ref s1])), (s1, .inl (cI, m, .inl (fun _ => 128)))])) [0, 3, 9, 12] [1, 2, 4, 5, 6, 7, 8, 10, 11] (by decide)).trans (mrg (k := 6) (js := [0, 1, 2, 3, 4, 5, 7, 8, 9, 10, 11]) (by decide) ?_ rfl rfl)⟩
  exact sh_ext


set_option maxRecDepth 100000 in
theorem CI_node {cI cZ cO : ClassId} {e0 o n : Nat} {d g : Nat → Int32} {ns : Nat} {sl cr : Nat → Int32} {nn : Nat} {ak no ye : Nat → Int32} {nr : Nat} {tl : Nat → Int32} {r0 l1 l2 l3 bb da ga : Nat} {fo wh t2 to co : Int32} {f1 f2 f3 : Nat → Option Nat} {c1 c2 c3 : va_E} {a1 a2 a3 : va_W} {qs sa Ls : Nat → Nat} {cs : Nat → Nat → Int32} {qn qu : Nat → Nat} {ak' no' ye' : Nat → Int32} {x1 x2 x3 x4 : Int32} {x : Int32} {ea1 cap1 q : Nat} {f4 : Nat → Option Nat} (hs1 : lso cO e0 ns f1 c1 a1) (hs3 : lso cO e0 nr f3 c3 a3) (hq1 : ∀ i, i < ns → f1 i = some (qs i)) (hq3 : ∀ i, i < nr → f3 i = some (qu i)) (hR : sR ns Ls cs sl cr) (hf1 : ∀ i, i < nn → f4 i = some (qn i)) (hf2 : f4 nn = some q) (hag : ∀ i, i < nn → ak' i = ak i ∧ no' i = no i ∧ ye' i = ye i) (h1 : nA ak' nn = x1) (h2 : nB ak' nn = x2) (h3 : nX ak' no' nn = x3) (h4 : nX ak' ye' nn = x4) (hcp : nn + 1 ≤ cap1) (hcap : cap1 = 10 ∨ cap1 = 15 ∨ cap1 = 22) : CI cI cZ cO e0 o n d g ns sl cr (nn + 1) ak' no' ye' nr tl ([(o, .inr (3, [.ref r0, .ref l1, .ref l2, .ref l3, .ref bb])), (l2, .inr (0, [.int x, .ref ea1, .int (nI (nn + 1))])), (ea1, .inl (cO, cap1, .inr (.inr (.inr (.inr f4))))), (q, .inr (5, [.int x1, .int x2, .int x3, .int x4]))] ++ [1, 2, 3, 5, 6, 7, 8, 9, 11, 12].flatMap (cB (oMO o r0 l1 l2 l3 bb) (rowW cI cZ r0 da ga n d g) (oBB bb fo wh t2 to co) l1 l2 l3 c1 c2 c3 ((List.range ns).flatMap (shF cI qs sa Ls cs)) ((List.range nn).flatMap (ndF qn ak no ye)) ((List.range nr).flatMap (ruF qu tl)) a1 a2 a3 [])) := by
  refine ⟨r0, l1, l2, l3, bb, da, ga, fo, wh, t2, to, co, f1, f4, f3, c1, _, c3, a1, _, a3, qs, sa, Ls, cs, updN qn nn q, qu, hs1, lso_n hcp hcap, hs3, hq1, some_ext (f1 := f4) hf1 hf2, hq3, hR, (blk2 (B := (cB (oMO o r0 l1 l2 l3 bb) (rowW cI cZ r0 da ga n d g) (oBB bb fo wh t2 to co) l1 l2 l3 c1 (.inr (0, [.int x, .ref ea1, .int (nI (nn + 1))])) c3 ((List.range ns).flatMap (shF cI qs sa Ls cs)) ((List.range nn).flatMap (ndF qn ak no ye)) ((List.range nr).flatMap (ruF qu tl)) a1 [(ea1, .inl (cO, cap1, .inr (.inr (.inr (.inr f4)))))] a3 [(q, .inr (5, [.int x1, .int x2, .int x3, .int x4]))])) [0, 4, 10, 12] [1, 2, 3, 5, 6, 7, 8, 9, 11] (by decide)).trans (mrg (k := 7) (js := [0, 1, 2, 3, 4, 5, 6, 8, 9, 10, 11]) (by decide) ?_ rfl rfl)⟩
  exact nd_ext hag h1 h2 h3 h4


set_option maxRecDepth 100000 in
theorem CI_rule {cI cZ cO : ClassId} {e0 o n : Nat} {d g : Nat → Int32} {ns : Nat} {sl cr : Nat → Int32} {nn : Nat} {ak no ye : Nat → Int32} {nr : Nat} {tl : Nat → Int32} {r0 l1 l2 l3 bb da ga : Nat} {fo wh t2 to co : Int32} {f1 f2 f3 : Nat → Option Nat} {c1 c2 c3 : va_E} {a1 a2 a3 : va_W} {qs sa Ls : Nat → Nat} {cs : Nat → Nat → Int32} {qn qu : Nat → Nat} {tl' : Nat → Int32} {x1 x2 x3 x4 x5 x6 : Int32} {x : Int32} {ea1 cap1 q : Nat} {f4 : Nat → Option Nat} (hs1 : lso cO e0 ns f1 c1 a1) (hs2 : lso cO e0 nn f2 c2 a2) (hq1 : ∀ i, i < ns → f1 i = some (qs i)) (hq2 : ∀ i, i < nn → f2 i = some (qn i)) (hR : sR ns Ls cs sl cr) (hf1 : ∀ i, i < nr → f4 i = some (qu i)) (hf2 : f4 nr = some q) (hag : ∀ i, i < nr → ∀ k, k < 6 → tl' (6 * i + k) = tl (6 * i + k)) (h1 : tl' (6 * nr) = x1) (h2 : tl' (6 * nr + 1) = x2) (h3 : tl' (6 * nr + 2) = x3) (h4 : tl' (6 * nr + 3) = x4) (h5 : tl' (6 * nr + 4) = x5) (h6 : tl' (6 * nr + 5) = x6) (hcp : nr + 1 ≤ cap1) (hcap : cap1 = 10 ∨ cap1 = 15 ∨ cap1 = 22) : CI cI cZ cO e0 o n d g ns sl cr nn ak no ye (nr + 1) tl' ([(o, .inr (3, [.ref r0, .ref l1, .ref l2, .ref l3, .ref bb])), (r0, .inr (2, [.ref da, .ref ga])), (da, .inl (cI, n, .inl d)), (ga, .inl (cZ, n, .inl g)), (l3, .inr (0, [.int x, .ref ea1, .int (nI (nr + 1))])), (ea1, .inl (cO, cap1, .inr (.inr (.inr (.inr f4))))), (q, .inr (6, [.int x1, .int x2, .int x3, .int x4, .int x5, .int x6]))] ++ [2, 3, 4, 6, 7, 8, 9, 10, 12].flatMap (cB (oMO o r0 l1 l2 l3 bb) (rowW cI cZ r0 da ga n d g) (oBB bb fo wh t2 to co) l1 l2 l3 c1 c2 c3 ((List.range ns).flatMap (shF cI qs sa Ls cs)) ((List.range nn).flatMap (ndF qn ak no ye)) ((List.range nr).flatMap (ruF qu tl)) a1 a2 a3 [])) := by
  refine ⟨r0, l1, l2, l3, bb, da, ga, fo, wh, t2, to, co, f1, f2, f4, c1, c2, _, a1, a2, _, qs, sa, Ls, cs, qn, updN qu nr q, hs1, hs2, lso_n hcp hcap, hq1, hq2, some_ext (f1 := f4) hf1 hf2, hR, (blk2 (B := (cB (oMO o r0 l1 l2 l3 bb) (rowW cI cZ r0 da ga n d g) (oBB bb fo wh t2 to co) l1 l2 l3 c1 c2 (.inr (0, [.int x, .ref ea1, .int (nI (nr + 1))])) ((List.range ns).flatMap (shF cI qs sa Ls cs)) ((List.range nn).flatMap (ndF qn ak no ye)) ((List.range nr).flatMap (ruF qu tl)) a1 a2 [(ea1, .inl (cO, cap1, .inr (.inr (.inr (.inr f4)))))] [(q, .inr (6, [.int x1, .int x2, .int x3, .int x4, .int x5, .int x6]))])) [0, 1, 5, 11, 12] [2, 3, 4, 6, 7, 8, 9, 10] (by decide)).trans (mrg (k := 8) (js := [0, 1, 2, 3, 4, 5, 6, 7, 9, 10, 11]) (by decide) ?_ rfl rfl)⟩
  exact ru_ext hag h1 h2 h3 h4 h5 h6

set_option maxHeartbeats 4000000 in
set_option maxRecDepth 100000 in
theorem K_shape (l : Launch) (hlt : l.stackTraces = false) (D : va_G) (cI cZ cJ cO : ClassId) (e0 mi o n : Nat) (d g : Nat → Int32) (ns : Nat) (sl cr : Nat → Int32) (nn : Nat) (ak no ye : Nat → Int32) (nr : Nat) (tl : Nat → Int32) (h4 : 4 ≤ n) (h64 : n ≤ 64) (u0 : va_W) (h : CI cI cZ cO e0 o n d g ns sl cr nn ak no ye nr tl u0) (hns : ns ≤ 8) (p0 : Int32) : ∀ sz, vx_Met l y_M_shape (wq y_M_shape c_M_shape 2 (some .int)) ({ frames := 7, cells := 3, slots := 40, locals := 191 }) (kP D (TY cI cZ cJ cO) u0 [.ref o, .int p0] sz e0 mi) (va_Qi (fun (r : Int32) (u : va_W) => cSha p0 ns = 0 ∧ r = nI ns ∧ CI cI cZ cO e0 o n d g (ns + 1) (upd sl ns p0) (crL cr ns 16) nn ak no ye nr tl u) (mB D (TY cI cZ cJ cO) (va_A u0 sz)) (va_A u0 sz)) (vx_X (fun u => CI cI cZ cO e0 o n d g ns sl cr nn ak no ye nr tl u) (xB D (TY cI cZ cJ cO) (va_A u0 sz) (fun E => (cSha p0 ns = 1 ∧ E = eA) ∨ (cSha p0 ns = 2 ∧ E = eS))) (va_A u0 sz)) 3 40 (va_A u0 sz) := by
  intro sz
  obtain ⟨r0, l1, l2, l3, bb, da, ga, fo, wh, t2, to, co, f1, f2, f3, c1, c2, c3, a1, a2, a3, qs, sa, Ls, cs, qn, qu, hs1, hs2, hs3, hq1, hq2, hq3, hR, hp⟩ := h
  have hs0 := hs1
  obtain ⟨x, ⟨rfl, rfl, rfl⟩ | ⟨ea, n1, h0, h1, h2, rfl, rfl⟩⟩ := hs1
  · have hp1 := blk hp [0, 3] [1, 2, 4, 5, 6, 7, 8, 9, 10, 11, 12] (by decide)
    refine xframe_i hp1 (c_M_shapeV_ok l hlt D cI cZ cJ cO sz e0 mi o r0 l1 l2 l3 bb x p0) (fun a U h9 => h9.g hp1 (ci := 4) rfl (fun y hy => hy.elim)) ?_ ?_ (fun E hE => hE)
    · rintro r u ⟨hc, hr, m, q, s1, ea1, cap1, f4, rfl, hm1, hm2, rfl, hcp1, hcp2, hf1, hf2⟩
      exact ⟨hc, hr, CI_shape (cI := cI) (cZ := cZ) (cO := cO) (e0 := e0) (o := o) (n := n) (d := d) (g := g) (ns := 0) (sl := sl) (cr := cr) (nn := nn) (ak := ak) (no := no) (ye := ye) (nr := nr) (tl := tl) (r0 := r0) (l1 := l1) (l2 := l2) (l3 := l3) (bb := bb) (da := da) (ga := ga) (fo := fo) (wh := wh) (t2 := t2) (to := to) (co := co) (f1 := f1) (f2 := f2) (f3 := f3) (c1 := (.inr (0, [.int x, .ref e0, .int 0]))) (c2 := c2) (c3 := c3) (a1 := []) (a2 := a2) (a3 := a3) (qs := qs) (sa := sa) (Ls := Ls) (cs := cs) (qn := qn) (qu := qu) (m := m) (s1 := s1) (x := x + 1) (ea1 := ea1) (cap1 := cap1) (q := q) (f4 := f4) hs2 hs3 hq2 hq3 hR (fun i hi => absurd hi (Nat.not_lt_zero i)) hf2 ⟨hm1, hm2⟩ hcp1 (by omega)⟩
    · rintro u rfl
      exact ⟨r0, l1, l2, l3, bb, da, ga, fo, wh, t2, to, co, f1, f2, f3, _, c2, c3, _, a2, a3, qs, sa, Ls, cs, qn, qu, hs0, hs2, hs3, hq1, hq2, hq3, hR, (blk2 (B := (cB (oMO o r0 l1 l2 l3 bb) (rowW cI cZ r0 da ga n d g) (oBB bb fo wh t2 to co) l1 l2 l3 (.inr (0, [.int x, .ref e0, .int 0])) c2 c3 ((List.range 0).flatMap (shF cI qs sa Ls cs)) ((List.range nn).flatMap (ndF qn ak no ye)) ((List.range nr).flatMap (ruF qu tl)) [] a2 a3 [])) [0, 3] [1, 2, 4, 5, 6, 7, 8, 9, 10, 11, 12] (by decide))⟩
  · have hp1 := blk hp [0, 3, 9] [1, 2, 4, 5, 6, 7, 8, 10, 11, 12] (by decide)
    refine xframe_i hp1 (c_M_shapeN_ok l hlt D cI cZ cJ cO sz e0 mi o r0 l1 l2 l3 bb x ea ns n1 f1 hns (by omega) (by omega) p0) (fun a U h9 => h9.g hp1 (ci := 4) rfl (fun y hy => hy.elim)) ?_ ?_ (fun E hE => hE)
    · rintro r u ⟨hc, hr, m, q, s1, ea1, cap1, f4, rfl, hm1, hm2, rfl, hcp1, hcp2, hf1, hf2⟩
      exact ⟨hc, hr, CI_shape (cI := cI) (cZ := cZ) (cO := cO) (e0 := e0) (o := o) (n := n) (d := d) (g := g) (ns := ns) (sl := sl) (cr := cr) (nn := nn) (ak := ak) (no := no) (ye := ye) (nr := nr) (tl := tl) (r0 := r0) (l1 := l1) (l2 := l2) (l3 := l3) (bb := bb) (da := da) (ga := ga) (fo := fo) (wh := wh) (t2 := t2) (to := to) (co := co) (f1 := f1) (f2 := f2) (f3 := f3) (c1 := (.inr (0, [.int x, .ref ea, .int (nI ns)]))) (c2 := c2) (c3 := c3) (a1 := [(ea, .inl (cO, n1, .inr (.inr (.inr (.inr f1)))))]) (a2 := a2) (a3 := a3) (qs := qs) (sa := sa) (Ls := Ls) (cs := cs) (qn := qn) (qu := qu) (m := m) (s1 := s1) (x := x + 1) (ea1 := ea1) (cap1 := cap1) (q := q) (f4 := f4) hs2 hs3 hq2 hq3 hR (fun i hi => (hf1 i hi).trans (hq1 i hi)) hf2 ⟨hm1, hm2⟩ hcp1 (by omega)⟩
    · rintro u rfl
      exact ⟨r0, l1, l2, l3, bb, da, ga, fo, wh, t2, to, co, f1, f2, f3, _, c2, c3, _, a2, a3, qs, sa, Ls, cs, qn, qu, hs0, hs2, hs3, hq1, hq2, hq3, hR, (blk2 (B := (cB (oMO o r0 l1 l2 l3 bb) (rowW cI cZ r0 da ga n d g) (oBB bb fo wh t2 to co) l1 l2 l3 (.inr (0, [.int x, .ref ea, .int (nI ns)])) c2 c3 ((List.range ns).flatMap (shF cI qs sa Ls cs)) ((List.range nn).flatMap (ndF qn ak no ye)) ((List.range nr).flatMap (ruF qu tl)) [(ea, .inl (cO, n1, .inr (.inr (.inr (.inr f1)))))] a2 a3 [])) [0, 3, 9] [1, 2, 4, 5, 6, 7, 8, 10, 11, 12] (by decide))⟩


theorem kin_w {p : Int32} {nn : Nat} (h : cKin p nn = 0) : 0 ≤ p := by
  have h1 : ¬ bI (iw p 0 1000) = 0 := fun q => by rw [ck_1 q] at h; cases h
  have h2 := bI_ne0 h1
  simp only [iw, Bool.and_eq_true, decide_eq_true_eq, i0] at h2
  rw [ile, i0]; exact h2.1
theorem que_w {q a b : Int32} {nn : Nat} (h : cQue q a b nn = 0) : iw a 0 (nI nn - 1) = true ∧ iw b 0 (nI nn - 1) = true ∧ 0 ≤ q.toInt ∧ q.toInt ≤ 15 ∧ ¬ nI nn = 16 := by
  have e15 : (15 : Int32).toInt = 15 := rfl
  have h1 : ¬ bI (iw a 0 (nI nn - 1)) = 0 := fun z => by rw [cq_1 z] at h; cases h
  have h2 : ¬ bI (iw b 0 (nI nn - 1)) = 0 := fun z => by rw [cq_2 z] at h; cases h
  have h3 : ¬ bI (iw q 0 15) = 0 := fun z => by rw [cq_3 h1 h2 z] at h; cases h
  have h4 : ¬ nI nn = 16 := fun z => by rw [cq_4 h1 h2 h3 z] at h; cases h
  have h5 := bI_ne0 h3
  simp only [iw, Bool.and_eq_true, decide_eq_true_eq, i0, e15] at h5
  exact ⟨bI_ne0 h1, bI_ne0 h2, h5.1, h5.2, h4⟩
theorem que_n {q : Int32} (h : 0 ≤ q.toInt ∧ q.toInt ≤ 15) : ¬ 0 ≤ -1 - q ∧ -1 - (-1 - q) = q := by
  have e1 : (-1 - q).toInt = -1 - q.toInt := by rw [s32 (by rw [im1]; omega) (by rw [im1]; omega), im1]
  refine ⟨by rw [ile, i0, e1]; omega, ieq.mpr ?_⟩
  rw [s32 (by rw [im1, e1]; omega) (by rw [im1, e1]; omega), im1, e1]; omega

set_option maxHeartbeats 4000000 in
set_option maxRecDepth 100000 in
theorem K_kind (l : Launch) (hlt : l.stackTraces = false) (D : va_G) (cI cZ cJ cO : ClassId) (e0 mi o n : Nat) (d g : Nat → Int32) (ns : Nat) (sl cr : Nat → Int32) (nn : Nat) (ak no ye : Nat → Int32) (nr : Nat) (tl : Nat → Int32) (h4 : 4 ≤ n) (h64 : n ≤ 64) (u0 : va_W) (h : CI cI cZ cO e0 o n d g ns sl cr nn ak no ye nr tl u0) (hnn : nn ≤ 16) (p0 : Int32) : ∀ sz, vx_Met l y_M_kind (wq y_M_kind c_M_kind 2 (some .int)) ({ frames := 7, cells := 2, slots := 40, locals := 191 }) (kP D (TY cI cZ cJ cO) u0 [.ref o, .int p0] sz e0 mi) (va_Qi (fun (r : Int32) (u : va_W) => cKin p0 nn = 0 ∧ r = nI nn ∧ CI cI cZ cO e0 o n d g ns sl cr (nn + 1) (upd ak nn p0) no ye nr tl u) (mB D (TY cI cZ cJ cO) (va_A u0 sz)) (va_A u0 sz)) (vx_X (fun u => CI cI cZ cO e0 o n d g ns sl cr nn ak no ye nr tl u) (xB D (TY cI cZ cJ cO) (va_A u0 sz) (fun E => (cKin p0 nn = 1 ∧ E = eA) ∨ (cKin p0 nn = 2 ∧ E = eS))) (va_A u0 sz)) 2 40 (va_A u0 sz) := by
  intro sz
  obtain ⟨r0, l1, l2, l3, bb, da, ga, fo, wh, t2, to, co, f1, f2, f3, c1, c2, c3, a1, a2, a3, qs, sa, Ls, cs, qn, qu, hs1, hs2, hs3, hq1, hq2, hq3, hR, hp⟩ := h
  have hs0 := hs2
  obtain ⟨x, ⟨rfl, rfl, rfl⟩ | ⟨ea, n1, h0, h1, h2, rfl, rfl⟩⟩ := hs2
  · have hp1 := blk hp [0, 4] [1, 2, 3, 5, 6, 7, 8, 9, 10, 11, 12] (by decide)
    refine xframe_i hp1 (c_M_kindV_ok l hlt D cI cZ cJ cO sz e0 mi o r0 l1 l2 l3 bb x p0) (fun a U h9 => h9.g hp1 (ci := 5) rfl (fun y hy => hy.elim)) ?_ ?_ (fun E hE => hE)
    · rintro r u ⟨hc, hr, q, ea1, cap1, f4, rfl, hcp1, hcp2, hf1, hf2⟩
      have hk := kin_w hc; exact ⟨hc, hr, CI_node (cI := cI) (cZ := cZ) (cO := cO) (e0 := e0) (o := o) (n := n) (d := d) (g := g) (ns := ns) (sl := sl) (cr := cr) (nn := 0) (ak := ak) (no := no) (ye := ye) (nr := nr) (tl := tl) (r0 := r0) (l1 := l1) (l2 := l2) (l3 := l3) (bb := bb) (da := da) (ga := ga) (fo := fo) (wh := wh) (t2 := t2) (to := to) (co := co) (f1 := f1) (f2 := f2) (f3 := f3) (c1 := c1) (c2 := (.inr (0, [.int x, .ref e0, .int 0]))) (c3 := c3) (a1 := a1) (a2 := []) (a3 := a3) (qs := qs) (sa := sa) (Ls := Ls) (cs := cs) (qn := qn) (qu := qu) (ak' := upd ak 0 p0) (no' := no) (ye' := ye) (x1 := -1) (x2 := p0) (x3 := -1) (x4 := -1) (x := x + 1) (ea1 := ea1) (cap1 := cap1) (q := q) (f4 := f4) hs1 hs3 hq1 hq3 hR (fun i hi => absurd hi (Nat.not_lt_zero i)) hf2 (fun i hi => ⟨upd_n (by omega), rfl, rfl⟩) (by rw [nA, upd_s, if_pos hk]) (by rw [nB, upd_s, if_pos hk]) (by rw [nX, upd_s, if_pos hk]) (by rw [nX, upd_s, if_pos hk]) hcp1 (by omega)⟩
    · rintro u rfl
      exact ⟨r0, l1, l2, l3, bb, da, ga, fo, wh, t2, to, co, f1, f2, f3, c1, _, c3, a1, _, a3, qs, sa, Ls, cs, qn, qu, hs1, hs0, hs3, hq1, hq2, hq3, hR, (blk2 (B := (cB (oMO o r0 l1 l2 l3 bb) (rowW cI cZ r0 da ga n d g) (oBB bb fo wh t2 to co) l1 l2 l3 c1 (.inr (0, [.int x, .ref e0, .int 0])) c3 ((List.range ns).flatMap (shF cI qs sa Ls cs)) ((List.range 0).flatMap (ndF qn ak no ye)) ((List.range nr).flatMap (ruF qu tl)) a1 [] a3 [])) [0, 4] [1, 2, 3, 5, 6, 7, 8, 9, 10, 11, 12] (by decide))⟩
  · rcases Nat.lt_or_ge nn n1 with hlt9 | hge9
    · have hp1 := blk hp [0, 4, 10] [1, 2, 3, 5, 6, 7, 8, 9, 11, 12] (by decide)
      refine xframe_i hp1 (c_M_kindN_ok l hlt D cI cZ cJ cO sz e0 mi o r0 l1 l2 l3 bb x ea nn n1 f2 hnn (by omega) (by omega) p0) (fun a U h9 => h9.g hp1 (ci := 5) rfl (fun y hy => hy.elim)) ?_ ?_ (fun E hE => hE)
      · rintro r u ⟨hc, hr, q, ea1, cap1, f4, rfl, hcp1, hcp2, hf1, hf2⟩
        have hk := kin_w hc; exact ⟨hc, hr, CI_node (cI := cI) (cZ := cZ) (cO := cO) (e0 := e0) (o := o) (n := n) (d := d) (g := g) (ns := ns) (sl := sl) (cr := cr) (nn := nn) (ak := ak) (no := no) (ye := ye) (nr := nr) (tl := tl) (r0 := r0) (l1 := l1) (l2 := l2) (l3 := l3) (bb := bb) (da := da) (ga := ga) (fo := fo) (wh := wh) (t2 := t2) (to := to) (co := co) (f1 := f1) (f2 := f2) (f3 := f3) (c1 := c1) (c2 := (.inr (0, [.int x, .ref ea, .int (nI nn)]))) (c3 := c3) (a1 := a1) (a2 := [(ea, .inl (cO, n1, .inr (.inr (.inr (.inr f2)))))]) (a3 := a3) (qs := qs) (sa := sa) (Ls := Ls) (cs := cs) (qn := qn) (qu := qu) (ak' := upd ak nn p0) (no' := no) (ye' := ye) (x1 := -1) (x2 := p0) (x3 := -1) (x4 := -1) (x := x + 1) (ea1 := ea1) (cap1 := cap1) (q := q) (f4 := f4) hs1 hs3 hq1 hq3 hR (fun i hi => (hf1 i hi).trans (hq2 i hi)) hf2 (fun i hi => ⟨upd_n (by omega), rfl, rfl⟩) (by rw [nA, upd_s, if_pos hk]) (by rw [nB, upd_s, if_pos hk]) (by rw [nX, upd_s, if_pos hk]) (by rw [nX, upd_s, if_pos hk]) hcp1 (by omega)⟩
      · rintro u rfl
        exact ⟨r0, l1, l2, l3, bb, da, ga, fo, wh, t2, to, co, f1, f2, f3, c1, _, c3, a1, _, a3, qs, sa, Ls, cs, qn, qu, hs1, hs0, hs3, hq1, hq2, hq3, hR, (blk2 (B := (cB (oMO o r0 l1 l2 l3 bb) (rowW cI cZ r0 da ga n d g) (oBB bb fo wh t2 to co) l1 l2 l3 c1 (.inr (0, [.int x, .ref ea, .int (nI nn)])) c3 ((List.range ns).flatMap (shF cI qs sa Ls cs)) ((List.range nn).flatMap (ndF qn ak no ye)) ((List.range nr).flatMap (ruF qu tl)) a1 [(ea, .inl (cO, n1, .inr (.inr (.inr (.inr f2)))))] a3 [])) [0, 4, 10] [1, 2, 3, 5, 6, 7, 8, 9, 11, 12] (by decide))⟩
    · obtain rfl : nn = n1 := by omega
      have hp1 := blk hp [0, 4, 10] [1, 2, 3, 5, 6, 7, 8, 9, 11, 12] (by decide)
      refine xframe_i hp1 (c_M_kindG_ok l hlt D cI cZ cJ cO sz e0 mi o r0 l1 l2 l3 bb x ea nn f2 (by omega) p0) (fun a U h9 => h9.g hp1 (ci := 5) rfl (fun y hy => by obtain ⟨i, hi, hf⟩ := hy; rw [hq2 i hi] at hf; cases hf; exact ⟨_, List.mem_flatMap.mpr ⟨7, by decide, mem_f hi (List.mem_singleton.mpr rfl)⟩⟩)) ?_ ?_ (fun E hE => hE)
      · rintro r u ⟨hc, hr, q, ea1, cap1, f4, rfl, hcp1, hcp2, hf1, hf2⟩
        have hk := kin_w hc; exact ⟨hc, hr, CI_node (cI := cI) (cZ := cZ) (cO := cO) (e0 := e0) (o := o) (n := n) (d := d) (g := g) (ns := ns) (sl := sl) (cr := cr) (nn := nn) (ak := ak) (no := no) (ye := ye) (nr := nr) (tl := tl) (r0 := r0) (l1 := l1) (l2 := l2) (l3 := l3) (bb := bb) (da := da) (ga := ga) (fo := fo) (wh := wh) (t2 := t2) (to := to) (co := co) (f1 := f1) (f2 := f2) (f3 := f3) (c1 := c1) (c2 := (.inr (0, [.int x, .ref ea, .int (nI nn)]))) (c3 := c3) (a1 := a1) (a2 := [(ea, .inl (cO, nn, .inr (.inr (.inr (.inr f2)))))]) (a3 := a3) (qs := qs) (sa := sa) (Ls := Ls) (cs := cs) (qn := qn) (qu := qu) (ak' := upd ak nn p0) (no' := no) (ye' := ye) (x1 := -1) (x2 := p0) (x3 := -1) (x4 := -1) (x := x + 1) (ea1 := ea1) (cap1 := cap1) (q := q) (f4 := f4) hs1 hs3 hq1 hq3 hR (fun i hi => (hf1 i hi).trans (hq2 i hi)) hf2 (fun i hi => ⟨upd_n (by omega), rfl, rfl⟩) (by rw [nA, upd_s, if_pos hk]) (by rw [nB, upd_s, if_pos hk]) (by rw [nX, upd_s, if_pos hk]) (by rw [nX, upd_s, if_pos hk]) hcp1 (by omega)⟩
      · rintro u rfl
        exact ⟨r0, l1, l2, l3, bb, da, ga, fo, wh, t2, to, co, f1, f2, f3, c1, _, c3, a1, _, a3, qs, sa, Ls, cs, qn, qu, hs1, hs0, hs3, hq1, hq2, hq3, hR, (blk2 (B := (cB (oMO o r0 l1 l2 l3 bb) (rowW cI cZ r0 da ga n d g) (oBB bb fo wh t2 to co) l1 l2 l3 c1 (.inr (0, [.int x, .ref ea, .int (nI nn)])) c3 ((List.range ns).flatMap (shF cI qs sa Ls cs)) ((List.range nn).flatMap (ndF qn ak no ye)) ((List.range nr).flatMap (ruF qu tl)) a1 [(ea, .inl (cO, nn, .inr (.inr (.inr (.inr f2)))))] a3 [])) [0, 4, 10] [1, 2, 3, 5, 6, 7, 8, 9, 11, 12] (by decide))⟩

set_option maxHeartbeats 4000000 in
set_option maxRecDepth 100000 in
theorem K_question (l : Launch) (hlt : l.stackTraces = false) (D : va_G) (cI cZ cJ cO : ClassId) (e0 mi o n : Nat) (d g : Nat → Int32) (ns : Nat) (sl cr : Nat → Int32) (nn : Nat) (ak no ye : Nat → Int32) (nr : Nat) (tl : Nat → Int32) (h4 : 4 ≤ n) (h64 : n ≤ 64) (u0 : va_W) (h : CI cI cZ cO e0 o n d g ns sl cr nn ak no ye nr tl u0) (hnn : nn ≤ 16) (p0 p1 p2 : Int32) : ∀ sz, vx_Met l y_M_question (wq y_M_question c_M_question 5 (some .int)) ({ frames := 7, cells := 2, slots := 40, locals := 191 }) (kP D (TY cI cZ cJ cO) u0 [.ref o, .int p0, .int p1, .int p2] sz e0 mi) (va_Qi (fun (r : Int32) (u : va_W) => cQue p0 p1 p2 nn = 0 ∧ r = nI nn ∧ CI cI cZ cO e0 o n d g ns sl cr (nn + 1) (upd ak nn (-1 - p0)) (upd no nn p1) (upd ye nn p2) nr tl u) (mB D (TY cI cZ cJ cO) (va_A u0 sz)) (va_A u0 sz)) (vx_X (fun u => CI cI cZ cO e0 o n d g ns sl cr nn ak no ye nr tl u) (xB D (TY cI cZ cJ cO) (va_A u0 sz) (fun E => (cQue p0 p1 p2 nn = 1 ∧ E = eI) ∨ (cQue p0 p1 p2 nn = 2 ∧ E = eA) ∨ (cQue p0 p1 p2 nn = 3 ∧ E = eS))) (va_A u0 sz)) 2 40 (va_A u0 sz) := by
  intro sz
  obtain ⟨r0, l1, l2, l3, bb, da, ga, fo, wh, t2, to, co, f1, f2, f3, c1, c2, c3, a1, a2, a3, qs, sa, Ls, cs, qn, qu, hs1, hs2, hs3, hq1, hq2, hq3, hR, hp⟩ := h
  have hs0 := hs2
  obtain ⟨x, ⟨rfl, rfl, rfl⟩ | ⟨ea, n1, h0, h1, h2, rfl, rfl⟩⟩ := hs2
  · have hp1 := blk hp [0, 4] [1, 2, 3, 5, 6, 7, 8, 9, 10, 11, 12] (by decide)
    refine xframe_i hp1 (c_M_questionV_ok l hlt D cI cZ cJ cO sz e0 mi o r0 l1 l2 l3 bb x p0 p1 p2) (fun a U h9 => h9.g hp1 (ci := 5) rfl (fun y hy => hy.elim)) ?_ ?_ (fun E hE => hE)
    · rintro r u ⟨hc, hr, q, ea1, cap1, f4, rfl, hcp1, hcp2, hf1, hf2⟩
      obtain ⟨w1, w2, w3, w4, w5⟩ := que_w hc; obtain ⟨v1, v2⟩ := que_n ⟨w3, w4⟩; exact ⟨hc, hr, CI_node (cI := cI) (cZ := cZ) (cO := cO) (e0 := e0) (o := o) (n := n) (d := d) (g := g) (ns := ns) (sl := sl) (cr := cr) (nn := 0) (ak := ak) (no := no) (ye := ye) (nr := nr) (tl := tl) (r0 := r0) (l1 := l1) (l2 := l2) (l3 := l3) (bb := bb) (da := da) (ga := ga) (fo := fo) (wh := wh) (t2 := t2) (to := to) (co := co) (f1 := f1) (f2 := f2) (f3 := f3) (c1 := c1) (c2 := (.inr (0, [.int x, .ref e0, .int 0]))) (c3 := c3) (a1 := a1) (a2 := []) (a3 := a3) (qs := qs) (sa := sa) (Ls := Ls) (cs := cs) (qn := qn) (qu := qu) (ak' := upd ak 0 (-1 - p0)) (no' := upd no 0 p1) (ye' := upd ye 0 p2) (x1 := p0) (x2 := -1) (x3 := p1) (x4 := p2) (x := x + 1) (ea1 := ea1) (cap1 := cap1) (q := q) (f4 := f4) hs1 hs3 hq1 hq3 hR (fun i hi => absurd hi (Nat.not_lt_zero i)) hf2 (fun i hi => ⟨upd_n (by omega), upd_n (by omega), upd_n (by omega)⟩) (by rw [nA, upd_s, if_neg v1, v2]) (by rw [nB, upd_s, if_neg v1]) (by rw [nX, upd_s, if_neg v1, upd_s]) (by rw [nX, upd_s, if_neg v1, upd_s]) hcp1 (by omega)⟩
    · rintro u rfl
      exact ⟨r0, l1, l2, l3, bb, da, ga, fo, wh, t2, to, co, f1, f2, f3, c1, _, c3, a1, _, a3, qs, sa, Ls, cs, qn, qu, hs1, hs0, hs3, hq1, hq2, hq3, hR, (blk2 (B := (cB (oMO o r0 l1 l2 l3 bb) (rowW cI cZ r0 da ga n d g) (oBB bb fo wh t2 to co) l1 l2 l3 c1 (.inr (0, [.int x, .ref e0, .int 0])) c3 ((List.range ns).flatMap (shF cI qs sa Ls cs)) ((List.range 0).flatMap (ndF qn ak no ye)) ((List.range nr).flatMap (ruF qu tl)) a1 [] a3 [])) [0, 4] [1, 2, 3, 5, 6, 7, 8, 9, 10, 11, 12] (by decide))⟩
  · rcases Nat.lt_or_ge nn n1 with hlt9 | hge9
    · have hp1 := blk hp [0, 4, 10] [1, 2, 3, 5, 6, 7, 8, 9, 11, 12] (by decide)
      refine xframe_i hp1 (c_M_questionN_ok l hlt D cI cZ cJ cO sz e0 mi o r0 l1 l2 l3 bb x ea nn n1 f2 hnn (by omega) (by omega) p0 p1 p2) (fun a U h9 => h9.g hp1 (ci := 5) rfl (fun y hy => hy.elim)) ?_ ?_ (fun E hE => hE)
      · rintro r u ⟨hc, hr, q, ea1, cap1, f4, rfl, hcp1, hcp2, hf1, hf2⟩
        obtain ⟨w1, w2, w3, w4, w5⟩ := que_w hc; obtain ⟨v1, v2⟩ := que_n ⟨w3, w4⟩; exact ⟨hc, hr, CI_node (cI := cI) (cZ := cZ) (cO := cO) (e0 := e0) (o := o) (n := n) (d := d) (g := g) (ns := ns) (sl := sl) (cr := cr) (nn := nn) (ak := ak) (no := no) (ye := ye) (nr := nr) (tl := tl) (r0 := r0) (l1 := l1) (l2 := l2) (l3 := l3) (bb := bb) (da := da) (ga := ga) (fo := fo) (wh := wh) (t2 := t2) (to := to) (co := co) (f1 := f1) (f2 := f2) (f3 := f3) (c1 := c1) (c2 := (.inr (0, [.int x, .ref ea, .int (nI nn)]))) (c3 := c3) (a1 := a1) (a2 := [(ea, .inl (cO, n1, .inr (.inr (.inr (.inr f2)))))]) (a3 := a3) (qs := qs) (sa := sa) (Ls := Ls) (cs := cs) (qn := qn) (qu := qu) (ak' := upd ak nn (-1 - p0)) (no' := upd no nn p1) (ye' := upd ye nn p2) (x1 := p0) (x2 := -1) (x3 := p1) (x4 := p2) (x := x + 1) (ea1 := ea1) (cap1 := cap1) (q := q) (f4 := f4) hs1 hs3 hq1 hq3 hR (fun i hi => (hf1 i hi).trans (hq2 i hi)) hf2 (fun i hi => ⟨upd_n (by omega), upd_n (by omega), upd_n (by omega)⟩) (by rw [nA, upd_s, if_neg v1, v2]) (by rw [nB, upd_s, if_neg v1]) (by rw [nX, upd_s, if_neg v1, upd_s]) (by rw [nX, upd_s, if_neg v1, upd_s]) hcp1 (by omega)⟩
      · rintro u rfl
        exact ⟨r0, l1, l2, l3, bb, da, ga, fo, wh, t2, to, co, f1, f2, f3, c1, _, c3, a1, _, a3, qs, sa, Ls, cs, qn, qu, hs1, hs0, hs3, hq1, hq2, hq3, hR, (blk2 (B := (cB (oMO o r0 l1 l2 l3 bb) (rowW cI cZ r0 da ga n d g) (oBB bb fo wh t2 to co) l1 l2 l3 c1 (.inr (0, [.int x, .ref ea, .int (nI nn)])) c3 ((List.range ns).flatMap (shF cI qs sa Ls cs)) ((List.range nn).flatMap (ndF qn ak no ye)) ((List.range nr).flatMap (ruF qu tl)) a1 [(ea, .inl (cO, n1, .inr (.inr (.inr (.inr f2)))))] a3 [])) [0, 4, 10] [1, 2, 3, 5, 6, 7, 8, 9, 11, 12] (by decide))⟩
    · obtain rfl : nn = n1 := by omega
      have hp1 := blk hp [0, 4, 10] [1, 2, 3, 5, 6, 7, 8, 9, 11, 12] (by decide)
      refine xframe_i hp1 (c_M_questionG_ok l hlt D cI cZ cJ cO sz e0 mi o r0 l1 l2 l3 bb x ea nn f2 (by omega) p0 p1 p2) (fun a U h9 => h9.g hp1 (ci := 5) rfl (fun y hy => by obtain ⟨i, hi, hf⟩ := hy; rw [hq2 i hi] at hf; cases hf; exact ⟨_, List.mem_flatMap.mpr ⟨7, by decide, mem_f hi (List.mem_singleton.mpr rfl)⟩⟩)) ?_ ?_ (fun E hE => hE)
      · rintro r u ⟨hc, hr, q, ea1, cap1, f4, rfl, hcp1, hcp2, hf1, hf2⟩
        obtain ⟨w1, w2, w3, w4, w5⟩ := que_w hc; obtain ⟨v1, v2⟩ := que_n ⟨w3, w4⟩; exact ⟨hc, hr, CI_node (cI := cI) (cZ := cZ) (cO := cO) (e0 := e0) (o := o) (n := n) (d := d) (g := g) (ns := ns) (sl := sl) (cr := cr) (nn := nn) (ak := ak) (no := no) (ye := ye) (nr := nr) (tl := tl) (r0 := r0) (l1 := l1) (l2 := l2) (l3 := l3) (bb := bb) (da := da) (ga := ga) (fo := fo) (wh := wh) (t2 := t2) (to := to) (co := co) (f1 := f1) (f2 := f2) (f3 := f3) (c1 := c1) (c2 := (.inr (0, [.int x, .ref ea, .int (nI nn)]))) (c3 := c3) (a1 := a1) (a2 := [(ea, .inl (cO, nn, .inr (.inr (.inr (.inr f2)))))]) (a3 := a3) (qs := qs) (sa := sa) (Ls := Ls) (cs := cs) (qn := qn) (qu := qu) (ak' := upd ak nn (-1 - p0)) (no' := upd no nn p1) (ye' := upd ye nn p2) (x1 := p0) (x2 := -1) (x3 := p1) (x4 := p2) (x := x + 1) (ea1 := ea1) (cap1 := cap1) (q := q) (f4 := f4) hs1 hs3 hq1 hq3 hR (fun i hi => (hf1 i hi).trans (hq2 i hi)) hf2 (fun i hi => ⟨upd_n (by omega), upd_n (by omega), upd_n (by omega)⟩) (by rw [nA, upd_s, if_neg v1, v2]) (by rw [nB, upd_s, if_neg v1]) (by rw [nX, upd_s, if_neg v1, upd_s]) (by rw [nX, upd_s, if_neg v1, upd_s]) hcp1 (by omega)⟩
      · rintro u rfl
        exact ⟨r0, l1, l2, l3, bb, da, ga, fo, wh, t2, to, co, f1, f2, f3, c1, _, c3, a1, _, a3, qs, sa, Ls, cs, qn, qu, hs1, hs0, hs3, hq1, hq2, hq3, hR, (blk2 (B := (cB (oMO o r0 l1 l2 l3 bb) (rowW cI cZ r0 da ga n d g) (oBB bb fo wh t2 to co) l1 l2 l3 c1 (.inr (0, [.int x, .ref ea, .int (nI nn)])) c3 ((List.range ns).flatMap (shF cI qs sa Ls cs)) ((List.range nn).flatMap (ndF qn ak no ye)) ((List.range nr).flatMap (ruF qu tl)) a1 [(ea, .inl (cO, nn, .inr (.inr (.inr (.inr f2)))))] a3 [])) [0, 4, 10] [1, 2, 3, 5, 6, 7, 8, 9, 11, 12] (by decide))⟩


theorem tlR_o {tl : Nat → Int32} {r : Nat} {f t lo hi y un : Int32} {x : Nat} (h : x < 6 * r) : tlR tl r f t lo hi y un x = tl x := by
  rw [tlR, upd_n (by omega), upd_n (by omega), upd_n (by omega), upd_n (by omega), upd_n (by omega), upd_n (by omega)]
theorem tlR_0 {tl : Nat → Int32} {r : Nat} {f t lo hi y un : Int32} : tlR tl r f t lo hi y un (6 * r) = f := by rw [tlR, upd_n (by omega), upd_n (by omega), upd_n (by omega), upd_n (by omega), upd_n (by omega), upd_s]
theorem tlR_1 {tl : Nat → Int32} {r : Nat} {f t lo hi y un : Int32} : tlR tl r f t lo hi y un (6 * r + 1) = t := by rw [tlR, upd_n (by omega), upd_n (by omega), upd_n (by omega), upd_n (by omega), upd_s]
theorem tlR_2 {tl : Nat → Int32} {r : Nat} {f t lo hi y un : Int32} : tlR tl r f t lo hi y un (6 * r + 2) = lo := by rw [tlR, upd_n (by omega), upd_n (by omega), upd_n (by omega), upd_s]
theorem tlR_3 {tl : Nat → Int32} {r : Nat} {f t lo hi y un : Int32} : tlR tl r f t lo hi y un (6 * r + 3) = hi := by rw [tlR, upd_n (by omega), upd_n (by omega), upd_s]
theorem tlR_4 {tl : Nat → Int32} {r : Nat} {f t lo hi y un : Int32} : tlR tl r f t lo hi y un (6 * r + 4) = y := by rw [tlR, upd_n (by omega), upd_s]
theorem tlR_5 {tl : Nat → Int32} {r : Nat} {f t lo hi y un : Int32} : tlR tl r f t lo hi y un (6 * r + 5) = un := by rw [tlR, upd_s]

set_option maxHeartbeats 4000000 in
set_option maxRecDepth 100000 in
theorem K_rule (l : Launch) (hlt : l.stackTraces = false) (D : va_G) (cI cZ cJ cO : ClassId) (e0 mi o n : Nat) (d g : Nat → Int32) (ns : Nat) (sl cr : Nat → Int32) (nn : Nat) (ak no ye : Nat → Int32) (nr : Nat) (tl : Nat → Int32) (h4 : 4 ≤ n) (h64 : n ≤ 64) (u0 : va_W) (h : CI cI cZ cO e0 o n d g ns sl cr nn ak no ye nr tl u0) (hnr : nr ≤ 8) (p0 p1 p2 p3 p4 p5 : Int32) : ∀ sz, vx_Met l y_M_rule (wq y_M_rule c_M_rule 7 (some .int)) ({ frames := 7, cells := 2, slots := 40, locals := 191 }) (kP D (TY cI cZ cJ cO) u0 [.ref o, .int p0, .int p1, .int p2, .int p3, .int p4, .int p5] sz e0 mi) (va_Qi (fun (r : Int32) (u : va_W) => cRul n nr p0 p1 p2 p3 p4 p5 = 0 ∧ r = nI (nr + 1) ∧ CI cI cZ cO e0 o n d g ns sl cr nn ak no ye (nr + 1) (tlR tl nr p0 p1 p2 p3 p4 p5) u) (mB D (TY cI cZ cJ cO) (va_A u0 sz)) (va_A u0 sz)) (vx_X (fun u => CI cI cZ cO e0 o n d g ns sl cr nn ak no ye nr tl u) (xB D (TY cI cZ cJ cO) (va_A u0 sz) (fun E => (cRul n nr p0 p1 p2 p3 p4 p5 = 1 ∧ E = eI) ∨ (cRul n nr p0 p1 p2 p3 p4 p5 = 2 ∧ E = eA) ∨ (cRul n nr p0 p1 p2 p3 p4 p5 = 3 ∧ E = eS))) (va_A u0 sz)) 2 40 (va_A u0 sz) := by
  intro sz
  obtain ⟨r0, l1, l2, l3, bb, da, ga, fo, wh, t2, to, co, f1, f2, f3, c1, c2, c3, a1, a2, a3, qs, sa, Ls, cs, qn, qu, hs1, hs2, hs3, hq1, hq2, hq3, hR, hp⟩ := h
  have hs0 := hs3
  obtain ⟨x, ⟨rfl, rfl, rfl⟩ | ⟨ea, n1, h0, h1, h2, rfl, rfl⟩⟩ := hs3
  · have hp1 := blk hp [0, 1, 5] [2, 3, 4, 6, 7, 8, 9, 10, 11, 12] (by decide)
    refine xframe_i hp1 (c_M_ruleV_ok l hlt D cI cZ cJ cO sz e0 mi o r0 l1 l2 l3 bb da ga n d g h4 h64 x p0 p1 p2 p3 p4 p5) (fun a U h9 => h9.g hp1 (ci := 6) rfl (fun y hy => hy.elim)) ?_ ?_ (fun E hE => hE)
    · rintro r u ⟨hc, hr, q, ea1, cap1, f4, rfl, hcp1, hcp2, hf1, hf2⟩
      exact ⟨hc, hr, CI_rule (cI := cI) (cZ := cZ) (cO := cO) (e0 := e0) (o := o) (n := n) (d := d) (g := g) (ns := ns) (sl := sl) (cr := cr) (nn := nn) (ak := ak) (no := no) (ye := ye) (nr := 0) (tl := tl) (r0 := r0) (l1 := l1) (l2 := l2) (l3 := l3) (bb := bb) (da := da) (ga := ga) (fo := fo) (wh := wh) (t2 := t2) (to := to) (co := co) (f1 := f1) (f2 := f2) (f3 := f3) (c1 := c1) (c2 := c2) (c3 := (.inr (0, [.int x, .ref e0, .int 0]))) (a1 := a1) (a2 := a2) (a3 := []) (qs := qs) (sa := sa) (Ls := Ls) (cs := cs) (qn := qn) (qu := qu) (tl' := tlR tl 0 p0 p1 p2 p3 p4 p5) (x1 := p0) (x2 := p1) (x3 := p2) (x4 := p3) (x5 := p4) (x6 := p5) (x := x + 1) (ea1 := ea1) (cap1 := cap1) (q := q) (f4 := f4) hs1 hs2 hq1 hq2 hR (fun i hi => absurd hi (Nat.not_lt_zero i)) hf2 (fun i hi k hk => tlR_o (by omega)) tlR_0 tlR_1 tlR_2 tlR_3 tlR_4 tlR_5 hcp1 (by omega)⟩
    · rintro u rfl
      exact ⟨r0, l1, l2, l3, bb, da, ga, fo, wh, t2, to, co, f1, f2, f3, c1, c2, _, a1, a2, _, qs, sa, Ls, cs, qn, qu, hs1, hs2, hs0, hq1, hq2, hq3, hR, (blk2 (B := (cB (oMO o r0 l1 l2 l3 bb) (rowW cI cZ r0 da ga n d g) (oBB bb fo wh t2 to co) l1 l2 l3 c1 c2 (.inr (0, [.int x, .ref e0, .int 0])) ((List.range ns).flatMap (shF cI qs sa Ls cs)) ((List.range nn).flatMap (ndF qn ak no ye)) ((List.range 0).flatMap (ruF qu tl)) a1 a2 [] [])) [0, 1, 5] [2, 3, 4, 6, 7, 8, 9, 10, 11, 12] (by decide))⟩
  · have hp1 := blk hp [0, 1, 5, 11] [2, 3, 4, 6, 7, 8, 9, 10, 12] (by decide)
    refine xframe_i hp1 (c_M_ruleN_ok l hlt D cI cZ cJ cO sz e0 mi o r0 l1 l2 l3 bb da ga n d g h4 h64 x ea nr n1 f3 hnr (by omega) (by omega) p0 p1 p2 p3 p4 p5) (fun a U h9 => h9.g hp1 (ci := 6) rfl (fun y hy => hy.elim)) ?_ ?_ (fun E hE => hE)
    · rintro r u ⟨hc, hr, q, ea1, cap1, f4, rfl, hcp1, hcp2, hf1, hf2⟩
      exact ⟨hc, hr, CI_rule (cI := cI) (cZ := cZ) (cO := cO) (e0 := e0) (o := o) (n := n) (d := d) (g := g) (ns := ns) (sl := sl) (cr := cr) (nn := nn) (ak := ak) (no := no) (ye := ye) (nr := nr) (tl := tl) (r0 := r0) (l1 := l1) (l2 := l2) (l3 := l3) (bb := bb) (da := da) (ga := ga) (fo := fo) (wh := wh) (t2 := t2) (to := to) (co := co) (f1 := f1) (f2 := f2) (f3 := f3) (c1 := c1) (c2 := c2) (c3 := (.inr (0, [.int x, .ref ea, .int (nI nr)]))) (a1 := a1) (a2 := a2) (a3 := [(ea, .inl (cO, n1, .inr (.inr (.inr (.inr f3)))))]) (qs := qs) (sa := sa) (Ls := Ls) (cs := cs) (qn := qn) (qu := qu) (tl' := tlR tl nr p0 p1 p2 p3 p4 p5) (x1 := p0) (x2 := p1) (x3 := p2) (x4 := p3) (x5 := p4) (x6 := p5) (x := x + 1) (ea1 := ea1) (cap1 := cap1) (q := q) (f4 := f4) hs1 hs2 hq1 hq2 hR (fun i hi => (hf1 i hi).trans (hq3 i hi)) hf2 (fun i hi k hk => tlR_o (by omega)) tlR_0 tlR_1 tlR_2 tlR_3 tlR_4 tlR_5 hcp1 (by omega)⟩
    · rintro u rfl
      exact ⟨r0, l1, l2, l3, bb, da, ga, fo, wh, t2, to, co, f1, f2, f3, c1, c2, _, a1, a2, _, qs, sa, Ls, cs, qn, qu, hs1, hs2, hs0, hq1, hq2, hq3, hR, (blk2 (B := (cB (oMO o r0 l1 l2 l3 bb) (rowW cI cZ r0 da ga n d g) (oBB bb fo wh t2 to co) l1 l2 l3 c1 c2 (.inr (0, [.int x, .ref ea, .int (nI nr)])) ((List.range ns).flatMap (shF cI qs sa Ls cs)) ((List.range nn).flatMap (ndF qn ak no ye)) ((List.range nr).flatMap (ruF qu tl)) a1 a2 [(ea, .inl (cO, n1, .inr (.inr (.inr (.inr f3)))))] [])) [0, 1, 5, 11] [2, 3, 4, 6, 7, 8, 9, 10, 12] (by decide))⟩
