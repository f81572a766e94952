
theorem blk3 {B : Nat → va_W} {u : va_W} (h : u.Perm ((List.range 13).flatMap B)) (is js : List Nat) (k : Nat) (hp : (List.range 13).Perm (is ++ (k :: js))) {S1 S2 : va_W} (hs : (B k).Perm (S1 ++ S2)) : u.Perm ((is.flatMap B ++ S1) ++ (S2 ++ js.flatMap B)) := by
  refine (blk h is (k :: js) hp).trans ?_
  rw [List.flatMap_cons, List.append_assoc]
  refine List.Perm.append_left _ ?_
  exact (hs.append_right _).trans (List.Perm.of_eq (List.append_assoc _ _ _))
theorem blk4 {B : Nat → va_W} (is js : List Nat) (k : Nat) (hp : (List.range 13).Perm (is ++ (k :: js))) {S1 S2 : va_W} (hs : (B k).Perm (S1 ++ S2)) : ((is.flatMap B ++ S1) ++ (S2 ++ js.flatMap B)).Perm ((List.range 13).flatMap B) := (blk3 (List.Perm.refl _) is js k hp hs).symm
theorem sh_set {cI : ClassId} {qs sa Ls : Nat → Nat} {cs : Nat → Nat → Int32} {ns I : Nat} {c : Nat → Int32} (hI : I < ns) : ((List.range ns).flatMap (shF cI qs sa Ls (updN cs I c))).Perm ([(qs I, .inr (4, [.ref (sa I)])), (sa I, .inl (cI, Ls I, .inl c))] ++ ((List.range ns).erase I).flatMap (shF cI qs sa Ls cs)) := by
  have h := at_f (F := shF cI qs sa Ls (updN cs I c)) hI
  rw [er_f (F := shF cI qs sa Ls cs) (fun j hj => by simp only [shF, updN_n hj])] at h
  have e : shF cI qs sa Ls (updN cs I c) I = [(qs I, .inr (4, [.ref (sa I)])), (sa I, .inl (cI, Ls I, .inl c))] := by simp only [shF, updN_s]
  rw [e] at h
  exact h
theorem caS_w {m : Nat} {k v : Int32} (h : cCaS m k v = 0) (hm : m ≤ 16) : k.toNatClampNeg < 16 ∧ 0 ≤ v.toInt ∧ v.toInt ≤ 255 := by
  have h1 : ¬ bI (hs m k.toInt) = 0 := fun z => by rw [ce_1 z] at h; cases h
  have h2 : ¬ bI (iw v 0 255) = 0 := fun z => by rw [ce_2 h1 z] at h; cases h
  have h3 := hs_iff.mp (bI_ne0 h1)
  have h4 := bI_ne0 h2
  have e : (255 : Int32).toInt = 255 := rfl
  simp only [iw, Bool.and_eq_true, decide_eq_true_eq, i0, e] at h4
  have : k.toNatClampNeg = k.toInt.toNat := rfl
  omega
theorem ask_w {b k : Int32} {nn : Nat} (h : cAsk b k nn = 0) : 0 < nn := by
  rcases Nat.eq_zero_or_pos nn with q | q
  · subst q
    rw [cAsk, if_pos (show nI 0 = 0 from rfl)] at h
    by_cases a : iw b 0 65535 = true
    · rw [if_pos a] at h
      by_cases a2 : iw k 0 65535 = true
      · rw [if_pos a2] at h; cases h
      · rw [if_neg a2] at h; cases h
    · rw [if_neg a] at h; cases h
  · exact q
theorem uOK_fn {n nr : Nat} {tl : Nat → Int32} (h : uOK n nr tl) (hn : n ≤ 64) : ∃ F T : Nat → Nat, ∀ r, r < nr → tl (6 * r) = nI (F r) ∧ tl (6 * r + 1) = nI (T r) ∧ F r ≤ T r ∧ T r < n := by
  refine ⟨fun r => (tl (6 * r)).toNatClampNeg, fun r => (tl (6 * r + 1)).toNatClampNeg, fun r hr => ?_⟩
  obtain ⟨F, T, e1, e2, e3, e4, -⟩ := h r hr
  dsimp only
  rw [e1, e2, nI_clamp (by omega), nI_clamp (by omega)]
  exact ⟨rfl, rfl, e3, e4⟩

set_option maxHeartbeats 4000000 in
set_option maxRecDepth 100000 in
theorem K_carve (l : Launch) (hlt : l.stackTraces = false) (D : va_G) (cI cZ cJ cO : ClassId) (e0 mi o n : Nat) (d g : Nat → Int32) (ns : Nat) (sl cr : Nat → Int32) (nn : Nat) (ak no ye : Nat → Int32) (nr : Nat) (tl : Nat → Int32) (h4 : 4 ≤ n) (h64 : n ≤ 64) (u0 : va_W) (h : CI cI cZ cO e0 o n d g ns sl cr nn ak no ye nr tl u0) (hns : ns ≤ 8) (p0 p1 p2 : Int32) : ∀ sz, vx_Met l y_M_carve (wq y_M_carve c_M_carve 5 none) ({ frames := 6, cells := 1, slots := 6, locals := 100 }) (kP D (TY cI cZ cJ cO) u0 [.ref o, .int p0, .int p1, .int p2] sz e0 mi) (va_Qv (fun (u : va_W) => cCar p0 p1 p2 ns sl = 0 ∧ CI cI cZ cO e0 o n d g ns sl (crC cr p0 p1 p2 ns sl) nn ak no ye nr tl u) (mB D (TY cI cZ cJ cO) (va_A u0 sz)) (va_A u0 sz)) (vx_X (fun u => CI cI cZ cO e0 o n d g ns sl cr nn ak no ye nr tl u) (xB D (TY cI cZ cJ cO) (va_A u0 sz) (fun E => (cCar p0 p1 p2 ns sl = 1 ∧ E = eI) ∨ (cCar p0 p1 p2 ns sl = 2 ∧ E = eA))) (va_A u0 sz)) 1 6 (va_A u0 sz) := by
  intro sz
  obtain ⟨r0, l1, l2, l3, bb, da, ga, fo, wh, t2, to, co, f1, f2, f3, c1, c2, c3, a1, a2, a3, qs, sa, Ls, cs, qn, qu, hs1, hs2, hs3, hq1, hq2, hq3, hR, hp⟩ := h
  by_cases hX : bI (iw p0 0 (nI ns - 1)) = 0
  · obtain ⟨x, ea, n1, rfl, -, -, -⟩ := lso_r hs1
    have hp1 := blk hp [0, 3] [1, 2, 4, 5, 6, 7, 8, 9, 10, 11, 12] (by decide)
    refine xframe_v hp1 (c_M_carveX_ok l hlt D cI cZ cJ cO sz o r0 l1 l2 l3 bb x ea ns p0 p1 p2 hX) (fun a U h9 => h9.t hp1) (fun u hu => hu.elim) ?_ (fun E hE => Or.inl ⟨cc_1 hX, hE⟩)
    rintro u rfl
    exact ⟨r0, l1, l2, l3, bb, da, ga, fo, wh, t2, to, co, f1, f2, f3, _, c2, c3, a1, a2, a3, qs, sa, Ls, cs, qn, qu, hs1, hs2, hs3, hq1, hq2, hq3, hR, (blk2 (B := (cB (oMO o r0 l1 l2 l3 bb) (rowW cI cZ r0 da ga n d g) (oBB bb fo wh t2 to co) l1 l2 l3 (.inr (0, [.int x, .ref ea, .int (nI ns)])) c2 c3 ((List.range ns).flatMap (shF cI qs sa Ls cs)) ((List.range nn).flatMap (ndF qn ak no ye)) ((List.range nr).flatMap (ruF qu tl)) a1 a2 a3 [])) [0, 3] [1, 2, 4, 5, 6, 7, 8, 9, 10, 11, 12] (by decide))⟩
  · obtain ⟨I, hI, rfl⟩ := car_i hns hX
    have hs0 := hs1
    obtain ⟨x, ⟨rfl, -, -⟩ | ⟨ea, n1, h0, h1, h2, rfl, rfl⟩⟩ := hs1
    · exact absurd hI (Nat.not_lt_zero _)
    · obtain ⟨e1, e2, e3, e4⟩ := hR I hI
      have hce := car_eq (s := nI I) (k := p1) (v := p2) (sl := sl) rfl hI hns e1 ⟨e2, e3⟩
      have hp1 := blk3 hp [0, 3, 9] [1, 2, 4, 5, 7, 8, 10, 11, 12] 6 (by decide) (at_f (F := shF cI qs sa Ls cs) hI)
      refine xframe_v hp1 (c_M_carveS_ok l hlt D cI cZ cJ cO sz o r0 l1 l2 l3 bb x ea ns n1 f1 I (qs I) (sa I) (Ls I) (cs I) hI h1 (by omega) (hq1 I hI) e3 p1 p2) (fun a U h9 => h9.t hp1) ?_ ?_ (fun E hE => by rw [hce]; exact hE)
      · rintro u ⟨hc, rfl⟩
        have hc2 := hce.trans hc
        obtain ⟨w1, w2, w3⟩ := caS_w hc e3
        refine ⟨hc2, ?_⟩
        rw [crC, if_pos hc2, nI_clamp (by omega)]
        exact ⟨r0, l1, l2, l3, bb, da, ga, fo, wh, t2, to, co, f1, f2, f3, _, c2, c3, _, a2, a3, qs, sa, Ls, (updN cs I (upd (cs I) p1.toNatClampNeg p2)), qn, qu, hs0, hs2, hs3, hq1, hq2, hq3, sR_set hR w1 ⟨w2, w3⟩, blk4 (B := (cB (oMO o r0 l1 l2 l3 bb) (rowW cI cZ r0 da ga n d g) (oBB bb fo wh t2 to co) l1 l2 l3 (.inr (0, [.int x, .ref ea, .int (nI ns)])) c2 c3 ((List.range ns).flatMap (shF cI qs sa Ls (updN cs I (upd (cs I) p1.toNatClampNeg p2)))) ((List.range nn).flatMap (ndF qn ak no ye)) ((List.range nr).flatMap (ruF qu tl)) [(ea, .inl (cO, n1, .inr (.inr (.inr (.inr f1)))))] a2 a3 [])) [0, 3, 9] [1, 2, 4, 5, 7, 8, 10, 11, 12] 6 (by decide) (sh_set hI)⟩
      · rintro u rfl
        exact ⟨r0, l1, l2, l3, bb, da, ga, fo, wh, t2, to, co, f1, f2, f3, _, c2, c3, _, a2, a3, qs, sa, Ls, cs, qn, qu, hs0, hs2, hs3, hq1, hq2, hq3, hR, blk4 (B := (cB (oMO o r0 l1 l2 l3 bb) (rowW cI cZ r0 da ga n d g) (oBB bb fo wh t2 to co) l1 l2 l3 (.inr (0, [.int x, .ref ea, .int (nI ns)])) c2 c3 ((List.range ns).flatMap (shF cI qs sa Ls cs)) ((List.range nn).flatMap (ndF qn ak no ye)) ((List.range nr).flatMap (ruF qu tl)) [(ea, .inl (cO, n1, .inr (.inr (.inr (.inr f1)))))] a2 a3 [])) [0, 3, 9] [1, 2, 4, 5, 7, 8, 10, 11, 12] 6 (by decide) (at_f (F := shF cI qs sa Ls cs) hI)⟩

set_option maxHeartbeats 4000000 in
set_option maxRecDepth 100000 in
theorem K_match_ (l : Launch) (hlt : l.stackTraces = false) (D : va_G) (cI cZ cJ cO : ClassId) (e0 mi o n : Nat) (d g : Nat → Int32) (ns : Nat) (sl cr : Nat → Int32) (nn : Nat) (ak no ye : Nat → Int32) (nr : Nat) (tl : Nat → Int32) (h4 : 4 ≤ n) (h64 : n ≤ 64) (u0 : va_W) (h : CI cI cZ cO e0 o n d g ns sl cr nn ak no ye nr tl u0) (hd : dOK n d) (hns : ns ≤ 8) (bp : Int32) (bo : Int64) (bm : Int32) (p0 : Int32) : ∀ sz, vx_Met l y_M_match_ (wq y_M_match_ c_M_match_ 2 (some .int)) ({ frames := 6, cells := 1, slots := 6, locals := 100 }) (kP D (TY cI cZ cJ cO) u0 [.ref o, .int p0] sz e0 mi) (va_Qi (fun (r : Int32) (u : va_W) => cMat (mtS n d sl cr (-1, bp, bo, bm) ns).1 p0 = 0 ∧ r = aMat (mtS n d sl cr (-1, bp, bo, bm) ns) p0 ∧ CI cI cZ cO e0 o n d g ns sl cr nn ak no ye nr tl u) (mB D (TY cI cZ cJ cO) (va_A u0 sz)) (va_A u0 sz)) (vx_X (fun u => CI cI cZ cO e0 o n d g ns sl cr nn ak no ye nr tl u) (xB D (TY cI cZ cJ cO) (va_A u0 sz) (fun E => (cMat (mtS n d sl cr (-1, bp, bo, bm) ns).1 p0 = 1 ∧ E = eS) ∨ (cMat (mtS n d sl cr (-1, bp, bo, bm) ns).1 p0 = 2 ∧ E = eI))) (va_A u0 sz)) 1 6 (va_A u0 sz) := by
  intro sz
  obtain ⟨r0, l1, l2, l3, bb, da, ga, fo, wh, t2, to, co, f1, f2, f3, c1, c2, c3, a1, a2, a3, qs, sa, Ls, cs, qn, qu, hs1, hs2, hs3, hq1, hq2, hq3, hR, hp⟩ := h
  obtain ⟨x, ea, n1, rfl, hc1, hc2, hc3⟩ := lso_r hs1
  have hp0 := blk hp [0, 1, 2, 3] [4, 5, 6, 7, 8, 9, 10, 11, 12] (by decide)
  have hp1 := hp0.trans (List.Perm.of_eq (List.append_nil _).symm)
  have hm := mat_eq (n := n) hd hns hR (wh := wh) (t2 := t2) (to := to) (co := co) (bp := bp) (bo := bo) (bm := bm) p0
  refine xframe_i hp1 (c_M_match__ok l hlt D cI cZ cJ cO sz o r0 l1 l2 l3 bb da ga n d g h4 h64 fo wh t2 to co x ea ns n1 f1 ([4, 5, 6, 7, 8, 9, 10, 11, 12].flatMap (cB (oMO o r0 l1 l2 l3 bb) (rowW cI cZ r0 da ga n d g) (oBB bb fo wh t2 to co) l1 l2 l3 (.inr (0, [.int x, .ref ea, .int (nI ns)])) c2 c3 ((List.range ns).flatMap (shF cI qs sa Ls cs)) ((List.range nn).flatMap (ndF qn ak no ye)) ((List.range nr).flatMap (ruF qu tl)) a1 a2 a3 [])) qs sa Ls cs hns (hc1 (by omega)) hc2 (fun h9 => List.mem_flatMap.mpr ⟨9, by decide, hc3 h9⟩) (fun i hi => ⟨hq1 i hi, List.mem_flatMap.mpr ⟨6, by decide, mem_f hi List.mem_cons_self⟩, List.mem_flatMap.mpr ⟨6, by decide, mem_f hi (List.mem_cons_of_mem _ List.mem_cons_self)⟩, (hR i hi).2.2.1⟩) p0) (fun a U h9 => h9.t hp1) ?_ ?_ (fun E hE => by rw [hm.1] at hE; exact hE)
  · rintro r u ⟨hc, rfl, hr⟩
    rw [hm.1] at hc; exact ⟨hc, hr.trans (hm.2 hc), ⟨r0, l1, l2, l3, bb, da, ga, _, _, _, _, _, f1, f2, f3, _, c2, c3, a1, a2, a3, qs, sa, Ls, cs, qn, qu, hs1, hs2, hs3, hq1, hq2, hq3, hR, (List.Perm.of_eq (List.append_nil _)).trans (blk2 (B := (cB (oMO o r0 l1 l2 l3 bb) (rowW cI cZ r0 da ga n d g) (oBB bb (mcS n d Ls cs (0, wh, t2, to, co) ns).1 (mcS n d Ls cs (0, wh, t2, to, co) ns).2.1 (mcS n d Ls cs (0, wh, t2, to, co) ns).2.2.1 (mcS n d Ls cs (0, wh, t2, to, co) ns).2.2.2.1 (mcS n d Ls cs (0, wh, t2, to, co) ns).2.2.2.2) l1 l2 l3 (.inr (0, [.int x, .ref ea, .int (nI ns)])) c2 c3 ((List.range ns).flatMap (shF cI qs sa Ls cs)) ((List.range nn).flatMap (ndF qn ak no ye)) ((List.range nr).flatMap (ruF qu tl)) a1 a2 a3 [])) [0, 1, 2, 3] [4, 5, 6, 7, 8, 9, 10, 11, 12] (by decide))⟩⟩
  · rintro u rfl
    exact ⟨r0, l1, l2, l3, bb, da, ga, _, _, _, _, _, f1, f2, f3, _, c2, c3, a1, a2, a3, qs, sa, Ls, cs, qn, qu, hs1, hs2, hs3, hq1, hq2, hq3, hR, (List.Perm.of_eq (List.append_nil _)).trans (blk2 (B := (cB (oMO o r0 l1 l2 l3 bb) (rowW cI cZ r0 da ga n d g) (oBB bb (mcS n d Ls cs (0, wh, t2, to, co) ns).1 (mcS n d Ls cs (0, wh, t2, to, co) ns).2.1 (mcS n d Ls cs (0, wh, t2, to, co) ns).2.2.1 (mcS n d Ls cs (0, wh, t2, to, co) ns).2.2.2.1 (mcS n d Ls cs (0, wh, t2, to, co) ns).2.2.2.2) l1 l2 l3 (.inr (0, [.int x, .ref ea, .int (nI ns)])) c2 c3 ((List.range ns).flatMap (shF cI qs sa Ls cs)) ((List.range nn).flatMap (ndF qn ak no ye)) ((List.range nr).flatMap (ruF qu tl)) a1 a2 a3 [])) [0, 1, 2, 3] [4, 5, 6, 7, 8, 9, 10, 11, 12] (by decide))⟩

set_option maxHeartbeats 4000000 in
set_option maxRecDepth 100000 in
theorem K_ask (l : Launch) (hlt : l.stackTraces = false) (D : va_G) (cI cZ cJ cO : ClassId) (e0 mi o n : Nat) (d g : Nat → Int32) (ns : Nat) (sl cr : Nat → Int32) (nn : Nat) (ak no ye : Nat → Int32) (nr : Nat) (tl : Nat → Int32) (h4 : 4 ≤ n) (h64 : n ≤ 64) (u0 : va_W) (h : CI cI cZ cO e0 o n d g ns sl cr nn ak no ye nr tl u0) (hnn : nn ≤ 16) (h5 : nOK nn ak no ye) (h6 : aOK nn ak) (p0 p1 : Int32) : ∀ sz, vx_Met l y_M_ask (wq y_M_ask c_M_ask 4 (some .int)) ({ frames := 6, cells := 1, slots := 6, locals := 100 }) (kP D (TY cI cZ cJ cO) u0 [.ref o, .int p0, .int p1] sz e0 mi) (va_Qi (fun (r : Int32) (u : va_W) => cAsk p0 p1 nn = 0 ∧ r = qa ak no ye p0 p1 nn (nn - 1) ∧ CI cI cZ cO e0 o n d g ns sl cr nn ak no ye nr tl u) (mB D (TY cI cZ cJ cO) (va_A u0 sz)) (va_A u0 sz)) (vx_X (fun u => CI cI cZ cO e0 o n d g ns sl cr nn ak no ye nr tl u) (xB D (TY cI cZ cJ cO) (va_A u0 sz) (fun E => (cAsk p0 p1 nn = 1 ∧ E = eA) ∨ (cAsk p0 p1 nn = 2 ∧ E = eS))) (va_A u0 sz)) 1 6 (va_A u0 sz) := by
  intro sz
  obtain ⟨r0, l1, l2, l3, bb, da, ga, fo, wh, t2, to, co, f1, f2, f3, c1, c2, c3, a1, a2, a3, qs, sa, Ls, cs, qn, qu, hs1, hs2, hs3, hq1, hq2, hq3, hR, hp⟩ := h
  obtain ⟨x, ea, n1, rfl, hc1, hc2, hc3⟩ := lso_r hs2
  have hp0 := blk hp [0, 4] [1, 2, 3, 5, 6, 7, 8, 9, 10, 11, 12] (by decide)
  have hp1 := hp0.trans (List.Perm.of_eq (List.append_nil _).symm)

  refine xframe_i hp1 (c_M_ask_ok l hlt D cI cZ cJ cO sz o r0 l1 l2 l3 bb x ea nn n1 f2 ([1, 2, 3, 5, 6, 7, 8, 9, 10, 11, 12].flatMap (cB (oMO o r0 l1 l2 l3 bb) (rowW cI cZ r0 da ga n d g) (oBB bb fo wh t2 to co) l1 l2 l3 c1 (.inr (0, [.int x, .ref ea, .int (nI nn)])) c3 ((List.range ns).flatMap (shF cI qs sa Ls cs)) ((List.range nn).flatMap (ndF qn ak no ye)) ((List.range nr).flatMap (ruF qu tl)) a1 a2 a3 [])) qn (nA ak) (nB ak) (nX ak no) (nX ak ye) hnn (hc1 (by omega)) hc2 (fun h9 => List.mem_flatMap.mpr ⟨10, by decide, hc3 h9⟩) (fun i hi => ⟨hq2 i hi, List.mem_flatMap.mpr ⟨7, by decide, mem_f hi (List.mem_singleton.mpr rfl)⟩⟩) (nC_of h5) p0 p1) (fun a U h9 => h9.t hp1) ?_ ?_ (fun E hE => hE)
  · rintro r u ⟨hc, rfl, hr⟩
    have h9 := ask_w hc; exact ⟨hc, hr.trans (ask_eq h5 h6 hnn nn (nn - 1) (by omega) (by omega) 16 (by omega)), ⟨r0, l1, l2, l3, bb, da, ga, fo, wh, t2, to, co, f1, f2, f3, c1, _, c3, a1, a2, a3, qs, sa, Ls, cs, qn, qu, hs1, hs2, hs3, hq1, hq2, hq3, hR, (List.Perm.of_eq (List.append_nil _)).trans (blk2 (B := (cB (oMO o r0 l1 l2 l3 bb) (rowW cI cZ r0 da ga n d g) (oBB bb fo wh t2 to co) l1 l2 l3 c1 (.inr (0, [.int x, .ref ea, .int (nI nn)])) c3 ((List.range ns).flatMap (shF cI qs sa Ls cs)) ((List.range nn).flatMap (ndF qn ak no ye)) ((List.range nr).flatMap (ruF qu tl)) a1 a2 a3 [])) [0, 4] [1, 2, 3, 5, 6, 7, 8, 9, 10, 11, 12] (by decide))⟩⟩
  · rintro u rfl
    exact ⟨r0, l1, l2, l3, bb, da, ga, fo, wh, t2, to, co, f1, f2, f3, c1, _, c3, a1, a2, a3, qs, sa, Ls, cs, qn, qu, hs1, hs2, hs3, hq1, hq2, hq3, hR, (List.Perm.of_eq (List.append_nil _)).trans (blk2 (B := (cB (oMO o r0 l1 l2 l3 bb) (rowW cI cZ r0 da ga n d g) (oBB bb fo wh t2 to co) l1 l2 l3 c1 (.inr (0, [.int x, .ref ea, .int (nI nn)])) c3 ((List.range ns).flatMap (shF cI qs sa Ls cs)) ((List.range nn).flatMap (ndF qn ak no ye)) ((List.range nr).flatMap (ruF qu tl)) a1 a2 a3 [])) [0, 4] [1, 2, 3, 5, 6, 7, 8, 9, 10, 11, 12] (by decide))⟩

set_option maxHeartbeats 4000000 in
set_option maxRecDepth 100000 in
theorem K_age (l : Launch) (hlt : l.stackTraces = false) (D : va_G) (cI cZ cJ cO : ClassId) (e0 mi o n : Nat) (d g : Nat → Int32) (ns : Nat) (sl cr : Nat → Int32) (nn : Nat) (ak no ye : Nat → Int32) (nr : Nat) (tl : Nat → Int32) (h4 : 4 ≤ n) (h64 : n ≤ 64) (u0 : va_W) (h : CI cI cZ cO e0 o n d g ns sl cr nn ak no ye nr tl u0) (hnr : nr ≤ 8) (h5 : uOK n nr tl) (h6 : yOK nr tl) (p0 : Int32) : ∀ sz, vx_Met l y_M_age (wq y_M_age c_M_age 7 (some .int)) ({ frames := 6, cells := 1, slots := 6, locals := 100 }) (kP D (TY cI cZ cJ cO) u0 [.ref o, .int p0] sz e0 mi) (va_Qi (fun (r : Int32) (u : va_W) => cAge p0 (agT n d tl nr) = 0 ∧ (r = if p0 = 0 then (agT n d tl nr).2.1 else (agT n d tl nr).2.2) ∧ CI cI cZ cO e0 o n d g ns sl cr nn ak no ye nr tl u) (mB D (TY cI cZ cJ cO) (va_A u0 sz)) (va_A u0 sz)) (vx_X (fun u => CI cI cZ cO e0 o n d g ns sl cr nn ak no ye nr tl u) (xB D (TY cI cZ cJ cO) (va_A u0 sz) (fun E => (cAge p0 (agT n d tl nr) = 1 ∧ E = eI) ∨ (cAge p0 (agT n d tl nr) = 2 ∧ E = eS))) (va_A u0 sz)) 1 6 (va_A u0 sz) := by
  intro sz
  obtain ⟨r0, l1, l2, l3, bb, da, ga, fo, wh, t2, to, co, f1, f2, f3, c1, c2, c3, a1, a2, a3, qs, sa, Ls, cs, qn, qu, hs1, hs2, hs3, hq1, hq2, hq3, hR, hp⟩ := h
  obtain ⟨x, ea, n1, rfl, hc1, hc2, hc3⟩ := lso_r hs3
  have hp0 := blk hp [0, 1, 5] [2, 3, 4, 6, 7, 8, 9, 10, 11, 12] (by decide)
  have hp1 := hp0.trans (List.Perm.of_eq (List.append_nil _).symm)
  obtain ⟨F, T, hF⟩ := uOK_fn h5 h64
  have hm := age_eq (n := n) (d := d) (F := F) (T := T) (fun r hr => by obtain ⟨e1, e2, e3, e4⟩ := hF r hr; exact ⟨e1, e2, by omega, by omega⟩) h6 p0
  refine xframe_i hp1 (c_M_age_ok l hlt D cI cZ cJ cO sz o r0 l1 l2 l3 bb da ga n d g h4 h64 x ea nr n1 f3 ([2, 3, 4, 6, 7, 8, 9, 10, 11, 12].flatMap (cB (oMO o r0 l1 l2 l3 bb) (rowW cI cZ r0 da ga n d g) (oBB bb fo wh t2 to co) l1 l2 l3 c1 c2 (.inr (0, [.int x, .ref ea, .int (nI nr)])) ((List.range ns).flatMap (shF cI qs sa Ls cs)) ((List.range nn).flatMap (ndF qn ak no ye)) ((List.range nr).flatMap (ruF qu tl)) a1 a2 a3 [])) qu F T (fun r => tl (6 * r + 2)) (fun r => tl (6 * r + 3)) (fun r => tl (6 * r + 4)) (fun r => tl (6 * r + 5)) hnr (hc1 (by omega)) hc2 (fun h9 => List.mem_flatMap.mpr ⟨11, by decide, hc3 h9⟩) (fun i hi => ⟨hq3 i hi, by obtain ⟨e1, e2, -⟩ := hF i hi; rw [← e1, ← e2]; exact List.mem_flatMap.mpr ⟨8, by decide, mem_f hi (List.mem_singleton.mpr rfl)⟩⟩) (fun i hi => (hF i hi).2.2) p0) (fun a U h9 => h9.t hp1) ?_ ?_ (fun E hE => by rw [hm.1] at hE; exact hE)
  · rintro r u ⟨hc, rfl, hr⟩
    rw [hm.1] at hc; rw [hm.2 hc] at hr; exact ⟨hc, hr, ⟨r0, l1, l2, l3, bb, da, ga, fo, wh, t2, to, co, f1, f2, f3, c1, c2, _, a1, a2, a3, qs, sa, Ls, cs, qn, qu, hs1, hs2, hs3, hq1, hq2, hq3, hR, (List.Perm.of_eq (List.append_nil _)).trans (blk2 (B := (cB (oMO o r0 l1 l2 l3 bb) (rowW cI cZ r0 da ga n d g) (oBB bb fo wh t2 to co) l1 l2 l3 c1 c2 (.inr (0, [.int x, .ref ea, .int (nI nr)])) ((List.range ns).flatMap (shF cI qs sa Ls cs)) ((List.range nn).flatMap (ndF qn ak no ye)) ((List.range nr).flatMap (ruF qu tl)) a1 a2 a3 [])) [0, 1, 5] [2, 3, 4, 6, 7, 8, 9, 10, 11, 12] (by decide))⟩⟩
  · rintro u rfl
    exact ⟨r0, l1, l2, l3, bb, da, ga, fo, wh, t2, to, co, f1, f2, f3, c1, c2, _, a1, a2, a3, qs, sa, Ls, cs, qn, qu, hs1, hs2, hs3, hq1, hq2, hq3, hR, (List.Perm.of_eq (List.append_nil _)).trans (blk2 (B := (cB (oMO o r0 l1 l2 l3 bb) (rowW cI cZ r0 da ga n d g) (oBB bb fo wh t2 to co) l1 l2 l3 c1 c2 (.inr (0, [.int x, .ref ea, .int (nI nr)])) ((List.range ns).flatMap (shF cI qs sa Ls cs)) ((List.range nn).flatMap (ndF qn ak no ye)) ((List.range nr).flatMap (ruF qu tl)) a1 a2 a3 [])) [0, 1, 5] [2, 3, 4, 6, 7, 8, 9, 10, 11, 12] (by decide))⟩
