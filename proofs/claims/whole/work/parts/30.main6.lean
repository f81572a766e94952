
/-- the class's search of a shape along the row -/
def mc1 (n : Nat) (d f : Nat → Int32) (L s p : Nat) (t : B5) : B5 := if nI (cv n d p L) < (nI L + 1) / 2 then t else offer t (nI s) (nI p) (mss n d f p L) (nI (cv n d p L))
def mcP (n : Nat) (d f : Nat → Int32) (L s : Nat) (t : B5) : Nat → B5
  | 0 => t
  | p + 1 => mc1 n d f L s p (mcP n d f L s t p)
def mcS (n : Nat) (d : Nat → Int32) (Ls : Nat → Nat) (cs : Nat → Nat → Int32) (t : B5) : Nat → B5
  | 0 => t
  | s + 1 => mcP n d (cs s) (Ls s) s (mcS n d Ls cs t s) n
def cMaC (fo w : Int32) : Int32 := if fo = 0 then 1 else if iw w 0 3 then 0 else 2
def aMaC (t : B5) (w : Int32) : Int32 := if w = 0 then t.2.1 else if w = 1 then t.2.2.1 else if w = 2 then t.2.2.2.1 else t.2.2.2.2
theorem cy_1 {fo w : Int32} (h : fo = 0) : cMaC fo w = 1 := if_pos h
theorem cy_2 {fo w : Int32} (h : ¬ fo = 0) (h1 : w.toInt < 0 ∨ 3 < w.toInt) : cMaC fo w = 2 := by
  have : iw w 0 3 = false := by
    have e3 : (3 : Int32).toInt = 3 := rfl
    rw [iw, i0, e3, Bool.and_eq_false_iff, decide_eq_false_iff_not, decide_eq_false_iff_not]; omega
  rw [cMaC, if_neg h, this]; rfl
theorem cy_0 {fo w : Int32} {k : Nat} (h : ¬ fo = 0) (hk : k ≤ 3) (h1 : w = nI k) : cMaC fo w = 0 := by
  have : iw w 0 3 = true := by
    have e3 : (3 : Int32).toInt = 3 := rfl
    rw [h1, iw, i0, e3, nI_toInt (by omega), Bool.and_eq_true, decide_eq_true_eq, decide_eq_true_eq]; omega
  rw [cMaC, if_neg h, this]; rfl
theorem wk {w : Int32} (h1 : ¬ w.toInt < 0) (h2 : ¬ 3 < w.toInt) : w = 0 ∨ w = 1 ∨ w = 2 ∨ w = 3 := by
  rcases (show w.toInt = 0 ∨ w.toInt = 1 ∨ w.toInt = 2 ∨ w.toInt = 3 by omega) with q | q | q | q
  · exact Or.inl (ieq.mpr q)
  · exact Or.inr (Or.inl (ieq.mpr q))
  · exact Or.inr (Or.inr (Or.inl (ieq.mpr q)))
  · exact Or.inr (Or.inr (Or.inr (ieq.mpr q)))

set_option maxHeartbeats 4000000 in
set_option maxRecDepth 100000 in
/-- findMatch() -/
theorem c_M_findMatch_ok (l : Launch) (D : va_G) (cI cZ cJ cO : ClassId) (sz : Nat) (o r0 l1 l2 l3 bb da ga : Nat) (n : Nat) (d g : Nat → Int32) (h4 : 4 ≤ n) (h64 : n ≤ 64) (fo wh t2 to co : Int32) (x1 : Int32) (ea c9 n1 : Nat) (f : Nat → Option Nat) (tl9 : va_W) (qs sa Ls : Nat → Nat) (cs : Nat → Nat → Int32) (hc9 : c9 ≤ 8) (hcn : c9 ≤ n1) (hn1 : n1 ≤ 22) (hea : 0 < c9 → (ea, .inl (cO, n1, .inr (.inr (.inr (.inr f))))) ∈ tl9) (hsh : ∀ i, i < c9 → f i = some (qs i) ∧ (qs i, .inr (4, [.ref (sa i)])) ∈ tl9 ∧ (sa i, .inl (cI, Ls i, .inl (cs i))) ∈ tl9 ∧ Ls i ≤ 16) : Met l y_M_findMatch (wq y_M_findMatch c_M_findMatch 5 none) ({ frames := 3, cells := 0, slots := 0, locals := 67 }) (mP D (TY cI cZ cJ cO) ([(o, .inr (3, [.ref r0, .ref l1, .ref l2, .ref l3, .ref bb])), (r0, .inr (2, [.ref da, .ref ga])), (da, .inl (cI, n, .inl d)), (ga, .inl (cZ, n, .inl g)), (bb, .inr (1, [.int fo, .int wh, .int t2, .int to, .int co])), (l1, .inr (0, [.int x1, .ref ea, .int (nI c9)]))] ++ tl9) [.ref o] sz) (va_Qv (fun (u : va_W) => u = [(o, .inr (3, [.ref r0, .ref l1, .ref l2, .ref l3, .ref bb])), (r0, .inr (2, [.ref da, .ref ga])), (da, .inl (cI, n, .inl d)), (ga, .inl (cZ, n, .inl g)), (bb, .inr (1, [.int ((mcS n d Ls cs (0, wh, t2, to, co) c9).1), .int ((mcS n d Ls cs (0, wh, t2, to, co) c9).2.1), .int ((mcS n d Ls cs (0, wh, t2, to, co) c9).2.2.1), .int ((mcS n d Ls cs (0, wh, t2, to, co) c9).2.2.2.1), .int ((mcS n d Ls cs (0, wh, t2, to, co) c9).2.2.2.2)])), (l1, .inr (0, [.int x1, .ref ea, .int (nI c9)]))] ++ tl9) (mB D (TY cI cZ cJ cO) (va_A ([(o, .inr (3, [.ref r0, .ref l1, .ref l2, .ref l3, .ref bb])), (r0, .inr (2, [.ref da, .ref ga])), (da, .inl (cI, n, .inl d)), (ga, .inl (cZ, n, .inl g)), (bb, .inr (1, [.int fo, .int wh, .int t2, .int to, .int co])), (l1, .inr (0, [.int x1, .ref ea, .int (nI c9)]))] ++ tl9) sz)) (va_A ([(o, .inr (3, [.ref r0, .ref l1, .ref l2, .ref l3, .ref bb])), (r0, .inr (2, [.ref da, .ref ga])), (da, .inl (cI, n, .inl d)), (ga, .inl (cZ, n, .inl g)), (bb, .inr (1, [.int fo, .int wh, .int t2, .int to, .int co])), (l1, .inr (0, [.int x1, .ref ea, .int (nI c9)]))] ++ tl9) sz)) 0 0 (va_A ([(o, .inr (3, [.ref r0, .ref l1, .ref l2, .ref l3, .ref bb])), (r0, .inr (2, [.ref da, .ref ga])), (da, .inl (cI, n, .inl d)), (ga, .inl (cZ, n, .inl g)), (bb, .inr (1, [.int fo, .int wh, .int t2, .int to, .int co])), (l1, .inr (0, [.int x1, .ref ea, .int (nI c9)]))] ++ tl9) sz) := by
  refine Met.ofW (cc := c_M_findMatch) (maxL := 5) (ret := none) (by decide) rfl ?_
  intro p e s m args below meth c s₁ B hml hv
  obtain ⟨rfl, hsz, hP, hK, hD0, hN⟩ := hv
  have hx := B.exec
  have hb := B.bytes
  have hr := B.returns
  have hg := gt_h (atoms_spec (ws := (wq y_M_findMatch c_M_findMatch 5 none)) B.pre)
  have hown : s.vm.findClass "RubbingMirrors" = some m.cls := findClass_of_methodNamed B.named
  have hlocks := B.notSynchronized
  subst hsz
  have hD := hD0.self (sz := s.heap.size)
  generalize hAe : va_A ([(o, .inr (3, [.ref r0, .ref l1, .ref l2, .ref l3, .ref bb])), (r0, .inr (2, [.ref da, .ref ga])), (da, .inl (cI, n, .inl d)), (ga, .inl (cZ, n, .inl g)), (bb, .inr (1, [.int fo, .int wh, .int t2, .int to, .int co])), (l1, .inr (0, [.int x1, .ref ea, .int (nI c9)]))] ++ tl9) s.heap.size = A at hD ⊢
  have hA : ∀ q : Nat, s.heap.size ≤ q → A q := fun q h => by rw [← hAe]; exact Or.inr h
  have hS : va_S A s.heap s.heap [] := va_S.rf
  have hl := lv_entry ([.ref o]) (n := 5) (Nat.le_of_ble_eq_true rfl)
  rw [lg_entry_eq]
  generalize (lg_sl ([.ref o]) ++ List.replicate (5 - (lg_sl ([.ref o])).length) Slot.unset).toArray = ls at hl ⊢
  have hl : lv_has ls 5 [(0, .ref o)] := hl
  refine lv_aload_n hx hb d_M_findMatch_0 rfl (lv_at hl 0 rfl) ?_
  refine va_get (D := D) (ci := 3) (v := .ref bb) (C := Q_M) (T := F_M) (N := 5) hx hb hg in_M hown hK hP 0 rfl rfl 4 (by decide) (hg _ g_129) (fun _ h9 => h9) rfl d_M_findMatch_1 ?_
  have hP : va_P D cls (([(bb, .inr (1, [.int fo, .int wh, .int t2, .int to, .int co]))] ++ [(o, .inr (3, [.ref r0, .ref l1, .ref l2, .ref l3, .ref bb])), (r0, .inr (2, [.ref da, .ref ga])), (da, .inl (cI, n, .inl d)), (ga, .inl (cZ, n, .inl g)), (l1, .inr (0, [.int x1, .ref ea, .int (nI c9)]))]) ++ tl9) _ := hP.part (cx := ([(bb, .inr (1, [.int fo, .int wh, .int t2, .int to, .int co]))] ++ [(o, .inr (3, [.ref r0, .ref l1, .ref l2, .ref l3, .ref bb])), (r0, .inr (2, [.ref da, .ref ga])), (da, .inl (cI, n, .inl d)), (ga, .inl (cZ, n, .inl g)), (l1, .inr (0, [.int x1, .ref ea, .int (nI c9)]))])) [4, 0, 1, 2, 3, 5] rfl
  have hD : va_D A (([(bb, .inr (1, [.int fo, .int wh, .int t2, .int to, .int co]))] ++ [(o, .inr (3, [.ref r0, .ref l1, .ref l2, .ref l3, .ref bb])), (r0, .inr (2, [.ref da, .ref ga])), (da, .inl (cI, n, .inl d)), (ga, .inl (cZ, n, .inl g)), (l1, .inr (0, [.int x1, .ref ea, .int (nI c9)]))]) ++ tl9) := hD.part (cx := ([(bb, .inr (1, [.int fo, .int wh, .int t2, .int to, .int co]))] ++ [(o, .inr (3, [.ref r0, .ref l1, .ref l2, .ref l3, .ref bb])), (r0, .inr (2, [.ref da, .ref ga])), (da, .inl (cI, n, .inl d)), (ga, .inl (cZ, n, .inl g)), (l1, .inr (0, [.int x1, .ref ea, .int (nI c9)]))])) [4, 0, 1, 2, 3, 5] (by decide) rfl
  have hP : va_P D cls ([(bb, .inr (1, [.int fo, .int wh, .int t2, .int to, .int co]))] ++ ([(o, .inr (3, [.ref r0, .ref l1, .ref l2, .ref l3, .ref bb])), (r0, .inr (2, [.ref da, .ref ga])), (da, .inl (cI, n, .inl d)), (ga, .inl (cZ, n, .inl g)), (l1, .inr (0, [.int x1, .ref ea, .int (nI c9)]))] ++ tl9)) _ := hP
  have hD : va_D A ([(bb, .inr (1, [.int fo, .int wh, .int t2, .int to, .int co]))] ++ ([(o, .inr (3, [.ref r0, .ref l1, .ref l2, .ref l3, .ref bb])), (r0, .inr (2, [.ref da, .ref ga])), (da, .inl (cI, n, .inl d)), (ga, .inl (cZ, n, .inl g)), (l1, .inr (0, [.int x1, .ref ea, .int (nI c9)]))] ++ tl9)) := hD
  refine mcallv (wc := [(bb, .inr (1, [.int fo, .int wh, .int t2, .int to, .int co]))]) (wr := ([(o, .inr (3, [.ref r0, .ref l1, .ref l2, .ref l3, .ref bb])), (r0, .inr (2, [.ref da, .ref ga])), (da, .inl (cI, n, .inl d)), (ga, .inl (cZ, n, .inl g)), (l1, .inr (0, [.int x1, .ref ea, .int (nI c9)]))] ++ tl9)) (va_runV (As := []) (rest := []) ⟨hx, hb, hml, hown, hg⟩ (c_B_clear_ok l D cI cZ cJ cO s.heap.size bb fo wh t2 to co) (cwV 0 hg (gv g_289 g_290 g_291 g_22 g_292) rfl rfl rfl (by decide +kernel) ⟨Nat.le_of_ble_eq_true rfl, Nat.le_of_ble_eq_true rfl⟩) (mV (ba_Pl hP) hK hN (ba_Dl hD) (va_recv hK (ba_Pl hP) (ci := 1) (q0 := 0) rfl rfl)) rfl rfl hl.1 rfl (lv_room (Nat.le_of_ble_eq_true rfl)) d_M_findMatch_4 ⟨Nat.le_of_ble_eq_true rfl, Nat.le_of_ble_eq_true rfl⟩) hP hD hS hA (fun u_1 H locs hu_1 hP hD hS => ?_)
  subst hu_1
  have hP : va_P D cls ([(bb, .inr (1, [.int 0, .int wh, .int t2, .int to, .int co])), (o, .inr (3, [.ref r0, .ref l1, .ref l2, .ref l3, .ref bb])), (r0, .inr (2, [.ref da, .ref ga])), (da, .inl (cI, n, .inl d)), (ga, .inl (cZ, n, .inl g)), (l1, .inr (0, [.int x1, .ref ea, .int (nI c9)]))] ++ tl9) H := hP
  have hD : va_D A ([(bb, .inr (1, [.int 0, .int wh, .int t2, .int to, .int co])), (o, .inr (3, [.ref r0, .ref l1, .ref l2, .ref l3, .ref bb])), (r0, .inr (2, [.ref da, .ref ga])), (da, .inl (cI, n, .inl d)), (ga, .inl (cZ, n, .inl g)), (l1, .inr (0, [.int x1, .ref ea, .int (nI c9)]))] ++ tl9) := hD
  refine lv_iconst (v := 0) hx hb d_M_findMatch_7 (by decide) ?_
  refine lv_istore_n (lv' := [(1, .int 0), (0, .ref o)]) hx hb d_M_findMatch_8 rfl hl (by decide) rfl (fun ls hl => ?_)
  have loop_9 : ∀ (f9 : Nat) (j : Nat) (fo1 wh1 t21 to1 co1 : Int32) (x9 : Int32) (H : Heap) (locs : List Loc) (ls : Array Slot), (j ≤ c9 ∧ c9 < j + f9 ∧ x9 = nI j ∧ (fo1, wh1, t21, to1, co1) = mcS n d Ls cs (0, wh, t2, to, co) j) → va_P D cls ([(o, .inr (3, [.ref r0, .ref l1, .ref l2, .ref l3, .ref bb])), (r0, .inr (2, [.ref da, .ref ga])), (da, .inl (cI, n, .inl d)), (ga, .inl (cZ, n, .inl g)), (bb, .inr (1, [.int fo1, .int wh1, .int t21, .int to1, .int co1])), (l1, .inr (0, [.int x1, .ref ea, .int (nI c9)]))] ++ tl9) H → va_D A ([(o, .inr (3, [.ref r0, .ref l1, .ref l2, .ref l3, .ref bb])), (r0, .inr (2, [.ref da, .ref ga])), (da, .inl (cI, n, .inl d)), (ga, .inl (cZ, n, .inl g)), (bb, .inr (1, [.int fo1, .int wh1, .int t21, .int to1, .int co1])), (l1, .inr (0, [.int x1, .ref ea, .int (nI c9)]))] ++ tl9) → va_S A s.heap H locs → lv_has ls 5 [(0, .ref o), (1, .int x9)] → W p l e (headSpec (wq y_M_findMatch c_M_findMatch 5 none) ({ frames := 3, cells := 0, slots := 0, locals := 67 })).room s m ([.ref o] : List Value).toArray below meth c H locs 0 0 (MQ below (va_Qv (fun (u : va_W) => u = [(o, .inr (3, [.ref r0, .ref l1, .ref l2, .ref l3, .ref bb])), (r0, .inr (2, [.ref da, .ref ga])), (da, .inl (cI, n, .inl d)), (ga, .inl (cZ, n, .inl g)), (bb, .inr (1, [.int ((mcS n d Ls cs (0, wh, t2, to, co) c9).1), .int ((mcS n d Ls cs (0, wh, t2, to, co) c9).2.1), .int ((mcS n d Ls cs (0, wh, t2, to, co) c9).2.2.1), .int ((mcS n d Ls cs (0, wh, t2, to, co) c9).2.2.2.1), .int ((mcS n d Ls cs (0, wh, t2, to, co) c9).2.2.2.2)])), (l1, .inr (0, [.int x1, .ref ea, .int (nI c9)]))] ++ tl9) (mB D (TY cI cZ cJ cO) A) A) ([.ref o] : List Value).toArray s 0 0 A) (F0 m 9 ls []) := by
    intro f9
    induction f9 with
    | zero =>
      intro j fo1 wh1 t21 to1 co1 x9 H locs ls hI hP hD hS hl
      obtain ⟨hj1, hj2, rfl, hq⟩ := hI
      omega
    | succ f9 ih9 =>
      intro j fo1 wh1 t21 to1 co1 x9 H locs ls hI hP hD hS hl
      obtain ⟨hj1, hj2, rfl, hq⟩ := hI
      refine lv_iload_n hx hb d_M_findMatch_9 rfl (lv_at hl 1 rfl) ?_
      refine lv_aload_n hx hb d_M_findMatch_10 rfl (lv_at hl 0 rfl) ?_
      refine va_get (D := D) (ci := 3) (v := .ref l1) (C := Q_M) (T := F_M) (N := 5) hx hb hg in_M hown hK hP 0 rfl rfl 1 (by decide) (hg _ g_126) (fun _ h9 => h9) rfl d_M_findMatch_11 ?_
      refine vp_callSi (va_Run.run (va_runV (As := []) (rest := [.int (nI j)]) ⟨hx, hb, hml, hown, hg⟩ (c_A_size_ok l D cI cZ cJ cO l1 x1 (nI c9) ea) (cwV 0 hg (gv g_378 g_379 g_380 g_21 g_381) rfl rfl rfl (by decide +kernel) ⟨Nat.le_of_ble_eq_true rfl, Nat.le_of_ble_eq_true rfl⟩) (pV (pk_c (hP 5 (l1, .inr (0, [.int x1, .ref ea, .int (nI c9)])) rfl) pk_nil9) hK hN (va_recv hK (pk_c (hP 5 (l1, .inr (0, [.int x1, .ref ea, .int (nI c9)])) rfl) pk_nil9) (ci := 0) (q0 := 0) rfl rfl)) rfl rfl hl.1 rfl (lv_room (Nat.le_of_ble_eq_true rfl)) d_M_findMatch_14 ⟨Nat.zero_le _, Nat.zero_le _⟩)) (fun r_3 hr_3 => ?_)
      subst hr_3
      refine lv_icmp_ge (tgt := 97) hx hb d_M_findMatch_17 (by decide) (fun c_17 => ?_) (fun c_17 => ?_)
      · exact W.vret hx hb hr (fun t9 ht hW => ⟨⟨([(o, .inr (3, [.ref r0, .ref l1, .ref l2, .ref l3, .ref bb])), (r0, .inr (2, [.ref da, .ref ga])), (da, .inl (cI, n, .inl d)), (ga, .inl (cZ, n, .inl g)), (bb, .inr (1, [.int fo1, .int wh1, .int t21, .int to1, .int co1])), (l1, .inr (0, [.int x1, .ref ea, .int (nI c9)]))] ++ tl9), rfl, (by dsimp only; rw [ix_out hj1 (by omega) c_17] at hq; rw [← hq]), by rw [ht]; exact hP, va_K.moved hW.alike hK, hD⟩, hS.F ht⟩) hS.2.2 d_M_findMatch_97
      · refine lv_aload_n hx hb d_M_findMatch_20 rfl (lv_at hl 0 rfl) ?_
        refine va_get (D := D) (ci := 3) (v := .ref l1) (C := Q_M) (T := F_M) (N := 5) hx hb hg in_M hown hK hP 0 rfl rfl 1 (by decide) (hg _ g_126) (fun _ h9 => h9) rfl d_M_findMatch_21 ?_
        refine lv_iload_n hx hb d_M_findMatch_24 rfl (lv_at hl 1 rfl) ?_
        have hi : j < c9 := ix_in hj1 (by omega) c_17
        refine va_csq (va_Run.run (va_runV (As := [.int (nI j)]) (rest := []) ⟨hx, hb, hml, hown, hg⟩ (c_A_get_ok l D cI cZ cJ cO l1 x1 ea c9 n1 f j hi hcn (by omega)) (cwV 1 hg (gv g_456 g_457 g_458 g_21 g_459) rfl rfl rfl (by decide +kernel) ⟨Nat.le_of_ble_eq_true rfl, Nat.le_of_ble_eq_true rfl⟩) (pV (pk_c (hP 5 (l1, .inr (0, [.int x1, .ref ea, .int (nI c9)])) rfl) (pk_c (pk_m (q := (ea, .inl (cO, n1, .inr (.inr (.inr (.inr f)))))) hP (hea (by omega))) pk_nil9)) hK hN (va_recv hK (pk_c (hP 5 (l1, .inr (0, [.int x1, .ref ea, .int (nI c9)])) rfl) (pk_c (pk_m (q := (ea, .inl (cO, n1, .inr (.inr (.inr (.inr f)))))) hP (hea (by omega))) pk_nil9)) (ci := 0) (q0 := 0) rfl rfl)) rfl rfl hl.1 rfl (lv_room (Nat.le_of_ble_eq_true rfl)) d_M_findMatch_25 ⟨Nat.zero_le _, Nat.zero_le _⟩)) (fun r_4 hr_4 => ?_)
        subst hr_4
        rw [(hsh j hi).1]
        refine W.eq (g2 := F0 m 28 ls [.ref (qs j)]) rfl ?_
        refine va_castY (C := Q_S) hx hb hown (hg _ g_383) (hN.1 _ nw_20) (va_recv hK (pk_c (pk_m (q := (qs j, .inr (4, [.ref (sa j)]))) hP (hsh j hi).2.1) pk_nil9) (ci := 4) (q0 := 0) rfl rfl) d_M_findMatch_28 ?_
        refine lv_astore_n (lv' := [(2, .ref (qs j)), (0, .ref o), (1, .int (nI j))]) hx hb d_M_findMatch_31 rfl hl (by decide) rfl (fun ls hl => ?_)
        refine lv_iconst (v := 0) hx hb d_M_findMatch_32 (by decide) ?_
        refine lv_istore_n (lv' := [(3, .int 0), (2, .ref (qs j)), (0, .ref o), (1, .int (nI j))]) hx hb d_M_findMatch_33 rfl hl (by decide) rfl (fun ls hl => ?_)
        have loop_34 : ∀ (f34 : Nat) (pp : Nat) (fo2 wh2 t22 to2 co2 : Int32) (x3 : Int32) (H : Heap) (locs : List Loc) (ls : Array Slot), (pp ≤ n ∧ n < pp + f34 ∧ x3 = nI pp ∧ (fo2, wh2, t22, to2, co2) = mcP n d (cs j) (Ls j) j (mcS n d Ls cs (0, wh, t2, to, co) j) pp) → va_P D cls ([(o, .inr (3, [.ref r0, .ref l1, .ref l2, .ref l3, .ref bb])), (r0, .inr (2, [.ref da, .ref ga])), (da, .inl (cI, n, .inl d)), (ga, .inl (cZ, n, .inl g)), (bb, .inr (1, [.int fo2, .int wh2, .int t22, .int to2, .int co2])), (l1, .inr (0, [.int x1, .ref ea, .int (nI c9)]))] ++ tl9) H → va_D A ([(o, .inr (3, [.ref r0, .ref l1, .ref l2, .ref l3, .ref bb])), (r0, .inr (2, [.ref da, .ref ga])), (da, .inl (cI, n, .inl d)), (ga, .inl (cZ, n, .inl g)), (bb, .inr (1, [.int fo2, .int wh2, .int t22, .int to2, .int co2])), (l1, .inr (0, [.int x1, .ref ea, .int (nI c9)]))] ++ tl9) → va_S A s.heap H locs → lv_has ls 5 [(0, .ref o), (1, .int (nI j)), (2, .ref (qs j)), (3, .int x3)] → W p l e (headSpec (wq y_M_findMatch c_M_findMatch 5 none) ({ frames := 3, cells := 0, slots := 0, locals := 67 })).room s m ([.ref o] : List Value).toArray below meth c H locs 0 0 (MQ below (va_Qv (fun (u : va_W) => u = [(o, .inr (3, [.ref r0, .ref l1, .ref l2, .ref l3, .ref bb])), (r0, .inr (2, [.ref da, .ref ga])), (da, .inl (cI, n, .inl d)), (ga, .inl (cZ, n, .inl g)), (bb, .inr (1, [.int ((mcS n d Ls cs (0, wh, t2, to, co) c9).1), .int ((mcS n d Ls cs (0, wh, t2, to, co) c9).2.1), .int ((mcS n d Ls cs (0, wh, t2, to, co) c9).2.2.1), .int ((mcS n d Ls cs (0, wh, t2, to, co) c9).2.2.2.1), .int ((mcS n d Ls cs (0, wh, t2, to, co) c9).2.2.2.2)])), (l1, .inr (0, [.int x1, .ref ea, .int (nI c9)]))] ++ tl9) (mB D (TY cI cZ cJ cO) A) A) ([.ref o] : List Value).toArray s 0 0 A) (F0 m 34 ls []) := by
          intro f34
          induction f34 with
          | zero =>
            intro pp fo2 wh2 t22 to2 co2 x3 H locs ls hI hP hD hS hl
            obtain ⟨hp1, hp2, rfl, hq2⟩ := hI
            omega
          | succ f34 ih34 =>
            intro pp fo2 wh2 t22 to2 co2 x3 H locs ls hI hP hD hS hl
            obtain ⟨hp1, hp2, rfl, hq2⟩ := hI
            refine lv_iload_n hx hb d_M_findMatch_34 rfl (lv_at hl 3 rfl) ?_
            refine lv_aload_n hx hb d_M_findMatch_35 rfl (lv_at hl 0 rfl) ?_
            refine va_get (D := D) (ci := 3) (v := .ref r0) (C := Q_M) (T := F_M) (N := 5) hx hb hg in_M hown hK hP 0 rfl rfl 0 (by decide) (hg _ g_125) (fun _ h9 => h9) rfl d_M_findMatch_36 ?_
            refine vp_callSi (va_Run.run (va_runV (As := []) (rest := [.int (nI pp)]) ⟨hx, hb, hml, hown, hg⟩ (c_R_size_ok l D cI cZ cJ cO r0 da ga n d g (by omega)) (cwV 0 hg (gv g_285 g_286 g_287 g_23 g_288) rfl rfl rfl (by decide +kernel) ⟨Nat.le_of_ble_eq_true rfl, Nat.le_of_ble_eq_true rfl⟩) (pV (pk_c (hP 1 (r0, .inr (2, [.ref da, .ref ga])) rfl) (pk_c (hP 2 (da, .inl (cI, n, .inl d)) rfl) (pk_c (hP 3 (ga, .inl (cZ, n, .inl g)) rfl) pk_nil9))) hK hN (va_recv hK (pk_c (hP 1 (r0, .inr (2, [.ref da, .ref ga])) rfl) (pk_c (hP 2 (da, .inl (cI, n, .inl d)) rfl) (pk_c (hP 3 (ga, .inl (cZ, n, .inl g)) rfl) pk_nil9))) (ci := 2) (q0 := 0) rfl rfl)) rfl rfl hl.1 rfl (lv_room (Nat.le_of_ble_eq_true rfl)) d_M_findMatch_39 ⟨Nat.zero_le _, Nat.zero_le _⟩)) (fun r_5 hr_5 => ?_)
            subst hr_5
            refine lv_icmp_ge (tgt := 91) hx hb d_M_findMatch_42 (by decide) (fun c_42 => ?_) (fun c_42 => ?_)
            · refine lv_iinc (v := (nI j) + 1) (lv' := [(1, .int ((nI j) + 1)), (0, .ref o), (2, .ref (qs j)), (3, .int (nI pp))]) hx hb d_M_findMatch_91 hl (k := 1) rfl rfl (by decide) rfl (fun ls hl => ?_)
              refine lv_goto (tgt := 9) hx hb d_M_findMatch_94 (by decide) ?_
              exact ih9 (j + 1) fo2 wh2 t22 to2 co2 ((nI j) + 1) _ _ ls (⟨by omega, by omega, nI_1 j, by rw [mcS]; rw [ix_out hp1 (by omega) c_42] at hq2; exact hq2⟩) hP hD hS (lv_sub hl [1, 0] rfl)
            · have hp3 : pp < n := ix_in hp1 (by omega) c_42
              refine lv_aload_n hx hb d_M_findMatch_45 rfl (lv_at hl 2 rfl) ?_
              refine lv_aload_n hx hb d_M_findMatch_46 rfl (lv_at hl 0 rfl) ?_
              refine va_get (D := D) (ci := 3) (v := .ref r0) (C := Q_M) (T := F_M) (N := 5) hx hb hg in_M hown hK hP 0 rfl rfl 0 (by decide) (hg _ g_125) (fun _ h9 => h9) rfl d_M_findMatch_47 ?_
              refine lv_iload_n hx hb d_M_findMatch_50 rfl (lv_at hl 3 rfl) ?_
              refine vp_callSi (va_Run.run (va_runV (As := [.ref r0, .int (nI pp)]) (rest := []) ⟨hx, hb, hml, hown, hg⟩ (c_S_coverAt_ok l D cI cZ cJ cO (qs j) (sa j) (Ls j) (cs j) (by have := (hsh j hi).2.2.2; omega) r0 da ga n d g (by omega) pp (by omega)) (cwV 2 hg (gv g_492 g_493 g_494 g_33 g_495) rfl rfl rfl (by decide +kernel) ⟨Nat.le_of_ble_eq_true rfl, Nat.le_of_ble_eq_true rfl⟩) (pV (pk_c (pk_m (q := (qs j, .inr (4, [.ref (sa j)]))) hP (hsh j hi).2.1) (pk_c (pk_m (q := (sa j, .inl (cI, Ls j, .inl (cs j)))) hP (hsh j hi).2.2.1) (pk_c (hP 1 (r0, .inr (2, [.ref da, .ref ga])) rfl) (pk_c (hP 2 (da, .inl (cI, n, .inl d)) rfl) (pk_c (hP 3 (ga, .inl (cZ, n, .inl g)) rfl) pk_nil9))))) hK hN (va_recv hK (pk_c (pk_m (q := (qs j, .inr (4, [.ref (sa j)]))) hP (hsh j hi).2.1) (pk_c (pk_m (q := (sa j, .inl (cI, Ls j, .inl (cs j)))) hP (hsh j hi).2.2.1) (pk_c (hP 1 (r0, .inr (2, [.ref da, .ref ga])) rfl) (pk_c (hP 2 (da, .inl (cI, n, .inl d)) rfl) (pk_c (hP 3 (ga, .inl (cZ, n, .inl g)) rfl) pk_nil9))))) (ci := 4) (q0 := 0) rfl rfl)) rfl rfl hl.1 rfl (lv_room (Nat.le_of_ble_eq_true rfl)) d_M_findMatch_51 ⟨Nat.zero_le _, Nat.zero_le _⟩)) (fun r_6 hr_6 => ?_)
              subst hr_6
              refine lv_istore (lv' := [(4, .int (nI (cv n d pp (Ls j)))), (0, .ref o), (1, .int (nI j)), (2, .ref (qs j)), (3, .int (nI pp))]) hx hb d_M_findMatch_54 hl (by decide) rfl (fun ls hl => ?_)
              refine lv_iload hx hb d_M_findMatch_56 (lv_at hl 0 rfl) ?_
              refine lv_aload_n hx hb d_M_findMatch_58 rfl (lv_at hl 3 rfl) ?_
              refine vp_callSi (va_Run.run (va_runV (As := []) (rest := [.int (nI (cv n d pp (Ls j)))]) ⟨hx, hb, hml, hown, hg⟩ (c_S_leastCover_ok l D cI cZ cJ cO (qs j) (sa j) (Ls j) (cs j) (by have := (hsh j hi).2.2.2; omega)) (cwV 0 hg (gv g_497 g_498 g_499 g_33 g_500) rfl rfl rfl (by decide +kernel) ⟨Nat.le_of_ble_eq_true rfl, Nat.le_of_ble_eq_true rfl⟩) (pV (pk_c (pk_m (q := (qs j, .inr (4, [.ref (sa j)]))) hP (hsh j hi).2.1) (pk_c (pk_m (q := (sa j, .inl (cI, Ls j, .inl (cs j)))) hP (hsh j hi).2.2.1) pk_nil9)) hK hN (va_recv hK (pk_c (pk_m (q := (qs j, .inr (4, [.ref (sa j)]))) hP (hsh j hi).2.1) (pk_c (pk_m (q := (sa j, .inl (cI, Ls j, .inl (cs j)))) hP (hsh j hi).2.2.1) pk_nil9)) (ci := 4) (q0 := 0) rfl rfl)) rfl rfl hl.1 rfl (lv_room (Nat.le_of_ble_eq_true rfl)) d_M_findMatch_59 ⟨Nat.zero_le _, Nat.zero_le _⟩)) (fun r_7 hr_7 => ?_)
              subst hr_7
              refine lv_icmp_lt (tgt := 85) hx hb d_M_findMatch_62 (by decide) (fun c_62 => ?_) (fun c_62 => ?_)
              · refine lv_iinc (v := (nI pp) + 1) (lv' := [(3, .int ((nI pp) + 1)), (4, .int (nI (cv n d pp (Ls j)))), (0, .ref o), (1, .int (nI j)), (2, .ref (qs j))]) hx hb d_M_findMatch_85 hl (k := 4) rfl rfl (by decide) rfl (fun ls hl => ?_)
                refine lv_goto (tgt := 34) hx hb d_M_findMatch_88 (by decide) ?_
                exact ih34 (pp + 1) fo2 wh2 t22 to2 co2 ((nI pp) + 1) _ _ ls (⟨by omega, by omega, nI_1 pp, by rw [mcP, mc1, if_pos c_62]; exact hq2⟩) hP hD hS (lv_sub hl [2, 3, 4, 0] rfl)
              · refine lv_aload_n hx hb d_M_findMatch_65 rfl (lv_at hl 1 rfl) ?_
                refine va_get (D := D) (ci := 3) (v := .ref bb) (C := Q_M) (T := F_M) (N := 5) hx hb hg in_M hown hK hP 0 rfl rfl 4 (by decide) (hg _ g_129) (fun _ h9 => h9) rfl d_M_findMatch_66 ?_
                refine lv_iload_n hx hb d_M_findMatch_69 rfl (lv_at hl 2 rfl) ?_
                refine lv_iload_n hx hb d_M_findMatch_70 rfl (lv_at hl 4 rfl) ?_
                refine lv_aload_n hx hb d_M_findMatch_71 rfl (lv_at hl 3 rfl) ?_
                refine lv_aload_n hx hb d_M_findMatch_72 rfl (lv_at hl 1 rfl) ?_
                refine va_get (D := D) (ci := 3) (v := .ref r0) (C := Q_M) (T := F_M) (N := 5) hx hb hg in_M hown hK hP 0 rfl rfl 0 (by decide) (hg _ g_125) (fun _ h9 => h9) rfl d_M_findMatch_73 ?_
                refine lv_iload_n hx hb d_M_findMatch_76 rfl (lv_at hl 4 rfl) ?_
                refine vp_callSi (va_Run.run (va_runV (As := [.ref r0, .int (nI pp)]) (rest := [.int (nI pp), .int (nI j), .ref bb]) ⟨hx, hb, hml, hown, hg⟩ (c_S_missAt_ok l D cI cZ cJ cO (qs j) (sa j) (Ls j) (cs j) (by have := (hsh j hi).2.2.2; omega) r0 da ga n d g (by omega) pp (by omega)) (cwV 2 hg (gv g_501 g_502 g_503 g_33 g_504) rfl rfl rfl (by decide +kernel) ⟨Nat.le_of_ble_eq_true rfl, Nat.le_of_ble_eq_true rfl⟩) (pV (pk_c (pk_m (q := (qs j, .inr (4, [.ref (sa j)]))) hP (hsh j hi).2.1) (pk_c (pk_m (q := (sa j, .inl (cI, Ls j, .inl (cs j)))) hP (hsh j hi).2.2.1) (pk_c (hP 1 (r0, .inr (2, [.ref da, .ref ga])) rfl) (pk_c (hP 2 (da, .inl (cI, n, .inl d)) rfl) (pk_c (hP 3 (ga, .inl (cZ, n, .inl g)) rfl) pk_nil9))))) hK hN (va_recv hK (pk_c (pk_m (q := (qs j, .inr (4, [.ref (sa j)]))) hP (hsh j hi).2.1) (pk_c (pk_m (q := (sa j, .inl (cI, Ls j, .inl (cs j)))) hP (hsh j hi).2.2.1) (pk_c (hP 1 (r0, .inr (2, [.ref da, .ref ga])) rfl) (pk_c (hP 2 (da, .inl (cI, n, .inl d)) rfl) (pk_c (hP 3 (ga, .inl (cZ, n, .inl g)) rfl) pk_nil9))))) (ci := 4) (q0 := 0) rfl rfl)) rfl rfl hl.1 rfl (lv_room (Nat.le_of_ble_eq_true rfl)) d_M_findMatch_77 ⟨Nat.zero_le _, Nat.zero_le _⟩)) (fun r_8 hr_8 => ?_)
                subst hr_8
                refine lv_iload hx hb d_M_findMatch_80 (lv_at hl 0 rfl) ?_
                have hP : va_P D cls (([(bb, .inr (1, [.int fo2, .int wh2, .int t22, .int to2, .int co2]))] ++ [(o, .inr (3, [.ref r0, .ref l1, .ref l2, .ref l3, .ref bb])), (r0, .inr (2, [.ref da, .ref ga])), (da, .inl (cI, n, .inl d)), (ga, .inl (cZ, n, .inl g)), (l1, .inr (0, [.int x1, .ref ea, .int (nI c9)]))]) ++ tl9) _ := hP.part (cx := ([(bb, .inr (1, [.int fo2, .int wh2, .int t22, .int to2, .int co2]))] ++ [(o, .inr (3, [.ref r0, .ref l1, .ref l2, .ref l3, .ref bb])), (r0, .inr (2, [.ref da, .ref ga])), (da, .inl (cI, n, .inl d)), (ga, .inl (cZ, n, .inl g)), (l1, .inr (0, [.int x1, .ref ea, .int (nI c9)]))])) [4, 0, 1, 2, 3, 5] rfl
                have hD : va_D A (([(bb, .inr (1, [.int fo2, .int wh2, .int t22, .int to2, .int co2]))] ++ [(o, .inr (3, [.ref r0, .ref l1, .ref l2, .ref l3, .ref bb])), (r0, .inr (2, [.ref da, .ref ga])), (da, .inl (cI, n, .inl d)), (ga, .inl (cZ, n, .inl g)), (l1, .inr (0, [.int x1, .ref ea, .int (nI c9)]))]) ++ tl9) := hD.part (cx := ([(bb, .inr (1, [.int fo2, .int wh2, .int t22, .int to2, .int co2]))] ++ [(o, .inr (3, [.ref r0, .ref l1, .ref l2, .ref l3, .ref bb])), (r0, .inr (2, [.ref da, .ref ga])), (da, .inl (cI, n, .inl d)), (ga, .inl (cZ, n, .inl g)), (l1, .inr (0, [.int x1, .ref ea, .int (nI c9)]))])) [4, 0, 1, 2, 3, 5] (by decide) rfl
                have hP : va_P D cls ([(bb, .inr (1, [.int fo2, .int wh2, .int t22, .int to2, .int co2]))] ++ ([(o, .inr (3, [.ref r0, .ref l1, .ref l2, .ref l3, .ref bb])), (r0, .inr (2, [.ref da, .ref ga])), (da, .inl (cI, n, .inl d)), (ga, .inl (cZ, n, .inl g)), (l1, .inr (0, [.int x1, .ref ea, .int (nI c9)]))] ++ tl9)) _ := hP
                have hD : va_D A ([(bb, .inr (1, [.int fo2, .int wh2, .int t22, .int to2, .int co2]))] ++ ([(o, .inr (3, [.ref r0, .ref l1, .ref l2, .ref l3, .ref bb])), (r0, .inr (2, [.ref da, .ref ga])), (da, .inl (cI, n, .inl d)), (ga, .inl (cZ, n, .inl g)), (l1, .inr (0, [.int x1, .ref ea, .int (nI c9)]))] ++ tl9)) := hD
                refine mcallv (wc := [(bb, .inr (1, [.int fo2, .int wh2, .int t22, .int to2, .int co2]))]) (wr := ([(o, .inr (3, [.ref r0, .ref l1, .ref l2, .ref l3, .ref bb])), (r0, .inr (2, [.ref da, .ref ga])), (da, .inl (cI, n, .inl d)), (ga, .inl (cZ, n, .inl g)), (l1, .inr (0, [.int x1, .ref ea, .int (nI c9)]))] ++ tl9)) (va_runV (As := [.int (nI j), .int (nI pp), .int (mss n d (cs j) pp (Ls j)), .int (nI (cv n d pp (Ls j)))]) (rest := []) ⟨hx, hb, hml, hown, hg⟩ (c_B_offer_ok l D cI cZ cJ cO H.size bb fo2 wh2 t22 to2 co2 (nI j) (nI pp) (mss n d (cs j) pp (Ls j)) (nI (cv n d pp (Ls j)))) (cwV 4 hg (gv g_309 g_310 g_311 g_22 g_312) rfl rfl rfl (by decide +kernel) ⟨Nat.le_of_ble_eq_true rfl, Nat.le_of_ble_eq_true rfl⟩) (mV (ba_Pl hP) hK hN (ba_Dl hD) (va_recv hK (ba_Pl hP) (ci := 1) (q0 := 0) rfl rfl)) rfl rfl hl.1 rfl (lv_room (Nat.le_of_ble_eq_true rfl)) d_M_findMatch_82 ⟨Nat.le_of_ble_eq_true rfl, Nat.le_of_ble_eq_true rfl⟩) hP hD hS hA (fun u_9 H locs hu_9 hP hD hS => ?_)
                subst hu_9
                have hP : va_P D cls ([(bb, .inr (1, [.int ((offer (fo2, wh2, t22, to2, co2) (nI j) (nI pp) (mss n d (cs j) pp (Ls j)) (nI (cv n d pp (Ls j)))).1), .int ((offer (fo2, wh2, t22, to2, co2) (nI j) (nI pp) (mss n d (cs j) pp (Ls j)) (nI (cv n d pp (Ls j)))).2.1), .int ((offer (fo2, wh2, t22, to2, co2) (nI j) (nI pp) (mss n d (cs j) pp (Ls j)) (nI (cv n d pp (Ls j)))).2.2.1), .int ((offer (fo2, wh2, t22, to2, co2) (nI j) (nI pp) (mss n d (cs j) pp (Ls j)) (nI (cv n d pp (Ls j)))).2.2.2.1), .int ((offer (fo2, wh2, t22, to2, co2) (nI j) (nI pp) (mss n d (cs j) pp (Ls j)) (nI (cv n d pp (Ls j)))).2.2.2.2)])), (o, .inr (3, [.ref r0, .ref l1, .ref l2, .ref l3, .ref bb])), (r0, .inr (2, [.ref da, .ref ga])), (da, .inl (cI, n, .inl d)), (ga, .inl (cZ, n, .inl g)), (l1, .inr (0, [.int x1, .ref ea, .int (nI c9)]))] ++ tl9) H := hP
                have hD : va_D A ([(bb, .inr (1, [.int ((offer (fo2, wh2, t22, to2, co2) (nI j) (nI pp) (mss n d (cs j) pp (Ls j)) (nI (cv n d pp (Ls j)))).1), .int ((offer (fo2, wh2, t22, to2, co2) (nI j) (nI pp) (mss n d (cs j) pp (Ls j)) (nI (cv n d pp (Ls j)))).2.1), .int ((offer (fo2, wh2, t22, to2, co2) (nI j) (nI pp) (mss n d (cs j) pp (Ls j)) (nI (cv n d pp (Ls j)))).2.2.1), .int ((offer (fo2, wh2, t22, to2, co2) (nI j) (nI pp) (mss n d (cs j) pp (Ls j)) (nI (cv n d pp (Ls j)))).2.2.2.1), .int ((offer (fo2, wh2, t22, to2, co2) (nI j) (nI pp) (mss n d (cs j) pp (Ls j)) (nI (cv n d pp (Ls j)))).2.2.2.2)])), (o, .inr (3, [.ref r0, .ref l1, .ref l2, .ref l3, .ref bb])), (r0, .inr (2, [.ref da, .ref ga])), (da, .inl (cI, n, .inl d)), (ga, .inl (cZ, n, .inl g)), (l1, .inr (0, [.int x1, .ref ea, .int (nI c9)]))] ++ tl9) := hD
                refine lv_iinc (v := (nI pp) + 1) (lv' := [(3, .int ((nI pp) + 1)), (4, .int (nI (cv n d pp (Ls j)))), (0, .ref o), (1, .int (nI j)), (2, .ref (qs j))]) hx hb d_M_findMatch_85 hl (k := 4) rfl rfl (by decide) rfl (fun ls hl => ?_)
                refine lv_goto (tgt := 34) hx hb d_M_findMatch_88 (by decide) ?_
                have hP : va_P D cls ([(o, .inr (3, [.ref r0, .ref l1, .ref l2, .ref l3, .ref bb])), (r0, .inr (2, [.ref da, .ref ga])), (da, .inl (cI, n, .inl d)), (ga, .inl (cZ, n, .inl g)), (bb, .inr (1, [.int ((offer (fo2, wh2, t22, to2, co2) (nI j) (nI pp) (mss n d (cs j) pp (Ls j)) (nI (cv n d pp (Ls j)))).1), .int ((offer (fo2, wh2, t22, to2, co2) (nI j) (nI pp) (mss n d (cs j) pp (Ls j)) (nI (cv n d pp (Ls j)))).2.1), .int ((offer (fo2, wh2, t22, to2, co2) (nI j) (nI pp) (mss n d (cs j) pp (Ls j)) (nI (cv n d pp (Ls j)))).2.2.1), .int ((offer (fo2, wh2, t22, to2, co2) (nI j) (nI pp) (mss n d (cs j) pp (Ls j)) (nI (cv n d pp (Ls j)))).2.2.2.1), .int ((offer (fo2, wh2, t22, to2, co2) (nI j) (nI pp) (mss n d (cs j) pp (Ls j)) (nI (cv n d pp (Ls j)))).2.2.2.2)])), (l1, .inr (0, [.int x1, .ref ea, .int (nI c9)]))] ++ tl9) _ := hP.part (cx := [(o, .inr (3, [.ref r0, .ref l1, .ref l2, .ref l3, .ref bb])), (r0, .inr (2, [.ref da, .ref ga])), (da, .inl (cI, n, .inl d)), (ga, .inl (cZ, n, .inl g)), (bb, .inr (1, [.int ((offer (fo2, wh2, t22, to2, co2) (nI j) (nI pp) (mss n d (cs j) pp (Ls j)) (nI (cv n d pp (Ls j)))).1), .int ((offer (fo2, wh2, t22, to2, co2) (nI j) (nI pp) (mss n d (cs j) pp (Ls j)) (nI (cv n d pp (Ls j)))).2.1), .int ((offer (fo2, wh2, t22, to2, co2) (nI j) (nI pp) (mss n d (cs j) pp (Ls j)) (nI (cv n d pp (Ls j)))).2.2.1), .int ((offer (fo2, wh2, t22, to2, co2) (nI j) (nI pp) (mss n d (cs j) pp (Ls j)) (nI (cv n d pp (Ls j)))).2.2.2.1), .int ((offer (fo2, wh2, t22, to2, co2) (nI j) (nI pp) (mss n d (cs j) pp (Ls j)) (nI (cv n d pp (Ls j)))).2.2.2.2)])), (l1, .inr (0, [.int x1, .ref ea, .int (nI c9)]))]) [1, 2, 3, 4, 0, 5] rfl
                have hD : va_D A ([(o, .inr (3, [.ref r0, .ref l1, .ref l2, .ref l3, .ref bb])), (r0, .inr (2, [.ref da, .ref ga])), (da, .inl (cI, n, .inl d)), (ga, .inl (cZ, n, .inl g)), (bb, .inr (1, [.int ((offer (fo2, wh2, t22, to2, co2) (nI j) (nI pp) (mss n d (cs j) pp (Ls j)) (nI (cv n d pp (Ls j)))).1), .int ((offer (fo2, wh2, t22, to2, co2) (nI j) (nI pp) (mss n d (cs j) pp (Ls j)) (nI (cv n d pp (Ls j)))).2.1), .int ((offer (fo2, wh2, t22, to2, co2) (nI j) (nI pp) (mss n d (cs j) pp (Ls j)) (nI (cv n d pp (Ls j)))).2.2.1), .int ((offer (fo2, wh2, t22, to2, co2) (nI j) (nI pp) (mss n d (cs j) pp (Ls j)) (nI (cv n d pp (Ls j)))).2.2.2.1), .int ((offer (fo2, wh2, t22, to2, co2) (nI j) (nI pp) (mss n d (cs j) pp (Ls j)) (nI (cv n d pp (Ls j)))).2.2.2.2)])), (l1, .inr (0, [.int x1, .ref ea, .int (nI c9)]))] ++ tl9) := hD.part (cx := [(o, .inr (3, [.ref r0, .ref l1, .ref l2, .ref l3, .ref bb])), (r0, .inr (2, [.ref da, .ref ga])), (da, .inl (cI, n, .inl d)), (ga, .inl (cZ, n, .inl g)), (bb, .inr (1, [.int ((offer (fo2, wh2, t22, to2, co2) (nI j) (nI pp) (mss n d (cs j) pp (Ls j)) (nI (cv n d pp (Ls j)))).1), .int ((offer (fo2, wh2, t22, to2, co2) (nI j) (nI pp) (mss n d (cs j) pp (Ls j)) (nI (cv n d pp (Ls j)))).2.1), .int ((offer (fo2, wh2, t22, to2, co2) (nI j) (nI pp) (mss n d (cs j) pp (Ls j)) (nI (cv n d pp (Ls j)))).2.2.1), .int ((offer (fo2, wh2, t22, to2, co2) (nI j) (nI pp) (mss n d (cs j) pp (Ls j)) (nI (cv n d pp (Ls j)))).2.2.2.1), .int ((offer (fo2, wh2, t22, to2, co2) (nI j) (nI pp) (mss n d (cs j) pp (Ls j)) (nI (cv n d pp (Ls j)))).2.2.2.2)])), (l1, .inr (0, [.int x1, .ref ea, .int (nI c9)]))]) [1, 2, 3, 4, 0, 5] (by decide) rfl
                exact ih34 (pp + 1) ((offer (fo2, wh2, t22, to2, co2) (nI j) (nI pp) (mss n d (cs j) pp (Ls j)) (nI (cv n d pp (Ls j)))).1) ((offer (fo2, wh2, t22, to2, co2) (nI j) (nI pp) (mss n d (cs j) pp (Ls j)) (nI (cv n d pp (Ls j)))).2.1) ((offer (fo2, wh2, t22, to2, co2) (nI j) (nI pp) (mss n d (cs j) pp (Ls j)) (nI (cv n d pp (Ls j)))).2.2.1) ((offer (fo2, wh2, t22, to2, co2) (nI j) (nI pp) (mss n d (cs j) pp (Ls j)) (nI (cv n d pp (Ls j)))).2.2.2.1) ((offer (fo2, wh2, t22, to2, co2) (nI j) (nI pp) (mss n d (cs j) pp (Ls j)) (nI (cv n d pp (Ls j)))).2.2.2.2) ((nI pp) + 1) _ _ ls (⟨by omega, by omega, nI_1 pp, by rw [mcP, mc1, if_neg c_62, ← hq2]⟩) hP hD hS (lv_sub hl [2, 3, 4, 0] rfl)
        exact loop_34 (n + 1) 0 fo1 wh1 t21 to1 co1 0 _ _ ls (⟨by omega, by omega, rfl, by rw [mcP]; exact hq⟩) hP hD hS (lv_sub hl [2, 3, 1, 0] rfl)
  have hP : va_P D cls ([(o, .inr (3, [.ref r0, .ref l1, .ref l2, .ref l3, .ref bb])), (r0, .inr (2, [.ref da, .ref ga])), (da, .inl (cI, n, .inl d)), (ga, .inl (cZ, n, .inl g)), (bb, .inr (1, [.int 0, .int wh, .int t2, .int to, .int co])), (l1, .inr (0, [.int x1, .ref ea, .int (nI c9)]))] ++ tl9) _ := hP.part (cx := [(o, .inr (3, [.ref r0, .ref l1, .ref l2, .ref l3, .ref bb])), (r0, .inr (2, [.ref da, .ref ga])), (da, .inl (cI, n, .inl d)), (ga, .inl (cZ, n, .inl g)), (bb, .inr (1, [.int 0, .int wh, .int t2, .int to, .int co])), (l1, .inr (0, [.int x1, .ref ea, .int (nI c9)]))]) [1, 2, 3, 4, 0, 5] rfl
  have hD : va_D A ([(o, .inr (3, [.ref r0, .ref l1, .ref l2, .ref l3, .ref bb])), (r0, .inr (2, [.ref da, .ref ga])), (da, .inl (cI, n, .inl d)), (ga, .inl (cZ, n, .inl g)), (bb, .inr (1, [.int 0, .int wh, .int t2, .int to, .int co])), (l1, .inr (0, [.int x1, .ref ea, .int (nI c9)]))] ++ tl9) := hD.part (cx := [(o, .inr (3, [.ref r0, .ref l1, .ref l2, .ref l3, .ref bb])), (r0, .inr (2, [.ref da, .ref ga])), (da, .inl (cI, n, .inl d)), (ga, .inl (cZ, n, .inl g)), (bb, .inr (1, [.int 0, .int wh, .int t2, .int to, .int co])), (l1, .inr (0, [.int x1, .ref ea, .int (nI c9)]))]) [1, 2, 3, 4, 0, 5] (by decide) rfl
  exact loop_9 (c9 + 1) 0 0 wh t2 to co 0 _ _ ls (⟨by omega, by omega, rfl, rfl⟩) hP hD hS (lv_sub hl [1, 0] rfl)

set_option maxHeartbeats 4000000 in
set_option maxRecDepth 100000 in
/-- match(w) -/
theorem c_M_match__ok (l : Launch) (hlt : l.stackTraces = false) (D : va_G) (cI cZ cJ cO : ClassId) (sz : Nat) (o r0 l1 l2 l3 bb da ga : Nat) (n : Nat) (d g : Nat → Int32) (h4 : 4 ≤ n) (h64 : n ≤ 64) (fo wh t2 to co : Int32) (x1 : Int32) (ea c9 n1 : Nat) (f : Nat → Option Nat) (tl9 : va_W) (qs sa Ls : Nat → Nat) (cs : Nat → Nat → Int32) (hc9 : c9 ≤ 8) (hcn : c9 ≤ n1) (hn1 : n1 ≤ 22) (hea : 0 < c9 → (ea, .inl (cO, n1, .inr (.inr (.inr (.inr f))))) ∈ tl9) (hsh : ∀ i, i < c9 → f i = some (qs i) ∧ (qs i, .inr (4, [.ref (sa i)])) ∈ tl9 ∧ (sa i, .inl (cI, Ls i, .inl (cs i))) ∈ tl9 ∧ Ls i ≤ 16) (w9 : Int32) : vx_Met l y_M_match_ (wq y_M_match_ c_M_match_ 2 (some .int)) ({ frames := 6, cells := 1, slots := 6, locals := 100 }) (tP D (TY cI cZ cJ cO) ([(o, .inr (3, [.ref r0, .ref l1, .ref l2, .ref l3, .ref bb])), (r0, .inr (2, [.ref da, .ref ga])), (da, .inl (cI, n, .inl d)), (ga, .inl (cZ, n, .inl g)), (bb, .inr (1, [.int fo, .int wh, .int t2, .int to, .int co])), (l1, .inr (0, [.int x1, .ref ea, .int (nI c9)]))] ++ tl9) [.ref o, .int w9] sz) (va_Qi (fun (r : Int32) (u : va_W) => cMaC (mcS n d Ls cs (0, wh, t2, to, co) c9).1 w9 = 0 ∧ u = [(o, .inr (3, [.ref r0, .ref l1, .ref l2, .ref l3, .ref bb])), (r0, .inr (2, [.ref da, .ref ga])), (da, .inl (cI, n, .inl d)), (ga, .inl (cZ, n, .inl g)), (bb, .inr (1, [.int ((mcS n d Ls cs (0, wh, t2, to, co) c9).1), .int ((mcS n d Ls cs (0, wh, t2, to, co) c9).2.1), .int ((mcS n d Ls cs (0, wh, t2, to, co) c9).2.2.1), .int ((mcS n d Ls cs (0, wh, t2, to, co) c9).2.2.2.1), .int ((mcS n d Ls cs (0, wh, t2, to, co) c9).2.2.2.2)])), (l1, .inr (0, [.int x1, .ref ea, .int (nI c9)]))] ++ tl9 ∧ r = aMaC (mcS n d Ls cs (0, wh, t2, to, co) c9) w9) (mB D (TY cI cZ cJ cO) (va_A ([(o, .inr (3, [.ref r0, .ref l1, .ref l2, .ref l3, .ref bb])), (r0, .inr (2, [.ref da, .ref ga])), (da, .inl (cI, n, .inl d)), (ga, .inl (cZ, n, .inl g)), (bb, .inr (1, [.int fo, .int wh, .int t2, .int to, .int co])), (l1, .inr (0, [.int x1, .ref ea, .int (nI c9)]))] ++ tl9) sz)) (va_A ([(o, .inr (3, [.ref r0, .ref l1, .ref l2, .ref l3, .ref bb])), (r0, .inr (2, [.ref da, .ref ga])), (da, .inl (cI, n, .inl d)), (ga, .inl (cZ, n, .inl g)), (bb, .inr (1, [.int fo, .int wh, .int t2, .int to, .int co])), (l1, .inr (0, [.int x1, .ref ea, .int (nI c9)]))] ++ tl9) sz)) (vx_X (fun (u : va_W) => u = [(o, .inr (3, [.ref r0, .ref l1, .ref l2, .ref l3, .ref bb])), (r0, .inr (2, [.ref da, .ref ga])), (da, .inl (cI, n, .inl d)), (ga, .inl (cZ, n, .inl g)), (bb, .inr (1, [.int ((mcS n d Ls cs (0, wh, t2, to, co) c9).1), .int ((mcS n d Ls cs (0, wh, t2, to, co) c9).2.1), .int ((mcS n d Ls cs (0, wh, t2, to, co) c9).2.2.1), .int ((mcS n d Ls cs (0, wh, t2, to, co) c9).2.2.2.1), .int ((mcS n d Ls cs (0, wh, t2, to, co) c9).2.2.2.2)])), (l1, .inr (0, [.int x1, .ref ea, .int (nI c9)]))] ++ tl9) (xB D (TY cI cZ cJ cO) (va_A ([(o, .inr (3, [.ref r0, .ref l1, .ref l2, .ref l3, .ref bb])), (r0, .inr (2, [.ref da, .ref ga])), (da, .inl (cI, n, .inl d)), (ga, .inl (cZ, n, .inl g)), (bb, .inr (1, [.int fo, .int wh, .int t2, .int to, .int co])), (l1, .inr (0, [.int x1, .ref ea, .int (nI c9)]))] ++ tl9) sz) (fun E => (cMaC (mcS n d Ls cs (0, wh, t2, to, co) c9).1 w9 = 1 ∧ E = eS) ∨ (cMaC (mcS n d Ls cs (0, wh, t2, to, co) c9).1 w9 = 2 ∧ E = eI))) (va_A ([(o, .inr (3, [.ref r0, .ref l1, .ref l2, .ref l3, .ref bb])), (r0, .inr (2, [.ref da, .ref ga])), (da, .inl (cI, n, .inl d)), (ga, .inl (cZ, n, .inl g)), (bb, .inr (1, [.int fo, .int wh, .int t2, .int to, .int co])), (l1, .inr (0, [.int x1, .ref ea, .int (nI c9)]))] ++ tl9) sz)) 1 6 (va_A ([(o, .inr (3, [.ref r0, .ref l1, .ref l2, .ref l3, .ref bb])), (r0, .inr (2, [.ref da, .ref ga])), (da, .inl (cI, n, .inl d)), (ga, .inl (cZ, n, .inl g)), (bb, .inr (1, [.int fo, .int wh, .int t2, .int to, .int co])), (l1, .inr (0, [.int x1, .ref ea, .int (nI c9)]))] ++ tl9) sz) := by
  refine vx_ofW (cc := c_M_match_) (maxL := 2) (ret := (some .int)) (by decide) rfl ?_
  intro p e s m args below meth c s₁ B hml hno hv
  obtain ⟨rfl, hsz, hP, hK, hD0, hN, hU, hV⟩ := hv
  have hx := B.exec
  have hb := B.bytes
  have hr := B.returns
  have hg := gt_h (atoms_spec (ws := (wq y_M_match_ c_M_match_ 2 (some .int))) B.pre)
  have hown : s.vm.findClass "RubbingMirrors" = some m.cls := findClass_of_methodNamed B.named
  have hlocks := B.notSynchronized
  subst hsz
  have hD := hD0.self (sz := s.heap.size)
  generalize hAe : va_A ([(o, .inr (3, [.ref r0, .ref l1, .ref l2, .ref l3, .ref bb])), (r0, .inr (2, [.ref da, .ref ga])), (da, .inl (cI, n, .inl d)), (ga, .inl (cZ, n, .inl g)), (bb, .inr (1, [.int fo, .int wh, .int t2, .int to, .int co])), (l1, .inr (0, [.int x1, .ref ea, .int (nI c9)]))] ++ tl9) s.heap.size = A at hD hU hV ⊢
  have hA : ∀ q : Nat, s.heap.size ≤ q → A q := fun q h => by rw [← hAe]; exact Or.inr h
  have hS : va_S A s.heap s.heap [] := va_S.rf
  have hl := lv_entry ([.ref o, .int w9]) (n := 2) (Nat.le_of_ble_eq_true rfl)
  rw [lg_entry_eq]
  generalize (lg_sl ([.ref o, .int w9]) ++ List.replicate (2 - (lg_sl ([.ref o, .int w9])).length) Slot.unset).toArray = ls at hl ⊢
  have hl : lv_has ls 2 [(0, .ref o), (1, .int w9)] := hl
  refine lv_aload_n hx hb d_M_match__0 rfl (lv_at hl 0 rfl) ?_
  refine mcallv (mc := 0) (ms := 0) (wc := [(o, .inr (3, [.ref r0, .ref l1, .ref l2, .ref l3, .ref bb])), (r0, .inr (2, [.ref da, .ref ga])), (da, .inl (cI, n, .inl d)), (ga, .inl (cZ, n, .inl g)), (bb, .inr (1, [.int fo, .int wh, .int t2, .int to, .int co])), (l1, .inr (0, [.int x1, .ref ea, .int (nI c9)]))] ++ tl9) (wr := []) (va_runV (As := []) (rest := []) ⟨hx, hb, hml, hown, hg⟩ (c_M_findMatch_ok l D cI cZ cJ cO s.heap.size o r0 l1 l2 l3 bb da ga n d g h4 h64 fo wh t2 to co x1 ea c9 n1 f tl9 qs sa Ls cs hc9 hcn hn1 hea hsh) (cwV 0 hg (gv g_488 g_490 g_7 g_18 g_491) rfl rfl rfl (by decide +kernel) ⟨Nat.le_of_ble_eq_true rfl, Nat.le_of_ble_eq_true rfl⟩) (mV hP hK hN hD (va_recv hK hP (ci := 3) (q0 := 0) rfl rfl)) rfl rfl hl.1 rfl (lv_room (Nat.le_of_ble_eq_true rfl)) d_M_match__1 ⟨Nat.le_of_ble_eq_true rfl, Nat.le_of_ble_eq_true rfl⟩) (by rw [List.append_nil]; exact hP) (by rw [List.append_nil]; exact hD) hS hA (fun u_1 H locs hu_1 hP hD hS => ?_)
  subst hu_1
  rw [List.append_nil] at hP hD
  obtain ⟨⟨fo1, wh1, t21, to1, co1⟩, hfm⟩ : ∃ t, t = (mcS n d Ls cs (0, wh, t2, to, co) c9) := ⟨_, rfl⟩
  rw [← hfm] at hP hD ⊢
  have hP : va_P D cls ([(o, .inr (3, [.ref r0, .ref l1, .ref l2, .ref l3, .ref bb])), (r0, .inr (2, [.ref da, .ref ga])), (da, .inl (cI, n, .inl d)), (ga, .inl (cZ, n, .inl g)), (bb, .inr (1, [.int fo1, .int wh1, .int t21, .int to1, .int co1])), (l1, .inr (0, [.int x1, .ref ea, .int (nI c9)]))] ++ tl9) H := hP
  have hD : va_D A ([(o, .inr (3, [.ref r0, .ref l1, .ref l2, .ref l3, .ref bb])), (r0, .inr (2, [.ref da, .ref ga])), (da, .inl (cI, n, .inl d)), (ga, .inl (cZ, n, .inl g)), (bb, .inr (1, [.int fo1, .int wh1, .int t21, .int to1, .int co1])), (l1, .inr (0, [.int x1, .ref ea, .int (nI c9)]))] ++ tl9) := hD
  refine lv_aload_n hx hb d_M_match__4 rfl (lv_at hl 0 rfl) ?_
  refine va_get (D := D) (ci := 3) (v := .ref bb) (C := Q_M) (T := F_M) (N := 5) hx hb hg in_M hown hK hP 0 rfl rfl 4 (by decide) (hg _ g_129) (fun _ h9 => h9) rfl d_M_match__5 ?_
  refine va_getN (host := "RubbingMirrors") (D := D) (ci := 1) (v := .int fo1) (C := Q_B) (T := F_B) (N := 5) hx hb hg in_B hown hK hP 4 rfl rfl 0 (by decide) (va_Nw.use rfl (hN.1 _ nw_1)) (fun _ h9 => h9) rfl d_M_match__8 ?_
  refine lv_if_ne (tgt := 24) hx hb d_M_match__11 (by decide) (fun c_11 => ?_) (fun c_11 => ?_)
  · refine lv_iload_n hx hb d_M_match__24 rfl (lv_at hl 1 rfl) ?_
    by_cases hw9 : w9.toInt < 0 ∨ 3 < w9.toInt
    · refine lv_tableOut (tgt := 88) hx hb d_M_match__25 hw9 (by decide) ?_
      exact thrw hx hb hlt hown hg hN x_I st_71 hU hV hS (by rw [hml]; exact hl.1) d_M_match__88 d_M_match__91 d_M_match__92 d_M_match__94 d_M_match__97 hno (Nat.le_of_ble_eq_true rfl) (Nat.le_of_ble_eq_true rfl) (Nat.le_of_ble_eq_true rfl) (Nat.le_of_ble_eq_true rfl) hlocks hP hK hD rfl (Or.inr ⟨cy_2 c_11 hw9, rfl⟩) (Nat.le_of_ble_eq_true rfl) (Nat.le_of_ble_eq_true rfl)
    · obtain ⟨hwa, hwb⟩ := not_or.mp hw9
      rcases wk hwa hwb with rfl | rfl | rfl | rfl
      · refine lv_tableIn (tgt := 56) (off := 31) hx hb d_M_match__25 (by decide) (by decide) rfl (by decide) ?_
        refine lv_aload_n hx hb d_M_match__56 rfl (lv_at hl 0 rfl) ?_
        refine va_get (D := D) (ci := 3) (v := .ref bb) (C := Q_M) (T := F_M) (N := 5) hx hb hg in_M hown hK hP 0 rfl rfl 4 (by decide) (hg _ g_129) (fun _ h9 => h9) rfl d_M_match__57 ?_
        refine va_getN (host := "RubbingMirrors") (D := D) (ci := 1) (v := .int wh1) (C := Q_B) (T := F_B) (N := 5) hx hb hg in_B hown hK hP 4 rfl rfl 1 (by decide) (va_Nw.use rfl (hN.1 _ nw_2)) (fun _ h9 => h9) rfl d_M_match__60 ?_
        refine vx_ret ?_
        refine W.widen (k := 1) (n := 6) (by omega) (by omega) ?_
        exact W.iret hx hb hr (fun t9 ht hW => ⟨⟨_, ([(o, .inr (3, [.ref r0, .ref l1, .ref l2, .ref l3, .ref bb])), (r0, .inr (2, [.ref da, .ref ga])), (da, .inl (cI, n, .inl d)), (ga, .inl (cZ, n, .inl g)), (bb, .inr (1, [.int fo1, .int wh1, .int t21, .int to1, .int co1])), (l1, .inr (0, [.int x1, .ref ea, .int (nI c9)]))] ++ tl9), rfl, ⟨cy_0 (k := 0) c_11 (by omega) rfl, rfl, rfl⟩, by rw [ht]; exact hP, va_K.moved hW.alike hK, hD⟩, hS.F ht⟩) hS.2.2 d_M_match__63
      · refine lv_tableIn (tgt := 64) (off := 39) hx hb d_M_match__25 (by decide) (by decide) rfl (by decide) ?_
        refine lv_aload_n hx hb d_M_match__64 rfl (lv_at hl 0 rfl) ?_
        refine va_get (D := D) (ci := 3) (v := .ref bb) (C := Q_M) (T := F_M) (N := 5) hx hb hg in_M hown hK hP 0 rfl rfl 4 (by decide) (hg _ g_129) (fun _ h9 => h9) rfl d_M_match__65 ?_
        refine va_getN (host := "RubbingMirrors") (D := D) (ci := 1) (v := .int t21) (C := Q_B) (T := F_B) (N := 5) hx hb hg in_B hown hK hP 4 rfl rfl 2 (by decide) (va_Nw.use rfl (hN.1 _ nw_3)) (fun _ h9 => h9) rfl d_M_match__68 ?_
        refine vx_ret ?_
        refine W.widen (k := 1) (n := 6) (by omega) (by omega) ?_
        exact W.iret hx hb hr (fun t9 ht hW => ⟨⟨_, ([(o, .inr (3, [.ref r0, .ref l1, .ref l2, .ref l3, .ref bb])), (r0, .inr (2, [.ref da, .ref ga])), (da, .inl (cI, n, .inl d)), (ga, .inl (cZ, n, .inl g)), (bb, .inr (1, [.int fo1, .int wh1, .int t21, .int to1, .int co1])), (l1, .inr (0, [.int x1, .ref ea, .int (nI c9)]))] ++ tl9), rfl, ⟨cy_0 (k := 1) c_11 (by omega) rfl, rfl, rfl⟩, by rw [ht]; exact hP, va_K.moved hW.alike hK, hD⟩, hS.F ht⟩) hS.2.2 d_M_match__71
      · refine lv_tableIn (tgt := 72) (off := 47) hx hb d_M_match__25 (by decide) (by decide) rfl (by decide) ?_
        refine lv_aload_n hx hb d_M_match__72 rfl (lv_at hl 0 rfl) ?_
        refine va_get (D := D) (ci := 3) (v := .ref bb) (C := Q_M) (T := F_M) (N := 5) hx hb hg in_M hown hK hP 0 rfl rfl 4 (by decide) (hg _ g_129) (fun _ h9 => h9) rfl d_M_match__73 ?_
        refine va_getN (host := "RubbingMirrors") (D := D) (ci := 1) (v := .int to1) (C := Q_B) (T := F_B) (N := 5) hx hb hg in_B hown hK hP 4 rfl rfl 3 (by decide) (va_Nw.use rfl (hN.1 _ nw_4)) (fun _ h9 => h9) rfl d_M_match__76 ?_
        refine vx_ret ?_
        refine W.widen (k := 1) (n := 6) (by omega) (by omega) ?_
        exact W.iret hx hb hr (fun t9 ht hW => ⟨⟨_, ([(o, .inr (3, [.ref r0, .ref l1, .ref l2, .ref l3, .ref bb])), (r0, .inr (2, [.ref da, .ref ga])), (da, .inl (cI, n, .inl d)), (ga, .inl (cZ, n, .inl g)), (bb, .inr (1, [.int fo1, .int wh1, .int t21, .int to1, .int co1])), (l1, .inr (0, [.int x1, .ref ea, .int (nI c9)]))] ++ tl9), rfl, ⟨cy_0 (k := 2) c_11 (by omega) rfl, rfl, rfl⟩, by rw [ht]; exact hP, va_K.moved hW.alike hK, hD⟩, hS.F ht⟩) hS.2.2 d_M_match__79
      · refine lv_tableIn (tgt := 80) (off := 55) hx hb d_M_match__25 (by decide) (by decide) rfl (by decide) ?_
        refine lv_aload_n hx hb d_M_match__80 rfl (lv_at hl 0 rfl) ?_
        refine va_get (D := D) (ci := 3) (v := .ref bb) (C := Q_M) (T := F_M) (N := 5) hx hb hg in_M hown hK hP 0 rfl rfl 4 (by decide) (hg _ g_129) (fun _ h9 => h9) rfl d_M_match__81 ?_
        refine va_getN (host := "RubbingMirrors") (D := D) (ci := 1) (v := .int co1) (C := Q_B) (T := F_B) (N := 5) hx hb hg in_B hown hK hP 4 rfl rfl 4 (by decide) (va_Nw.use rfl (hN.1 _ nw_5)) (fun _ h9 => h9) rfl d_M_match__84 ?_
        refine vx_ret ?_
        refine W.widen (k := 1) (n := 6) (by omega) (by omega) ?_
        exact W.iret hx hb hr (fun t9 ht hW => ⟨⟨_, ([(o, .inr (3, [.ref r0, .ref l1, .ref l2, .ref l3, .ref bb])), (r0, .inr (2, [.ref da, .ref ga])), (da, .inl (cI, n, .inl d)), (ga, .inl (cZ, n, .inl g)), (bb, .inr (1, [.int fo1, .int wh1, .int t21, .int to1, .int co1])), (l1, .inr (0, [.int x1, .ref ea, .int (nI c9)]))] ++ tl9), rfl, ⟨cy_0 (k := 3) c_11 (by omega) rfl, rfl, rfl⟩, by rw [ht]; exact hP, va_K.moved hW.alike hK, hD⟩, hS.F ht⟩) hS.2.2 d_M_match__87
  · exact thrw hx hb hlt hown hg hN x_S st_154 hU hV hS (by rw [hml]; exact hl.1) d_M_match__14 d_M_match__17 d_M_match__18 d_M_match__20 d_M_match__23 hno (Nat.le_of_ble_eq_true rfl) (Nat.le_of_ble_eq_true rfl) (Nat.le_of_ble_eq_true rfl) (Nat.le_of_ble_eq_true rfl) hlocks hP hK hD rfl (Or.inl ⟨cy_1 c_11, rfl⟩) (Nat.le_of_ble_eq_true rfl) (Nat.le_of_ble_eq_true rfl)


theorem ncl_le (k : Int32) : ncl k ≤ 64 := by
  unfold ncl
  split
  · omega
  · split
    · omega
    · rename_i h1 h2
      rw [ilt] at h1 h2
      have e4 : (4 : Int32).toInt = 4 := rfl
      have e64 : (64 : Int32).toInt = 64 := rfl
      have : k.toNatClampNeg = k.toInt.toNat := rfl
      omega
theorem ncl_ge (k : Int32) : 4 ≤ ncl k := by
  unfold ncl
  split
  · omega
  · split
    · omega
    · rename_i h1 h2
      rw [ilt] at h1 h2
      have e4 : (4 : Int32).toInt = 4 := rfl
      have e64 : (64 : Int32).toInt = 64 := rfl
      have : k.toNatClampNeg = k.toInt.toNat := rfl
      omega
theorem ncl_v (k : Int32) : (if 4 < (if k < 64 then k else 64) then (if k < 64 then k else 64) else (4 : Int32)) = nI (ncl k) := by
  have e4 : (4 : Int32).toInt = 4 := rfl
  have e64 : (64 : Int32).toInt = 64 := rfl
  have hk : nI k.toNatClampNeg = k ∨ k.toInt < 0 := by
    by_cases h : k.toInt < 0
    · exact Or.inr h
    · exact Or.inl (by have := nat_of (x := k) (by omega); exact this.symm)
  unfold ncl
  by_cases a : k < 4
  · rw [if_pos a]
    have b : k < 64 := by rw [ilt] at a ⊢; omega
    rw [if_pos b, if_neg (show ¬ 4 < k by rw [ilt] at a ⊢; omega)]; rfl
  · rw [if_neg a]
    by_cases b : k < 64
    · rw [if_pos b, if_neg (show ¬ 64 < k by rw [ilt] at b ⊢; omega)]
      rcases hk with hk | hk
      · rw [hk]
        by_cases c : 4 < k
        · rw [if_pos c]
        · rw [if_neg c]; rw [ilt] at a c; exact (ieq.mpr (by omega))
      · rw [ilt] at a; omega
    · rw [if_neg b]
      by_cases c : 64 < k
      · rw [if_pos c]; rfl
      · rw [if_neg c]
        have : k = 64 := by rw [ilt] at b c; exact ieq.mpr (by omega)
        rw [this]; rfl

set_option maxHeartbeats 4000000 in
set_option maxRecDepth 100000 in
/-- RubbingMirrors(n) -/
theorem c_M_init_ok (l : Launch) (D : va_G) (cI cZ cJ cO : ClassId) (sz e0 mi : Nat) (C : String) (hCO : Cond.castable C "java/lang/Object" ∈ NWL) (els : Nat → Prop) (o : Nat) (k9 : Int32) : Met l y_M_init (wq y_M_init c_M_init 2 none) ({ frames := 4, cells := 7, slots := 160, locals := 84 }) (lP D (TY cI cZ cJ cO) [(o, .inr (3, [.null, .null, .null, .null, .null]))] [.ref o, .int k9] sz e0 mi C els) (va_Qv (fun (u : va_W) => ∃ r0 l1 l2 l3 bb da ga : Nat, u = [(o, .inr (3, [.ref r0, .ref l1, .ref l2, .ref l3, .ref bb])), (r0, .inr (2, [.ref da, .ref ga])), (da, .inl (cI, ncl k9, .inl (fun _ => -1))), (ga, .inl (cZ, ncl k9, .inl (fun _ => 0))), (bb, .inr (1, [.int 0, .int 0, .int 0, .int 0, .int 0])), (l1, .inr (0, [.int 0, .ref e0, .int 0])), (l2, .inr (0, [.int 0, .ref e0, .int 0])), (l3, .inr (0, [.int 0, .ref e0, .int 0]))]) (mB D (TY cI cZ cJ cO) (va_A [(o, .inr (3, [.null, .null, .null, .null, .null]))] sz)) (va_A [(o, .inr (3, [.null, .null, .null, .null, .null]))] sz)) 7 160 (va_A [(o, .inr (3, [.null, .null, .null, .null, .null]))] sz) := by
  refine Met.ofW (cc := c_M_init) (maxL := 2) (ret := none) (by decide) rfl ?_
  intro p e s m args below meth c s₁ B hml hv
  obtain ⟨rfl, hsz, hP, hK, hD0, hN, hsP, hEl⟩ := hv
  have hx := B.exec
  have hb := B.bytes
  have hr := B.returns
  have hg := gt_h (atoms_spec (ws := (wq y_M_init c_M_init 2 none)) B.pre)
  have hown : s.vm.findClass "RubbingMirrors" = some m.cls := findClass_of_methodNamed B.named
  have hlocks := B.notSynchronized
  have hMi := hsP.2.2
  have hin : meth.name = "<init>" := (name_of_methodNamed B.named B.method).1
  subst hsz
  have hD := hD0.self (sz := s.heap.size)
  generalize hAe : va_A [(o, .inr (3, [.null, .null, .null, .null, .null]))] s.heap.size = A at hD hsP hEl ⊢
  have hA : ∀ q : Nat, s.heap.size ≤ q → A q := fun q h => by rw [← hAe]; exact Or.inr h
  have hS : va_S A s.heap s.heap [] := va_S.rf
  have hl := lv_entry ([.ref o, .int k9]) (n := 2) (Nat.le_of_ble_eq_true rfl)
  rw [lg_entry_eq]
  generalize (lg_sl ([.ref o, .int k9]) ++ List.replicate (2 - (lg_sl ([.ref o, .int k9])).length) Slot.unset).toArray = ls at hl ⊢
  have hl : lv_has ls 2 [(0, .ref o), (1, .int k9)] := hl
  refine lv_aload_n hx hb d_M_init_0 rfl (lv_at hl 0 rfl) ?_
  refine W.objInit hx hb hown (hg _ g_45) (hg _ g_46) (hg _ g_47) rfl (by rw [hml]; exact hl.1) rfl d_M_init_1 (Nat.le_of_ble_eq_true rfl) (Nat.le_of_ble_eq_true rfl) ?_
  refine W.eq (g2 := F0 m 4 ls []) rfl ?_
  refine lv_aload_n hx hb d_M_init_4 rfl (lv_at hl 0 rfl) ?_
  refine va_new (ci := 0) (fs := [.int 0, .null, .int 0]) (C := Q_A) (T := F_A) (N := 3) hx hb hg in_A tq_A tq_A_ok hown (hg _ g_48) (hg _ g_49) (hg _ g_21) hK hP hD hS hA rfl (fun j hj => by rcases (show j = 0 ∨ j = 1 ∨ j = 2 by omega) with rfl | rfl | rfl <;> rfl) (show 0 + 1 ≤ 7 by omega) (show 0 + 3 ≤ 160 by omega) d_M_init_5 (fun q_5 H hP hD hS => ?_)
  refine W.widen (k := 1) (n := 3) (by omega) (by omega) ?_
  have hP : va_P D cls [(o, .inr (3, [.null, .null, .null, .null, .null])), (q_5, .inr (0, [.int 0, .null, .int 0]))] H := hP
  have hD : va_D A [(o, .inr (3, [.null, .null, .null, .null, .null])), (q_5, .inr (0, [.int 0, .null, .int 0]))] := hD
  refine lv_dup hx hb d_M_init_8 rfl ?_
  have hP := hP.sub (ws' := [(q_5, .inr (0, [.int 0, .null, .int 0]))] ++ [(o, .inr (3, [.null, .null, .null, .null, .null]))]) [1, 0] rfl
  have hD := hD.sub (ws' := [(q_5, .inr (0, [.int 0, .null, .int 0]))] ++ [(o, .inr (3, [.null, .null, .null, .null, .null]))]) [1, 0] (by decide) rfl
  refine mcallv (wc := [(q_5, .inr (0, [.int 0, .null, .int 0]))]) (wr := [(o, .inr (3, [.null, .null, .null, .null, .null]))]) (va_runI (As := []) (rest := [.ref q_5, .ref o]) ⟨hx, hb, hml, hown, hg⟩ (c_A_init_ok l D cI cZ cJ cO H.size e0 mi C hCO els q_5) (cwI 0 hg (gq g_52) rfl rfl rfl (hg _ g_21) (hg _ g_50) (hg _ g_51) rfl (by decide +kernel) ⟨Nat.le_of_ble_eq_true rfl, Nat.le_of_ble_eq_true rfl⟩) ⟨lp_blind, fun U hU hW => ⟨rfl, (lPre (els := els) hP hD hK hN hS hA hsP hEl (fun _ h => h)) U hU hW⟩⟩ rfl rfl hl.1 rfl (lv_room (Nat.le_of_ble_eq_true rfl)) d_M_init_9 ⟨Nat.le_of_ble_eq_true rfl, Nat.le_of_ble_eq_true rfl⟩) hP hD hS hA (fun u_1 H locs hu_1 hP hD hS => ?_)
  subst hu_1
  have hP : va_P D cls [(q_5, .inr (0, [.int 0, .ref e0, .int 0])), (o, .inr (3, [.null, .null, .null, .null, .null]))] H := hP
  have hD : va_D A [(q_5, .inr (0, [.int 0, .ref e0, .int 0])), (o, .inr (3, [.null, .null, .null, .null, .null]))] := hD
  refine va_putF (D := D) (ci := 3) (v := .ref q_5) (ty := .object "java/util/ArrayList") (C := Q_M) (T := F_M) (N := 5) hx hb hg in_M tq_M tq_M_ok n_M hown hK hP hD hS 1 rfl rfl 1 (by decide) (hg _ g_126) (fun _ h9 => h9) rfl hin rfl (by decide +kernel) rfl rfl (Nat.le_of_ble_eq_true rfl) d_M_init_12 (fun H locs hP hD hS => ?_)
  have hP : va_P D cls [(q_5, .inr (0, [.int 0, .ref e0, .int 0])), (o, .inr (3, [.null, .ref q_5, .null, .null, .null]))] H := hP
  have hD : va_D A [(q_5, .inr (0, [.int 0, .ref e0, .int 0])), (o, .inr (3, [.null, .ref q_5, .null, .null, .null]))] := hD
  refine lv_aload_n hx hb d_M_init_15 rfl (lv_at hl 0 rfl) ?_
  refine va_new (ci := 0) (fs := [.int 0, .null, .int 0]) (C := Q_A) (T := F_A) (N := 3) hx hb hg in_A tq_A tq_A_ok hown (hg _ g_48) (hg _ g_49) (hg _ g_21) hK hP hD hS hA rfl (fun j hj => by rcases (show j = 0 ∨ j = 1 ∨ j = 2 by omega) with rfl | rfl | rfl <;> rfl) (show 1 + 1 ≤ 7 by omega) (show 3 + 3 ≤ 160 by omega) d_M_init_16 (fun q_16 H hP hD hS => ?_)
  refine W.widen (k := 2) (n := 6) (by omega) (by omega) ?_
  have hP : va_P D cls [(q_5, .inr (0, [.int 0, .ref e0, .int 0])), (o, .inr (3, [.null, .ref q_5, .null, .null, .null])), (q_16, .inr (0, [.int 0, .null, .int 0]))] H := hP
  have hD : va_D A [(q_5, .inr (0, [.int 0, .ref e0, .int 0])), (o, .inr (3, [.null, .ref q_5, .null, .null, .null])), (q_16, .inr (0, [.int 0, .null, .int 0]))] := hD
  refine lv_dup hx hb d_M_init_19 rfl ?_
  have hP := hP.sub (ws' := [(q_16, .inr (0, [.int 0, .null, .int 0]))] ++ [(q_5, .inr (0, [.int 0, .ref e0, .int 0])), (o, .inr (3, [.null, .ref q_5, .null, .null, .null]))]) [2, 0, 1] rfl
  have hD := hD.sub (ws' := [(q_16, .inr (0, [.int 0, .null, .int 0]))] ++ [(q_5, .inr (0, [.int 0, .ref e0, .int 0])), (o, .inr (3, [.null, .ref q_5, .null, .null, .null]))]) [2, 0, 1] (by decide) rfl
  refine mcallv (wc := [(q_16, .inr (0, [.int 0, .null, .int 0]))]) (wr := [(q_5, .inr (0, [.int 0, .ref e0, .int 0])), (o, .inr (3, [.null, .ref q_5, .null, .null, .null]))]) (va_runI (As := []) (rest := [.ref q_16, .ref o]) ⟨hx, hb, hml, hown, hg⟩ (c_A_init_ok l D cI cZ cJ cO H.size e0 mi C hCO els q_16) (cwI 0 hg (gq g_52) rfl rfl rfl (hg _ g_21) (hg _ g_50) (hg _ g_51) rfl (by decide +kernel) ⟨Nat.le_of_ble_eq_true rfl, Nat.le_of_ble_eq_true rfl⟩) ⟨lp_blind, fun U hU hW => ⟨rfl, (lPre (els := els) hP hD hK hN hS hA hsP hEl (fun _ h => h)) U hU hW⟩⟩ rfl rfl hl.1 rfl (lv_room (Nat.le_of_ble_eq_true rfl)) d_M_init_20 ⟨Nat.le_of_ble_eq_true rfl, Nat.le_of_ble_eq_true rfl⟩) hP hD hS hA (fun u_3 H locs hu_3 hP hD hS => ?_)
  subst hu_3
  have hP : va_P D cls [(q_16, .inr (0, [.int 0, .ref e0, .int 0])), (q_5, .inr (0, [.int 0, .ref e0, .int 0])), (o, .inr (3, [.null, .ref q_5, .null, .null, .null]))] H := hP
  have hD : va_D A [(q_16, .inr (0, [.int 0, .ref e0, .int 0])), (q_5, .inr (0, [.int 0, .ref e0, .int 0])), (o, .inr (3, [.null, .ref q_5, .null, .null, .null]))] := hD
  refine va_putF (D := D) (ci := 3) (v := .ref q_16) (ty := .object "java/util/ArrayList") (C := Q_M) (T := F_M) (N := 5) hx hb hg in_M tq_M tq_M_ok n_M hown hK hP hD hS 2 rfl rfl 2 (by decide) (hg _ g_127) (fun _ h9 => h9) rfl hin rfl (by decide +kernel) rfl rfl (Nat.le_of_ble_eq_true rfl) d_M_init_23 (fun H locs hP hD hS => ?_)
  have hP : va_P D cls [(q_16, .inr (0, [.int 0, .ref e0, .int 0])), (q_5, .inr (0, [.int 0, .ref e0, .int 0])), (o, .inr (3, [.null, .ref q_5, .ref q_16, .null, .null]))] H := hP
  have hD : va_D A [(q_16, .inr (0, [.int 0, .ref e0, .int 0])), (q_5, .inr (0, [.int 0, .ref e0, .int 0])), (o, .inr (3, [.null, .ref q_5, .ref q_16, .null, .null]))] := hD
  refine lv_aload_n hx hb d_M_init_26 rfl (lv_at hl 0 rfl) ?_
  refine va_new (ci := 0) (fs := [.int 0, .null, .int 0]) (C := Q_A) (T := F_A) (N := 3) hx hb hg in_A tq_A tq_A_ok hown (hg _ g_48) (hg _ g_49) (hg _ g_21) hK hP hD hS hA rfl (fun j hj => by rcases (show j = 0 ∨ j = 1 ∨ j = 2 by omega) with rfl | rfl | rfl <;> rfl) (show 2 + 1 ≤ 7 by omega) (show 6 + 3 ≤ 160 by omega) d_M_init_27 (fun q_27 H hP hD hS => ?_)
  refine W.widen (k := 3) (n := 9) (by omega) (by omega) ?_
  have hP : va_P D cls [(q_16, .inr (0, [.int 0, .ref e0, .int 0])), (q_5, .inr (0, [.int 0, .ref e0, .int 0])), (o, .inr (3, [.null, .ref q_5, .ref q_16, .null, .null])), (q_27, .inr (0, [.int 0, .null, .int 0]))] H := hP
  have hD : va_D A [(q_16, .inr (0, [.int 0, .ref e0, .int 0])), (q_5, .inr (0, [.int 0, .ref e0, .int 0])), (o, .inr (3, [.null, .ref q_5, .ref q_16, .null, .null])), (q_27, .inr (0, [.int 0, .null, .int 0]))] := hD
  refine lv_dup hx hb d_M_init_30 rfl ?_
  have hP := hP.sub (ws' := [(q_27, .inr (0, [.int 0, .null, .int 0]))] ++ [(q_16, .inr (0, [.int 0, .ref e0, .int 0])), (q_5, .inr (0, [.int 0, .ref e0, .int 0])), (o, .inr (3, [.null, .ref q_5, .ref q_16, .null, .null]))]) [3, 0, 1, 2] rfl
  have hD := hD.sub (ws' := [(q_27, .inr (0, [.int 0, .null, .int 0]))] ++ [(q_16, .inr (0, [.int 0, .ref e0, .int 0])), (q_5, .inr (0, [.int 0, .ref e0, .int 0])), (o, .inr (3, [.null, .ref q_5, .ref q_16, .null, .null]))]) [3, 0, 1, 2] (by decide) rfl
  refine mcallv (wc := [(q_27, .inr (0, [.int 0, .null, .int 0]))]) (wr := [(q_16, .inr (0, [.int 0, .ref e0, .int 0])), (q_5, .inr (0, [.int 0, .ref e0, .int 0])), (o, .inr (3, [.null, .ref q_5, .ref q_16, .null, .null]))]) (va_runI (As := []) (rest := [.ref q_27, .ref o]) ⟨hx, hb, hml, hown, hg⟩ (c_A_init_ok l D cI cZ cJ cO H.size e0 mi C hCO els q_27) (cwI 0 hg (gq g_52) rfl rfl rfl (hg _ g_21) (hg _ g_50) (hg _ g_51) rfl (by decide +kernel) ⟨Nat.le_of_ble_eq_true rfl, Nat.le_of_ble_eq_true rfl⟩) ⟨lp_blind, fun U hU hW => ⟨rfl, (lPre (els := els) hP hD hK hN hS hA hsP hEl (fun _ h => h)) U hU hW⟩⟩ rfl rfl hl.1 rfl (lv_room (Nat.le_of_ble_eq_true rfl)) d_M_init_31 ⟨Nat.le_of_ble_eq_true rfl, Nat.le_of_ble_eq_true rfl⟩) hP hD hS hA (fun u_5 H locs hu_5 hP hD hS => ?_)
  subst hu_5
  have hP : va_P D cls [(q_27, .inr (0, [.int 0, .ref e0, .int 0])), (q_16, .inr (0, [.int 0, .ref e0, .int 0])), (q_5, .inr (0, [.int 0, .ref e0, .int 0])), (o, .inr (3, [.null, .ref q_5, .ref q_16, .null, .null]))] H := hP
  have hD : va_D A [(q_27, .inr (0, [.int 0, .ref e0, .int 0])), (q_16, .inr (0, [.int 0, .ref e0, .int 0])), (q_5, .inr (0, [.int 0, .ref e0, .int 0])), (o, .inr (3, [.null, .ref q_5, .ref q_16, .null, .null]))] := hD
  refine va_putF (D := D) (ci := 3) (v := .ref q_27) (ty := .object "java/util/ArrayList") (C := Q_M) (T := F_M) (N := 5) hx hb hg in_M tq_M tq_M_ok n_M hown hK hP hD hS 3 rfl rfl 3 (by decide) (hg _ g_128) (fun _ h9 => h9) rfl hin rfl (by decide +kernel) rfl rfl (Nat.le_of_ble_eq_true rfl) d_M_init_34 (fun H locs hP hD hS => ?_)
  have hP : va_P D cls [(q_27, .inr (0, [.int 0, .ref e0, .int 0])), (q_16, .inr (0, [.int 0, .ref e0, .int 0])), (q_5, .inr (0, [.int 0, .ref e0, .int 0])), (o, .inr (3, [.null, .ref q_5, .ref q_16, .ref q_27, .null]))] H := hP
  have hD : va_D A [(q_27, .inr (0, [.int 0, .ref e0, .int 0])), (q_16, .inr (0, [.int 0, .ref e0, .int 0])), (q_5, .inr (0, [.int 0, .ref e0, .int 0])), (o, .inr (3, [.null, .ref q_5, .ref q_16, .ref q_27, .null]))] := hD
  refine lv_aload_n hx hb d_M_init_37 rfl (lv_at hl 0 rfl) ?_
  refine va_new (ci := 1) (fs := [.int 0, .int 0, .int 0, .int 0, .int 0]) (C := Q_B) (T := F_B) (N := 5) hx hb hg in_B tq_B tq_B_ok hown (hg _ g_74) (hg _ g_75) (hg _ g_22) hK hP hD hS hA rfl (fun j hj => by rcases (show j = 0 ∨ j = 1 ∨ j = 2 ∨ j = 3 ∨ j = 4 by omega) with rfl | rfl | rfl | rfl | rfl <;> rfl) (show 3 + 1 ≤ 7 by omega) (show 9 + 5 ≤ 160 by omega) d_M_init_38 (fun q_38 H hP hD hS => ?_)
  refine W.widen (k := 4) (n := 14) (by omega) (by omega) ?_
  have hP : va_P D cls [(q_27, .inr (0, [.int 0, .ref e0, .int 0])), (q_16, .inr (0, [.int 0, .ref e0, .int 0])), (q_5, .inr (0, [.int 0, .ref e0, .int 0])), (o, .inr (3, [.null, .ref q_5, .ref q_16, .ref q_27, .null])), (q_38, .inr (1, [.int 0, .int 0, .int 0, .int 0, .int 0]))] H := hP
  have hD : va_D A [(q_27, .inr (0, [.int 0, .ref e0, .int 0])), (q_16, .inr (0, [.int 0, .ref e0, .int 0])), (q_5, .inr (0, [.int 0, .ref e0, .int 0])), (o, .inr (3, [.null, .ref q_5, .ref q_16, .ref q_27, .null])), (q_38, .inr (1, [.int 0, .int 0, .int 0, .int 0, .int 0]))] := hD
  refine lv_dup hx hb d_M_init_41 rfl ?_
  have hP := hP.sub (ws' := [(q_38, .inr (1, [.int 0, .int 0, .int 0, .int 0, .int 0]))] ++ [(q_27, .inr (0, [.int 0, .ref e0, .int 0])), (q_16, .inr (0, [.int 0, .ref e0, .int 0])), (q_5, .inr (0, [.int 0, .ref e0, .int 0])), (o, .inr (3, [.null, .ref q_5, .ref q_16, .ref q_27, .null]))]) [4, 0, 1, 2, 3] rfl
  have hD := hD.sub (ws' := [(q_38, .inr (1, [.int 0, .int 0, .int 0, .int 0, .int 0]))] ++ [(q_27, .inr (0, [.int 0, .ref e0, .int 0])), (q_16, .inr (0, [.int 0, .ref e0, .int 0])), (q_5, .inr (0, [.int 0, .ref e0, .int 0])), (o, .inr (3, [.null, .ref q_5, .ref q_16, .ref q_27, .null]))]) [4, 0, 1, 2, 3] (by decide) rfl
  refine mcallv (wc := [(q_38, .inr (1, [.int 0, .int 0, .int 0, .int 0, .int 0]))]) (wr := [(q_27, .inr (0, [.int 0, .ref e0, .int 0])), (q_16, .inr (0, [.int 0, .ref e0, .int 0])), (q_5, .inr (0, [.int 0, .ref e0, .int 0])), (o, .inr (3, [.null, .ref q_5, .ref q_16, .ref q_27, .null]))]) (va_runIN (As := []) (rest := [.ref q_38, .ref o]) ⟨hx, hb, hml, hown, hg⟩ (c_B_init_ok l D cI cZ cJ cO H.size q_38 0 0 0 0 0) ⟨va_cnB 0 hg (gq g_78) rfl rfl rfl (hN.1 _ nw_0) (hg _ g_22) (by decide +kernel) ⟨Nat.le_of_ble_eq_true rfl, Nat.le_of_ble_eq_true rfl⟩, rfl, hg _ g_77⟩ (mS (As := .ref q_38 :: []) (ba_Pl hP) hK hN (ba_Dl hD)) rfl rfl hl.1 rfl (lv_room (Nat.le_of_ble_eq_true rfl)) d_M_init_42 ⟨Nat.le_of_ble_eq_true rfl, Nat.le_of_ble_eq_true rfl⟩) hP hD hS hA (fun u_7 H locs hu_7 hP hD hS => ?_)
  subst hu_7
  have hP : va_P D cls [(q_38, .inr (1, [.int 0, .int 0, .int 0, .int 0, .int 0])), (q_27, .inr (0, [.int 0, .ref e0, .int 0])), (q_16, .inr (0, [.int 0, .ref e0, .int 0])), (q_5, .inr (0, [.int 0, .ref e0, .int 0])), (o, .inr (3, [.null, .ref q_5, .ref q_16, .ref q_27, .null]))] H := hP
  have hD : va_D A [(q_38, .inr (1, [.int 0, .int 0, .int 0, .int 0, .int 0])), (q_27, .inr (0, [.int 0, .ref e0, .int 0])), (q_16, .inr (0, [.int 0, .ref e0, .int 0])), (q_5, .inr (0, [.int 0, .ref e0, .int 0])), (o, .inr (3, [.null, .ref q_5, .ref q_16, .ref q_27, .null]))] := hD
  refine va_putF (D := D) (ci := 3) (v := .ref q_38) (ty := .object "RubbingMirrors$Best") (C := Q_M) (T := F_M) (N := 5) hx hb hg in_M tq_M tq_M_ok n_M hown hK hP hD hS 4 rfl rfl 4 (by decide) (hg _ g_129) (fun _ h9 => h9) rfl hin rfl (by decide +kernel) rfl rfl (Nat.le_of_ble_eq_true rfl) d_M_init_45 (fun H locs hP hD hS => ?_)
  have hP : va_P D cls [(q_38, .inr (1, [.int 0, .int 0, .int 0, .int 0, .int 0])), (q_27, .inr (0, [.int 0, .ref e0, .int 0])), (q_16, .inr (0, [.int 0, .ref e0, .int 0])), (q_5, .inr (0, [.int 0, .ref e0, .int 0])), (o, .inr (3, [.null, .ref q_5, .ref q_16, .ref q_27, .ref q_38]))] H := hP
  have hD : va_D A [(q_38, .inr (1, [.int 0, .int 0, .int 0, .int 0, .int 0])), (q_27, .inr (0, [.int 0, .ref e0, .int 0])), (q_16, .inr (0, [.int 0, .ref e0, .int 0])), (q_5, .inr (0, [.int 0, .ref e0, .int 0])), (o, .inr (3, [.null, .ref q_5, .ref q_16, .ref q_27, .ref q_38]))] := hD
  refine lv_aload_n hx hb d_M_init_48 rfl (lv_at hl 0 rfl) ?_
  refine va_new (ci := 2) (fs := [.null, .null]) (C := Q_R) (T := F_R) (N := 2) hx hb hg in_R tq_R tq_R_ok hown (hg _ g_101) (hg _ g_102) (hg _ g_23) hK hP hD hS hA rfl (fun j hj => by rcases (show j = 0 ∨ j = 1 by omega) with rfl | rfl <;> rfl) (show 4 + 1 ≤ 7 by omega) (show 14 + 2 ≤ 160 by omega) d_M_init_49 (fun q_49 H hP hD hS => ?_)
  refine W.widen (k := 5) (n := 16) (by omega) (by omega) ?_
  have hP : va_P D cls [(q_38, .inr (1, [.int 0, .int 0, .int 0, .int 0, .int 0])), (q_27, .inr (0, [.int 0, .ref e0, .int 0])), (q_16, .inr (0, [.int 0, .ref e0, .int 0])), (q_5, .inr (0, [.int 0, .ref e0, .int 0])), (o, .inr (3, [.null, .ref q_5, .ref q_16, .ref q_27, .ref q_38])), (q_49, .inr (2, [.null, .null]))] H := hP
  have hD : va_D A [(q_38, .inr (1, [.int 0, .int 0, .int 0, .int 0, .int 0])), (q_27, .inr (0, [.int 0, .ref e0, .int 0])), (q_16, .inr (0, [.int 0, .ref e0, .int 0])), (q_5, .inr (0, [.int 0, .ref e0, .int 0])), (o, .inr (3, [.null, .ref q_5, .ref q_16, .ref q_27, .ref q_38])), (q_49, .inr (2, [.null, .null]))] := hD
  refine lv_dup hx hb d_M_init_52 rfl ?_
  refine lv_iconst (v := 4) hx hb d_M_init_53 (by decide) ?_
  refine lv_bipush (v := 64) hx hb d_M_init_54 (by decide) ?_
  refine lv_iload_n hx hb d_M_init_56 rfl (lv_at hl 1 rfl) ?_
  refine va_mmin hx hb (by rw [hml]; exact hl.1.symm) hown (hg _ g_103) (hg _ g_104) (hg _ g_24) (hg _ g_105) (Nat.le_of_ble_eq_true rfl) (Nat.le_of_ble_eq_true rfl) (Nat.le_of_ble_eq_true rfl) (Nat.le_of_ble_eq_true rfl) d_M_init_57 ?_
  refine va_mmax hx hb (by rw [hml]; exact hl.1.symm) hown (hg _ g_106) (hg _ g_107) (hg _ g_24) (hg _ g_108) (Nat.le_of_ble_eq_true rfl) (Nat.le_of_ble_eq_true rfl) (Nat.le_of_ble_eq_true rfl) (Nat.le_of_ble_eq_true rfl) d_M_init_60 ?_
  refine lv_topi (fun y_9 ey_9 => ?_)
  obtain rfl : y_9 = nI (ncl k9) := ey_9.trans (ncl_v k9)
  have hP := hP.sub (ws' := [(q_49, .inr (2, [.null, .null]))] ++ [(q_38, .inr (1, [.int 0, .int 0, .int 0, .int 0, .int 0])), (q_27, .inr (0, [.int 0, .ref e0, .int 0])), (q_16, .inr (0, [.int 0, .ref e0, .int 0])), (q_5, .inr (0, [.int 0, .ref e0, .int 0])), (o, .inr (3, [.null, .ref q_5, .ref q_16, .ref q_27, .ref q_38]))]) [5, 0, 1, 2, 3, 4] rfl
  have hD := hD.sub (ws' := [(q_49, .inr (2, [.null, .null]))] ++ [(q_38, .inr (1, [.int 0, .int 0, .int 0, .int 0, .int 0])), (q_27, .inr (0, [.int 0, .ref e0, .int 0])), (q_16, .inr (0, [.int 0, .ref e0, .int 0])), (q_5, .inr (0, [.int 0, .ref e0, .int 0])), (o, .inr (3, [.null, .ref q_5, .ref q_16, .ref q_27, .ref q_38]))]) [5, 0, 1, 2, 3, 4] (by decide) rfl
  refine mcallv (wc := [(q_49, .inr (2, [.null, .null]))]) (wr := [(q_38, .inr (1, [.int 0, .int 0, .int 0, .int 0, .int 0])), (q_27, .inr (0, [.int 0, .ref e0, .int 0])), (q_16, .inr (0, [.int 0, .ref e0, .int 0])), (q_5, .inr (0, [.int 0, .ref e0, .int 0])), (o, .inr (3, [.null, .ref q_5, .ref q_16, .ref q_27, .ref q_38]))]) (va_runI (As := [.int (nI (ncl k9))]) (rest := [.ref q_49, .ref o]) ⟨hx, hb, hml, hown, hg⟩ (c_R_init_ok l D cI cZ cJ cO H.size q_49 (ncl k9) (ncl_le k9)) (cwI 1 hg (gq g_111) rfl rfl rfl (hg _ g_23) (hg _ g_109) (hg _ g_110) rfl (by decide +kernel) ⟨Nat.le_of_ble_eq_true rfl, Nat.le_of_ble_eq_true rfl⟩) (mS (As := .ref q_49 :: [.int (nI (ncl k9))]) (ba_Pl hP) hK hN (ba_Dl hD)) rfl rfl hl.1 rfl (lv_room (Nat.le_of_ble_eq_true rfl)) d_M_init_63 ⟨Nat.le_of_ble_eq_true rfl, Nat.le_of_ble_eq_true rfl⟩) hP hD hS hA (fun u_10 H locs hu_10 hP hD hS => ?_)
  obtain ⟨da, ga, rfl⟩ := hu_10
  have hP : va_P D cls [(q_49, .inr (2, [.ref da, .ref ga])), (da, .inl (cI, ncl k9, .inl (fun _ => -1))), (ga, .inl (cZ, ncl k9, .inl (fun _ => 0))), (q_38, .inr (1, [.int 0, .int 0, .int 0, .int 0, .int 0])), (q_27, .inr (0, [.int 0, .ref e0, .int 0])), (q_16, .inr (0, [.int 0, .ref e0, .int 0])), (q_5, .inr (0, [.int 0, .ref e0, .int 0])), (o, .inr (3, [.null, .ref q_5, .ref q_16, .ref q_27, .ref q_38]))] H := hP
  have hD : va_D A [(q_49, .inr (2, [.ref da, .ref ga])), (da, .inl (cI, ncl k9, .inl (fun _ => -1))), (ga, .inl (cZ, ncl k9, .inl (fun _ => 0))), (q_38, .inr (1, [.int 0, .int 0, .int 0, .int 0, .int 0])), (q_27, .inr (0, [.int 0, .ref e0, .int 0])), (q_16, .inr (0, [.int 0, .ref e0, .int 0])), (q_5, .inr (0, [.int 0, .ref e0, .int 0])), (o, .inr (3, [.null, .ref q_5, .ref q_16, .ref q_27, .ref q_38]))] := hD
  refine W.widen (k := 7) (n := 144) (by omega) (by omega) ?_
  refine va_putF (D := D) (ci := 3) (v := .ref q_49) (ty := .object "RubbingMirrors$Row") (C := Q_M) (T := F_M) (N := 5) hx hb hg in_M tq_M tq_M_ok n_M hown hK hP hD hS 7 rfl rfl 0 (by decide) (hg _ g_125) (fun _ h9 => h9) rfl hin rfl (by decide +kernel) rfl rfl (Nat.le_of_ble_eq_true rfl) d_M_init_66 (fun H locs hP hD hS => ?_)
  have hP : va_P D cls [(q_49, .inr (2, [.ref da, .ref ga])), (da, .inl (cI, ncl k9, .inl (fun _ => -1))), (ga, .inl (cZ, ncl k9, .inl (fun _ => 0))), (q_38, .inr (1, [.int 0, .int 0, .int 0, .int 0, .int 0])), (q_27, .inr (0, [.int 0, .ref e0, .int 0])), (q_16, .inr (0, [.int 0, .ref e0, .int 0])), (q_5, .inr (0, [.int 0, .ref e0, .int 0])), (o, .inr (3, [.ref q_49, .ref q_5, .ref q_16, .ref q_27, .ref q_38]))] H := hP
  have hD : va_D A [(q_49, .inr (2, [.ref da, .ref ga])), (da, .inl (cI, ncl k9, .inl (fun _ => -1))), (ga, .inl (cZ, ncl k9, .inl (fun _ => 0))), (q_38, .inr (1, [.int 0, .int 0, .int 0, .int 0, .int 0])), (q_27, .inr (0, [.int 0, .ref e0, .int 0])), (q_16, .inr (0, [.int 0, .ref e0, .int 0])), (q_5, .inr (0, [.int 0, .ref e0, .int 0])), (o, .inr (3, [.ref q_49, .ref q_5, .ref q_16, .ref q_27, .ref q_38]))] := hD
  have hP := hP.sub (ws' := [(o, .inr (3, [.ref q_49, .ref q_5, .ref q_16, .ref q_27, .ref q_38])), (q_49, .inr (2, [.ref da, .ref ga])), (da, .inl (cI, ncl k9, .inl (fun _ => -1))), (ga, .inl (cZ, ncl k9, .inl (fun _ => 0))), (q_38, .inr (1, [.int 0, .int 0, .int 0, .int 0, .int 0])), (q_5, .inr (0, [.int 0, .ref e0, .int 0])), (q_16, .inr (0, [.int 0, .ref e0, .int 0])), (q_27, .inr (0, [.int 0, .ref e0, .int 0]))]) [7, 0, 1, 2, 3, 6, 5, 4] rfl
  have hD := hD.sub (ws' := [(o, .inr (3, [.ref q_49, .ref q_5, .ref q_16, .ref q_27, .ref q_38])), (q_49, .inr (2, [.ref da, .ref ga])), (da, .inl (cI, ncl k9, .inl (fun _ => -1))), (ga, .inl (cZ, ncl k9, .inl (fun _ => 0))), (q_38, .inr (1, [.int 0, .int 0, .int 0, .int 0, .int 0])), (q_5, .inr (0, [.int 0, .ref e0, .int 0])), (q_16, .inr (0, [.int 0, .ref e0, .int 0])), (q_27, .inr (0, [.int 0, .ref e0, .int 0]))]) [7, 0, 1, 2, 3, 6, 5, 4] (by decide) rfl
  refine W.widen (k := 7) (n := 160) (by omega) (by omega) ?_
  exact W.vret hx hb hr (fun t9 ht hW => ⟨⟨[(o, .inr (3, [.ref q_49, .ref q_5, .ref q_16, .ref q_27, .ref q_38])), (q_49, .inr (2, [.ref da, .ref ga])), (da, .inl (cI, ncl k9, .inl (fun _ => -1))), (ga, .inl (cZ, ncl k9, .inl (fun _ => 0))), (q_38, .inr (1, [.int 0, .int 0, .int 0, .int 0, .int 0])), (q_5, .inr (0, [.int 0, .ref e0, .int 0])), (q_16, .inr (0, [.int 0, .ref e0, .int 0])), (q_27, .inr (0, [.int 0, .ref e0, .int 0]))], rfl, ⟨q_49, q_5, q_16, q_27, q_38, da, ga, rfl⟩, by rw [ht]; exact hP, va_K.moved hW.alike hK, hD⟩, hS.F ht⟩) hS.2.2 d_M_init_69
