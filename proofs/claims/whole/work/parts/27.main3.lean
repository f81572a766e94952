
/-- a start of a method of the class that makes an element of a list -/
def gP (D : va_G) (tys : List (ClassId × FieldType)) (ws : va_W) (av : List Value) (sz e0 mi : Nat) (C : String) (els : Nat → Prop) : Array Value → State → Prop := va_Pc av (fun U => U.heap.size = sz ∧ va_P D cls ws U.heap ∧ va_K D cls tys U ∧ va_D (fun _ => True) ws ∧ nW U ∧ vx_Zq Bundle.tN "UNASSIGNED_STACK" Bundle.steD (va_A ws sz) U U.heap ∧ vx_Zq Bundle.tN "SUPPRESSED_SENTINEL" Bundle.listD (va_A ws sz) U U.heap ∧ sP (va_A ws sz) e0 mi U U.heap ∧ ∀ y, els y → eP C U U.heap y ∧ ¬ va_A ws sz y)
theorem gp_blind {D : va_G} {tys : List (ClassId × FieldType)} {ws : va_W} {av : List Value} {sz e0 mi : Nat} {C : String} {els : Nat → Prop} : FrameBlind (gP D tys ws av sz e0 mi C els) := fun a U g mk q => by
  obtain ⟨q0, q1, qP, qK, qD, qN, qU, qV, qS, qE⟩ := q
  exact ⟨q0, q1, qP, va_K.moved (u := U) (U := U.calling g mk a) (Vm.Alike.refl U.vm) qK, qD, nW.same (s := U) (U := U.calling g mk a) rfl qN, vx_Zq.moved (u := U) (U := U.calling g mk a) (Vm.Alike.refl U.vm) qU, vx_Zq.moved (u := U) (U := U.calling g mk a) (Vm.Alike.refl U.vm) qV, sP.moved (u := U) (U := U.calling g mk a) (Vm.Alike.refl U.vm) qS, fun y hy => ⟨eP.moved (u := U) (U := U.calling g mk a) (Vm.Alike.refl U.vm) (qE y hy).1, (qE y hy).2⟩⟩
theorem notA {D : va_G} {cl : List vw_C} {A0 : Nat → Prop} {wc wr : va_W} {H : Heap} (hP : va_P D cl (wc ++ wr) H) (hD : va_D A0 (wc ++ wr)) {q : Nat × va_E} (hq : q ∈ wr) : ¬ va_A wc H.size q.1 := by
  obtain ⟨d1, d2⟩ := ba_D.mp hD
  rw [List.map_append] at d1
  obtain ⟨dc, dr, dx⟩ := List.nodup_append.mp d1
  intro hA
  rcases hA with ⟨k, e, hk⟩ | hge
  · exact dx q.1 (List.mem_map.mpr ⟨(q.1, e), List.mem_of_getElem? hk, rfl⟩) q.1 (List.mem_map.mpr ⟨q, hq, rfl⟩) rfl
  · exact absurd (ba_P.mp hP q (List.mem_append_right _ hq)).lt (Nat.not_lt.mpr hge)
theorem lPre2 {s : State} {H : Heap} {locs : List Loc} {A : Nat → Prop} {D : va_G} {tys : List (ClassId × FieldType)} {wc wr : va_W} {e0 mi : Nat} {C : String} {els' : Nat → Prop} (hP : va_P D cls (wc ++ wr) H) (hD : va_D A (wc ++ wr)) (hK : va_K D cls tys s) (hN : nW s) (hS : va_S A s.heap H locs) (hA : ∀ q, s.heap.size ≤ q → A q) (hsP : sP A e0 mi s s.heap) (hE2 : ∀ y, els' y → eP C s H y ∧ ¬ va_A wc H.size y) (U : State) (hU : U.heap = H) (hW : s.WarmedH U.vm) :
    U.heap.size = H.size ∧ va_P D cls wc U.heap ∧ va_K D cls tys U ∧ va_D (fun _ => True) wc ∧ nW U ∧ sP (va_A wc H.size) e0 mi U U.heap ∧ ∀ y, els' y → eP C U U.heap y ∧ ¬ va_A wc H.size y := by
  have hF := ba_free hD hS hA
  refine ⟨by rw [hU], by rw [hU]; exact ba_Pl hP, va_K.moved hW.alike hK, (ba_Dl hD).weaken (fun _ _ _ _ => trivial), hN.warm hW, ?_, fun y hy => ?_⟩
  · rw [hU]; exact ((hsP.kept hS.2.1).narrow hF).moved hW.alike
  · rw [hU]; exact ⟨(hE2 y hy).1.moved hW.alike, (hE2 y hy).2⟩
theorem eOld {s : State} {H : Heap} {locs : List Loc} {A : Nat → Prop} {wc wr : va_W} {C : String} {y : Nat} (hD : va_D A (wc ++ wr)) (hS : va_S A s.heap H locs) (hA : ∀ q, s.heap.size ≤ q → A q) (h : eP C s s.heap y ∧ ¬ A y) : eP C s H y ∧ ¬ va_A wc H.size y :=
  ⟨h.1.kept (hS.2.1 y h.1.lt h.2), fun q => h.2 (ba_free hD hS hA y q)⟩
theorem ns8c {ns : Nat} (h : ns ≤ 8) (h1 : ¬ nI ns < 8) : nI ns = 8 := by
  rcases Nat.lt_or_ge ns 8 with q | q
  · exact absurd (show nI ns < nI 8 from nI_lt q (by omega)) h1
  · rw [show ns = 8 by omega]; rfl
theorem ns8d {ns : Nat} (h1 : nI ns < 8) : ¬ nI ns = 8 := fun e => by rw [e] at h1; exact absurd h1 (by decide)
theorem nn16c {ns : Nat} (h : ns ≤ 16) (h1 : ¬ nI ns < 16) : nI ns = 16 := by
  rcases Nat.lt_or_ge ns 16 with q | q
  · exact absurd (show nI ns < nI 16 from nI_lt q (by omega)) h1
  · rw [show ns = 16 by omega]; rfl
theorem nn16d {ns : Nat} (h1 : nI ns < 16) : ¬ nI ns = 16 := fun e => by rw [e] at h1; exact absurd h1 (by decide)
theorem iw216 {s : Int32} (h : ¬ bI (iw s 2 16) = 0) : ∃ m : Nat, 2 ≤ m ∧ m ≤ 16 ∧ s = nI m := by
  have h := bI_ne0 h
  have e2 : (2 : Int32).toInt = 2 := rfl
  have e16 : (16 : Int32).toInt = 16 := rfl
  simp only [iw, Bool.and_eq_true, decide_eq_true_eq] at h
  exact ⟨s.toInt.toNat, by omega, by omega, nat_of (by omega)⟩

set_option maxHeartbeats 4000000 in
set_option maxRecDepth 100000 in
/-- shape(s) -/
theorem c_M_shapeV_ok (l : Launch) (hlt : l.stackTraces = false) (D : va_G) (cI cZ cJ cO : ClassId) (sz e0 mi : Nat) (o r0 l1 l2 l3 bb : Nat) (x1 : Int32) (s9 : Int32) : vx_Met l y_M_shape (wq y_M_shape c_M_shape 2 (some .int)) ({ frames := 7, cells := 3, slots := 40, locals := 191 }) (gP D (TY cI cZ cJ cO) [(o, .inr (3, [.ref r0, .ref l1, .ref l2, .ref l3, .ref bb])), (l1, .inr (0, [.int x1, .ref e0, .int 0]))] [.ref o, .int s9] sz e0 mi "RubbingMirrors$Shape" (fun y => False)) (va_Qi (fun (r : Int32) (u : va_W) => cSha s9 0 = 0 ∧ r = nI 0 ∧ ∃ (m q sa ea1 cap1 : Nat) (f1 : Nat → Option Nat), s9 = nI m ∧ 2 ≤ m ∧ m ≤ 16 ∧ u = [(o, .inr (3, [.ref r0, .ref l1, .ref l2, .ref l3, .ref bb])), (l1, .inr (0, [.int (x1 + 1), .ref ea1, .int (nI (0 + 1))])), (ea1, .inl (cO, cap1, .inr (.inr (.inr (.inr f1))))), (q, .inr (4, [.ref sa])), (sa, .inl (cI, m, .inl (fun _ => 128)))] ∧ 0 + 1 ≤ cap1 ∧ cap1 = 10 ∧ (∀ i, i < 0 → f1 i = (fun _ => none) i) ∧ f1 0 = some q) (mB D (TY cI cZ cJ cO) (va_A [(o, .inr (3, [.ref r0, .ref l1, .ref l2, .ref l3, .ref bb])), (l1, .inr (0, [.int x1, .ref e0, .int 0]))] sz)) (va_A [(o, .inr (3, [.ref r0, .ref l1, .ref l2, .ref l3, .ref bb])), (l1, .inr (0, [.int x1, .ref e0, .int 0]))] sz)) (vx_X (fun (u : va_W) => u = [(o, .inr (3, [.ref r0, .ref l1, .ref l2, .ref l3, .ref bb])), (l1, .inr (0, [.int x1, .ref e0, .int 0]))]) (xB D (TY cI cZ cJ cO) (va_A [(o, .inr (3, [.ref r0, .ref l1, .ref l2, .ref l3, .ref bb])), (l1, .inr (0, [.int x1, .ref e0, .int 0]))] sz) (fun E => (cSha s9 0 = 1 ∧ E = eA) ∨ (cSha s9 0 = 2 ∧ E = eS))) (va_A [(o, .inr (3, [.ref r0, .ref l1, .ref l2, .ref l3, .ref bb])), (l1, .inr (0, [.int x1, .ref e0, .int 0]))] sz)) 3 40 (va_A [(o, .inr (3, [.ref r0, .ref l1, .ref l2, .ref l3, .ref bb])), (l1, .inr (0, [.int x1, .ref e0, .int 0]))] sz) := by
  refine vx_ofW (cc := c_M_shape) (maxL := 2) (ret := (some .int)) (by decide) rfl ?_
  intro p e s m args below meth c s₁ B hml hno hv
  obtain ⟨rfl, hsz, hP, hK, hD0, hN, hU, hV, hsP, hEl⟩ := hv
  have hx := B.exec
  have hb := B.bytes
  have hr := B.returns
  have hg := gt_h (atoms_spec (ws := (wq y_M_shape c_M_shape 2 (some .int))) B.pre)
  have hown : s.vm.findClass "RubbingMirrors" = some m.cls := findClass_of_methodNamed B.named
  have hlocks := B.notSynchronized
  subst hsz
  have hD := hD0.self (sz := s.heap.size)
  generalize hAe : va_A [(o, .inr (3, [.ref r0, .ref l1, .ref l2, .ref l3, .ref bb])), (l1, .inr (0, [.int x1, .ref e0, .int 0]))] s.heap.size = A at hD hU hV hsP hEl ⊢
  have hA : ∀ q : Nat, s.heap.size ≤ q → A q := fun q h => by rw [← hAe]; exact Or.inr h
  have hS : va_S A s.heap s.heap [] := va_S.rf
  have hl := lv_entry ([.ref o, .int s9]) (n := 2) (Nat.le_of_ble_eq_true rfl)
  rw [lg_entry_eq]
  generalize (lg_sl ([.ref o, .int s9]) ++ List.replicate (2 - (lg_sl ([.ref o, .int s9])).length) Slot.unset).toArray = ls at hl ⊢
  have hl : lv_has ls 2 [(0, .ref o), (1, .int s9)] := hl
  refine lv_iload_n hx hb d_M_shape_0 rfl (lv_at hl 1 rfl) ?_
  refine lv_iconst (v := 2) hx hb d_M_shape_1 (by decide) ?_
  refine lv_bipush (v := 16) hx hb d_M_shape_2 (by decide) ?_
  refine vp_callSi (va_Run.run (va_runS (As := [.int s9, .int 2, .int 16]) (rest := []) ⟨hx, hb, hml, hown, hg⟩ (c_M_isWithin_ok l D cI cZ cJ cO s9 2 16) (va_cwS 3 hg (gs2 g_233 g_234 g_18 g_235) rfl rfl rfl (by decide +kernel) ⟨Nat.le_of_ble_eq_true rfl, Nat.le_of_ble_eq_true rfl⟩) (pS ba_nil hK hN) rfl rfl hl.1 rfl (lv_room (Nat.le_of_ble_eq_true rfl)) d_M_shape_4 ⟨Nat.zero_le _, Nat.zero_le _⟩)) (fun r_1 hr_1 => ?_)
  subst hr_1
  refine lv_if_ne (tgt := 20) hx hb d_M_shape_7 (by decide) (fun c_7 => ?_) (fun c_7 => ?_)
  · obtain ⟨m9, hm1, hm2, rfl⟩ := iw216 c_7
    refine lv_aload_n hx hb d_M_shape_20 rfl (lv_at hl 0 rfl) ?_
    refine va_get (D := D) (ci := 3) (v := .ref l1) (C := Q_M) (T := F_M) (N := 5) hx hb hg in_M hown hK hP 0 rfl rfl 1 (by decide) (hg _ g_126) (fun _ h9 => h9) rfl d_M_shape_21 ?_
    refine vp_callSi (va_Run.run (va_runV (As := []) (rest := []) ⟨hx, hb, hml, hown, hg⟩ (c_A_size_ok l D cI cZ cJ cO l1 x1 0 e0) (cwV 0 hg (gv g_378 g_379 g_380 g_21 g_381) rfl rfl rfl (by decide +kernel) ⟨Nat.le_of_ble_eq_true rfl, Nat.le_of_ble_eq_true rfl⟩) (pV (hP.sub [1] rfl) hK hN (va_recv hK (hP.sub [1] rfl) (ci := 0) (q0 := 0) rfl rfl)) rfl rfl hl.1 rfl (lv_room (Nat.le_of_ble_eq_true rfl)) d_M_shape_24 ⟨Nat.zero_le _, Nat.zero_le _⟩)) (fun r_2 hr_2 => ?_)
    subst hr_2
    refine lv_bipush (v := 8) hx hb d_M_shape_27 (by decide) ?_
    refine lv_icmp_lt (tgt := 42) hx hb d_M_shape_29 (by decide) (fun c_29 => ?_) (fun c_29 => ?_)
    · refine lv_aload_n hx hb d_M_shape_42 rfl (lv_at hl 0 rfl) ?_
      refine va_get (D := D) (ci := 3) (v := .ref l1) (C := Q_M) (T := F_M) (N := 5) hx hb hg in_M hown hK hP 0 rfl rfl 1 (by decide) (hg _ g_126) (fun _ h9 => h9) rfl d_M_shape_43 ?_
      refine va_new (ci := 4) (fs := [.null]) (C := Q_S) (T := F_S) (N := 1) hx hb hg in_S tq_S tq_S_ok hown (hg _ g_383) (hg _ g_384) (hg _ g_33) hK hP hD hS hA rfl (fun j hj => by rcases (show j = 0 by omega) with rfl <;> rfl) (show 0 + 1 ≤ 3 by omega) (show 0 + 1 ≤ 40 by omega) d_M_shape_46 (fun q_46 H hP hD hS => ?_)
      refine W.widen (k := 1) (n := 1) (by omega) (by omega) ?_
      have hP : va_P D cls [(o, .inr (3, [.ref r0, .ref l1, .ref l2, .ref l3, .ref bb])), (l1, .inr (0, [.int x1, .ref e0, .int 0])), (q_46, .inr (4, [.null]))] H := hP
      have hD : va_D A [(o, .inr (3, [.ref r0, .ref l1, .ref l2, .ref l3, .ref bb])), (l1, .inr (0, [.int x1, .ref e0, .int 0])), (q_46, .inr (4, [.null]))] := hD
      refine lv_dup hx hb d_M_shape_49 rfl ?_
      refine lv_iload_n hx hb d_M_shape_50 rfl (lv_at hl 1 rfl) ?_
      have hP := hP.sub (ws' := [(q_46, .inr (4, [.null]))] ++ [(o, .inr (3, [.ref r0, .ref l1, .ref l2, .ref l3, .ref bb])), (l1, .inr (0, [.int x1, .ref e0, .int 0]))]) [2, 0, 1] rfl
      have hD := hD.sub (ws' := [(q_46, .inr (4, [.null]))] ++ [(o, .inr (3, [.ref r0, .ref l1, .ref l2, .ref l3, .ref bb])), (l1, .inr (0, [.int x1, .ref e0, .int 0]))]) [2, 0, 1] (by decide) rfl
      refine mcallv (wc := [(q_46, .inr (4, [.null]))]) (wr := [(o, .inr (3, [.ref r0, .ref l1, .ref l2, .ref l3, .ref bb])), (l1, .inr (0, [.int x1, .ref e0, .int 0]))]) (va_runI (As := [.int (nI m9)]) (rest := [.ref q_46, .ref l1]) ⟨hx, hb, hml, hown, hg⟩ (c_S_init_ok l D cI cZ cJ cO H.size q_46 m9 (by omega)) (cwI 1 hg (gq g_387) rfl rfl rfl (hg _ g_33) (hg _ g_385) (hg _ g_386) rfl (by decide +kernel) ⟨Nat.le_of_ble_eq_true rfl, Nat.le_of_ble_eq_true rfl⟩) (mS (As := .ref q_46 :: [.int (nI m9)]) (ba_Pl hP) hK hN (ba_Dl hD)) rfl rfl hl.1 rfl (lv_room (Nat.le_of_ble_eq_true rfl)) d_M_shape_51 ⟨Nat.le_of_ble_eq_true rfl, Nat.le_of_ble_eq_true rfl⟩) hP hD hS hA (fun u_3 H locs hu_3 hP hD hS => ?_)
      obtain ⟨sa, rfl⟩ := hu_3
      have hP : va_P D cls [(q_46, .inr (4, [.ref sa])), (sa, .inl (cI, m9, .inl (fun _ => 128))), (o, .inr (3, [.ref r0, .ref l1, .ref l2, .ref l3, .ref bb])), (l1, .inr (0, [.int x1, .ref e0, .int 0]))] H := hP
      have hD : va_D A [(q_46, .inr (4, [.ref sa])), (sa, .inl (cI, m9, .inl (fun _ => 128))), (o, .inr (3, [.ref r0, .ref l1, .ref l2, .ref l3, .ref bb])), (l1, .inr (0, [.int x1, .ref e0, .int 0]))] := hD
      refine W.widen (k := 2) (n := 17) (by omega) (by omega) ?_
      have hP := hP.sub (ws' := [(l1, .inr (0, [.int x1, .ref e0, .int 0]))] ++ [(q_46, .inr (4, [.ref sa])), (sa, .inl (cI, m9, .inl (fun _ => 128))), (o, .inr (3, [.ref r0, .ref l1, .ref l2, .ref l3, .ref bb]))]) [3, 0, 1, 2] rfl
      have hD := hD.sub (ws' := [(l1, .inr (0, [.int x1, .ref e0, .int 0]))] ++ [(q_46, .inr (4, [.ref sa])), (sa, .inl (cI, m9, .inl (fun _ => 128))), (o, .inr (3, [.ref r0, .ref l1, .ref l2, .ref l3, .ref bb]))]) [3, 0, 1, 2] (by decide) rfl
      refine mcalli (wc := [(l1, .inr (0, [.int x1, .ref e0, .int 0]))]) (wr := [(q_46, .inr (4, [.ref sa])), (sa, .inl (cI, m9, .inl (fun _ => 128))), (o, .inr (3, [.ref r0, .ref l1, .ref l2, .ref l3, .ref bb]))]) (va_runV (As := [.ref q_46]) (rest := []) ⟨hx, hb, hml, hown, hg⟩ (c_A_addV_ok l D cI cZ cJ cO H.size e0 mi "RubbingMirrors$Shape" nw_28 (fun y => y = q_46 ∨ False) l1 x1 q_46 (Or.inl rfl)) (cwV 1 hg (gv g_394 g_395 g_396 g_21 g_397) rfl rfl rfl (by decide +kernel) ⟨Nat.le_of_ble_eq_true rfl, Nat.le_of_ble_eq_true rfl⟩) ⟨lp_blind, va_recv hK (ba_Pl hP) (ci := 0) (q0 := 0) rfl rfl, fun U hU hW => ⟨rfl, lPre2 hP hD hK hN hS hA hsP (fun y hy => by rcases hy with rfl | hy; exact ⟨va_recv hK (ba_Pr hP) (ci := 4) (q0 := 0) rfl rfl, notA hP hD (List.mem_of_getElem? (i := 0) rfl)⟩; exact hy.elim) U hU hW⟩⟩ rfl rfl hl.1 rfl (lv_room (Nat.le_of_ble_eq_true rfl)) d_M_shape_54 ⟨Nat.le_of_ble_eq_true rfl, Nat.le_of_ble_eq_true rfl⟩) hP hD hS hA (fun r_6 u_5 H locs hu_5 hP hD hS => ?_)
      obtain ⟨rfl, ea1, cap1, f1, rfl, hcp1, hcp2, hf1, hf2⟩ := hu_5
      have hP : va_P D cls [(l1, .inr (0, [.int (x1 + 1), .ref ea1, .int (nI (0 + 1))])), (ea1, .inl (cO, cap1, .inr (.inr (.inr (.inr f1))))), (q_46, .inr (4, [.ref sa])), (sa, .inl (cI, m9, .inl (fun _ => 128))), (o, .inr (3, [.ref r0, .ref l1, .ref l2, .ref l3, .ref bb]))] H := hP
      have hD : va_D A [(l1, .inr (0, [.int (x1 + 1), .ref ea1, .int (nI (0 + 1))])), (ea1, .inl (cO, cap1, .inr (.inr (.inr (.inr f1))))), (q_46, .inr (4, [.ref sa])), (sa, .inl (cI, m9, .inl (fun _ => 128))), (o, .inr (3, [.ref r0, .ref l1, .ref l2, .ref l3, .ref bb]))] := hD
      refine W.widen (k := 3) (n := 39) (by omega) (by omega) ?_
      refine lv_pop hx hb d_M_shape_57 rfl ?_
      refine lv_aload_n hx hb d_M_shape_58 rfl (lv_at hl 0 rfl) ?_
      refine va_get (D := D) (ci := 3) (v := .ref l1) (C := Q_M) (T := F_M) (N := 5) hx hb hg in_M hown hK hP 4 rfl rfl 1 (by decide) (hg _ g_126) (fun _ h9 => h9) rfl d_M_shape_59 ?_
      refine vp_callSi (va_Run.run (va_runV (As := []) (rest := []) ⟨hx, hb, hml, hown, hg⟩ (c_A_size_ok l D cI cZ cJ cO l1 (x1 + 1) (nI (0 + 1)) ea1) (cwV 0 hg (gv g_378 g_379 g_380 g_21 g_381) rfl rfl rfl (by decide +kernel) ⟨Nat.le_of_ble_eq_true rfl, Nat.le_of_ble_eq_true rfl⟩) (pV (hP.sub [0] rfl) hK hN (va_recv hK (hP.sub [0] rfl) (ci := 0) (q0 := 0) rfl rfl)) rfl rfl hl.1 rfl (lv_room (Nat.le_of_ble_eq_true rfl)) d_M_shape_62 ⟨Nat.le_of_ble_eq_true rfl, Nat.le_of_ble_eq_true rfl⟩)) (fun r_7 hr_7 => ?_)
      subst hr_7
      refine lv_iconst (v := 1) hx hb d_M_shape_65 (by decide) ?_
      refine lv_isub hx hb d_M_shape_66 ?_
      have hP := hP.sub (ws' := [(o, .inr (3, [.ref r0, .ref l1, .ref l2, .ref l3, .ref bb])), (l1, .inr (0, [.int (x1 + 1), .ref ea1, .int (nI (0 + 1))])), (ea1, .inl (cO, cap1, .inr (.inr (.inr (.inr f1))))), (q_46, .inr (4, [.ref sa])), (sa, .inl (cI, m9, .inl (fun _ => 128)))]) [4, 0, 1, 2, 3] rfl
      have hD := hD.sub (ws' := [(o, .inr (3, [.ref r0, .ref l1, .ref l2, .ref l3, .ref bb])), (l1, .inr (0, [.int (x1 + 1), .ref ea1, .int (nI (0 + 1))])), (ea1, .inl (cO, cap1, .inr (.inr (.inr (.inr f1))))), (q_46, .inr (4, [.ref sa])), (sa, .inl (cI, m9, .inl (fun _ => 128)))]) [4, 0, 1, 2, 3] (by decide) rfl
      refine vx_ret ?_
      refine W.widen (k := 3) (n := 40) (by omega) (by omega) ?_
      exact W.iret hx hb hr (fun t9 ht hW => ⟨⟨_, [(o, .inr (3, [.ref r0, .ref l1, .ref l2, .ref l3, .ref bb])), (l1, .inr (0, [.int (x1 + 1), .ref ea1, .int (nI (0 + 1))])), (ea1, .inl (cO, cap1, .inr (.inr (.inr (.inr f1))))), (q_46, .inr (4, [.ref sa])), (sa, .inl (cI, m9, .inl (fun _ => 128)))], rfl, ⟨ch_0 c_7 (by decide), nI_pred _, m9, q_46, sa, ea1, cap1, f1, rfl, hm1, hm2, rfl, hcp1, hcp2, hf1, hf2⟩, by rw [ht]; exact hP, va_K.moved hW.alike hK, hD⟩, hS.F ht⟩) hS.2.2 d_M_shape_67
    · exact absurd c_29 (by decide)
  · exact thrw hx hb hlt hown hg hN x_A st_127 hU hV hS (by rw [hml]; exact hl.1) d_M_shape_10 d_M_shape_13 d_M_shape_14 d_M_shape_16 d_M_shape_19 hno (Nat.le_of_ble_eq_true rfl) (Nat.le_of_ble_eq_true rfl) (Nat.le_of_ble_eq_true rfl) (Nat.le_of_ble_eq_true rfl) hlocks hP hK hD rfl (Or.inl ⟨ch_1 c_7, rfl⟩) (Nat.le_of_ble_eq_true rfl) (Nat.le_of_ble_eq_true rfl)

set_option maxHeartbeats 4000000 in
set_option maxRecDepth 100000 in
/-- shape(s) -/
theorem c_M_shapeN_ok (l : Launch) (hlt : l.stackTraces = false) (D : va_G) (cI cZ cJ cO : ClassId) (sz e0 mi : Nat) (o r0 l1 l2 l3 bb : Nat) (x1 : Int32) (ea c9 n1 : Nat) (f : Nat → Option Nat) (hc9 : c9 ≤ 8) (hcn : c9 < n1) (hn1 : n1 ≤ 22) (s9 : Int32) : vx_Met l y_M_shape (wq y_M_shape c_M_shape 2 (some .int)) ({ frames := 7, cells := 3, slots := 40, locals := 191 }) (gP D (TY cI cZ cJ cO) [(o, .inr (3, [.ref r0, .ref l1, .ref l2, .ref l3, .ref bb])), (l1, .inr (0, [.int x1, .ref ea, .int (nI c9)])), (ea, .inl (cO, n1, .inr (.inr (.inr (.inr f)))))] [.ref o, .int s9] sz e0 mi "RubbingMirrors$Shape" (fun y => False)) (va_Qi (fun (r : Int32) (u : va_W) => cSha s9 c9 = 0 ∧ r = nI c9 ∧ ∃ (m q sa ea1 cap1 : Nat) (f1 : Nat → Option Nat), s9 = nI m ∧ 2 ≤ m ∧ m ≤ 16 ∧ u = [(o, .inr (3, [.ref r0, .ref l1, .ref l2, .ref l3, .ref bb])), (l1, .inr (0, [.int (x1 + 1), .ref ea1, .int (nI (c9 + 1))])), (ea1, .inl (cO, cap1, .inr (.inr (.inr (.inr f1))))), (q, .inr (4, [.ref sa])), (sa, .inl (cI, m, .inl (fun _ => 128)))] ∧ c9 + 1 ≤ cap1 ∧ cap1 = n1 ∧ (∀ i, i < c9 → f1 i = f i) ∧ f1 c9 = some q) (mB D (TY cI cZ cJ cO) (va_A [(o, .inr (3, [.ref r0, .ref l1, .ref l2, .ref l3, .ref bb])), (l1, .inr (0, [.int x1, .ref ea, .int (nI c9)])), (ea, .inl (cO, n1, .inr (.inr (.inr (.inr f)))))] sz)) (va_A [(o, .inr (3, [.ref r0, .ref l1, .ref l2, .ref l3, .ref bb])), (l1, .inr (0, [.int x1, .ref ea, .int (nI c9)])), (ea, .inl (cO, n1, .inr (.inr (.inr (.inr f)))))] sz)) (vx_X (fun (u : va_W) => u = [(o, .inr (3, [.ref r0, .ref l1, .ref l2, .ref l3, .ref bb])), (l1, .inr (0, [.int x1, .ref ea, .int (nI c9)])), (ea, .inl (cO, n1, .inr (.inr (.inr (.inr f)))))]) (xB D (TY cI cZ cJ cO) (va_A [(o, .inr (3, [.ref r0, .ref l1, .ref l2, .ref l3, .ref bb])), (l1, .inr (0, [.int x1, .ref ea, .int (nI c9)])), (ea, .inl (cO, n1, .inr (.inr (.inr (.inr f)))))] sz) (fun E => (cSha s9 c9 = 1 ∧ E = eA) ∨ (cSha s9 c9 = 2 ∧ E = eS))) (va_A [(o, .inr (3, [.ref r0, .ref l1, .ref l2, .ref l3, .ref bb])), (l1, .inr (0, [.int x1, .ref ea, .int (nI c9)])), (ea, .inl (cO, n1, .inr (.inr (.inr (.inr f)))))] sz)) 3 40 (va_A [(o, .inr (3, [.ref r0, .ref l1, .ref l2, .ref l3, .ref bb])), (l1, .inr (0, [.int x1, .ref ea, .int (nI c9)])), (ea, .inl (cO, n1, .inr (.inr (.inr (.inr f)))))] sz) := by
  refine vx_ofW (cc := c_M_shape) (maxL := 2) (ret := (some .int)) (by decide) rfl ?_
  intro p e s m args below meth c s₁ B hml hno hv
  obtain ⟨rfl, hsz, hP, hK, hD0, hN, hU, hV, hsP, hEl⟩ := hv
  have hx := B.exec
  have hb := B.bytes
  have hr := B.returns
  have hg := gt_h (atoms_spec (ws := (wq y_M_shape c_M_shape 2 (some .int))) B.pre)
  have hown : s.vm.findClass "RubbingMirrors" = some m.cls := findClass_of_methodNamed B.named
  have hlocks := B.notSynchronized
  subst hsz
  have hD := hD0.self (sz := s.heap.size)
  generalize hAe : va_A [(o, .inr (3, [.ref r0, .ref l1, .ref l2, .ref l3, .ref bb])), (l1, .inr (0, [.int x1, .ref ea, .int (nI c9)])), (ea, .inl (cO, n1, .inr (.inr (.inr (.inr f)))))] s.heap.size = A at hD hU hV hsP hEl ⊢
  have hA : ∀ q : Nat, s.heap.size ≤ q → A q := fun q h => by rw [← hAe]; exact Or.inr h
  have hS : va_S A s.heap s.heap [] := va_S.rf
  have hl := lv_entry ([.ref o, .int s9]) (n := 2) (Nat.le_of_ble_eq_true rfl)
  rw [lg_entry_eq]
  generalize (lg_sl ([.ref o, .int s9]) ++ List.replicate (2 - (lg_sl ([.ref o, .int s9])).length) Slot.unset).toArray = ls at hl ⊢
  have hl : lv_has ls 2 [(0, .ref o), (1, .int s9)] := hl
  refine lv_iload_n hx hb d_M_shape_0 rfl (lv_at hl 1 rfl) ?_
  refine lv_iconst (v := 2) hx hb d_M_shape_1 (by decide) ?_
  refine lv_bipush (v := 16) hx hb d_M_shape_2 (by decide) ?_
  refine vp_callSi (va_Run.run (va_runS (As := [.int s9, .int 2, .int 16]) (rest := []) ⟨hx, hb, hml, hown, hg⟩ (c_M_isWithin_ok l D cI cZ cJ cO s9 2 16) (va_cwS 3 hg (gs2 g_233 g_234 g_18 g_235) rfl rfl rfl (by decide +kernel) ⟨Nat.le_of_ble_eq_true rfl, Nat.le_of_ble_eq_true rfl⟩) (pS ba_nil hK hN) rfl rfl hl.1 rfl (lv_room (Nat.le_of_ble_eq_true rfl)) d_M_shape_4 ⟨Nat.zero_le _, Nat.zero_le _⟩)) (fun r_1 hr_1 => ?_)
  subst hr_1
  refine lv_if_ne (tgt := 20) hx hb d_M_shape_7 (by decide) (fun c_7 => ?_) (fun c_7 => ?_)
  · obtain ⟨m9, hm1, hm2, rfl⟩ := iw216 c_7
    refine lv_aload_n hx hb d_M_shape_20 rfl (lv_at hl 0 rfl) ?_
    refine va_get (D := D) (ci := 3) (v := .ref l1) (C := Q_M) (T := F_M) (N := 5) hx hb hg in_M hown hK hP 0 rfl rfl 1 (by decide) (hg _ g_126) (fun _ h9 => h9) rfl d_M_shape_21 ?_
    refine vp_callSi (va_Run.run (va_runV (As := []) (rest := []) ⟨hx, hb, hml, hown, hg⟩ (c_A_size_ok l D cI cZ cJ cO l1 x1 (nI c9) ea) (cwV 0 hg (gv g_378 g_379 g_380 g_21 g_381) rfl rfl rfl (by decide +kernel) ⟨Nat.le_of_ble_eq_true rfl, Nat.le_of_ble_eq_true rfl⟩) (pV (hP.sub [1] rfl) hK hN (va_recv hK (hP.sub [1] rfl) (ci := 0) (q0 := 0) rfl rfl)) rfl rfl hl.1 rfl (lv_room (Nat.le_of_ble_eq_true rfl)) d_M_shape_24 ⟨Nat.zero_le _, Nat.zero_le _⟩)) (fun r_2 hr_2 => ?_)
    subst hr_2
    refine lv_bipush (v := 8) hx hb d_M_shape_27 (by decide) ?_
    refine lv_icmp_lt (tgt := 42) hx hb d_M_shape_29 (by decide) (fun c_29 => ?_) (fun c_29 => ?_)
    · refine lv_aload_n hx hb d_M_shape_42 rfl (lv_at hl 0 rfl) ?_
      refine va_get (D := D) (ci := 3) (v := .ref l1) (C := Q_M) (T := F_M) (N := 5) hx hb hg in_M hown hK hP 0 rfl rfl 1 (by decide) (hg _ g_126) (fun _ h9 => h9) rfl d_M_shape_43 ?_
      refine va_new (ci := 4) (fs := [.null]) (C := Q_S) (T := F_S) (N := 1) hx hb hg in_S tq_S tq_S_ok hown (hg _ g_383) (hg _ g_384) (hg _ g_33) hK hP hD hS hA rfl (fun j hj => by rcases (show j = 0 by omega) with rfl <;> rfl) (show 0 + 1 ≤ 3 by omega) (show 0 + 1 ≤ 40 by omega) d_M_shape_46 (fun q_46 H hP hD hS => ?_)
      refine W.widen (k := 1) (n := 1) (by omega) (by omega) ?_
      have hP : va_P D cls [(o, .inr (3, [.ref r0, .ref l1, .ref l2, .ref l3, .ref bb])), (l1, .inr (0, [.int x1, .ref ea, .int (nI c9)])), (ea, .inl (cO, n1, .inr (.inr (.inr (.inr f))))), (q_46, .inr (4, [.null]))] H := hP
      have hD : va_D A [(o, .inr (3, [.ref r0, .ref l1, .ref l2, .ref l3, .ref bb])), (l1, .inr (0, [.int x1, .ref ea, .int (nI c9)])), (ea, .inl (cO, n1, .inr (.inr (.inr (.inr f))))), (q_46, .inr (4, [.null]))] := hD
      refine lv_dup hx hb d_M_shape_49 rfl ?_
      refine lv_iload_n hx hb d_M_shape_50 rfl (lv_at hl 1 rfl) ?_
      have hP := hP.sub (ws' := [(q_46, .inr (4, [.null]))] ++ [(o, .inr (3, [.ref r0, .ref l1, .ref l2, .ref l3, .ref bb])), (l1, .inr (0, [.int x1, .ref ea, .int (nI c9)])), (ea, .inl (cO, n1, .inr (.inr (.inr (.inr f)))))]) [3, 0, 1, 2] rfl
      have hD := hD.sub (ws' := [(q_46, .inr (4, [.null]))] ++ [(o, .inr (3, [.ref r0, .ref l1, .ref l2, .ref l3, .ref bb])), (l1, .inr (0, [.int x1, .ref ea, .int (nI c9)])), (ea, .inl (cO, n1, .inr (.inr (.inr (.inr f)))))]) [3, 0, 1, 2] (by decide) rfl
      refine mcallv (wc := [(q_46, .inr (4, [.null]))]) (wr := [(o, .inr (3, [.ref r0, .ref l1, .ref l2, .ref l3, .ref bb])), (l1, .inr (0, [.int x1, .ref ea, .int (nI c9)])), (ea, .inl (cO, n1, .inr (.inr (.inr (.inr f)))))]) (va_runI (As := [.int (nI m9)]) (rest := [.ref q_46, .ref l1]) ⟨hx, hb, hml, hown, hg⟩ (c_S_init_ok l D cI cZ cJ cO H.size q_46 m9 (by omega)) (cwI 1 hg (gq g_387) rfl rfl rfl (hg _ g_33) (hg _ g_385) (hg _ g_386) rfl (by decide +kernel) ⟨Nat.le_of_ble_eq_true rfl, Nat.le_of_ble_eq_true rfl⟩) (mS (As := .ref q_46 :: [.int (nI m9)]) (ba_Pl hP) hK hN (ba_Dl hD)) rfl rfl hl.1 rfl (lv_room (Nat.le_of_ble_eq_true rfl)) d_M_shape_51 ⟨Nat.le_of_ble_eq_true rfl, Nat.le_of_ble_eq_true rfl⟩) hP hD hS hA (fun u_3 H locs hu_3 hP hD hS => ?_)
      obtain ⟨sa, rfl⟩ := hu_3
      have hP : va_P D cls [(q_46, .inr (4, [.ref sa])), (sa, .inl (cI, m9, .inl (fun _ => 128))), (o, .inr (3, [.ref r0, .ref l1, .ref l2, .ref l3, .ref bb])), (l1, .inr (0, [.int x1, .ref ea, .int (nI c9)])), (ea, .inl (cO, n1, .inr (.inr (.inr (.inr f)))))] H := hP
      have hD : va_D A [(q_46, .inr (4, [.ref sa])), (sa, .inl (cI, m9, .inl (fun _ => 128))), (o, .inr (3, [.ref r0, .ref l1, .ref l2, .ref l3, .ref bb])), (l1, .inr (0, [.int x1, .ref ea, .int (nI c9)])), (ea, .inl (cO, n1, .inr (.inr (.inr (.inr f)))))] := hD
      refine W.widen (k := 2) (n := 17) (by omega) (by omega) ?_
      have hP := hP.sub (ws' := [(l1, .inr (0, [.int x1, .ref ea, .int (nI c9)])), (ea, .inl (cO, n1, .inr (.inr (.inr (.inr f)))))] ++ [(q_46, .inr (4, [.ref sa])), (sa, .inl (cI, m9, .inl (fun _ => 128))), (o, .inr (3, [.ref r0, .ref l1, .ref l2, .ref l3, .ref bb]))]) [3, 4, 0, 1, 2] rfl
      have hD := hD.sub (ws' := [(l1, .inr (0, [.int x1, .ref ea, .int (nI c9)])), (ea, .inl (cO, n1, .inr (.inr (.inr (.inr f)))))] ++ [(q_46, .inr (4, [.ref sa])), (sa, .inl (cI, m9, .inl (fun _ => 128))), (o, .inr (3, [.ref r0, .ref l1, .ref l2, .ref l3, .ref bb]))]) [3, 4, 0, 1, 2] (by decide) rfl
      refine mcalli (wc := [(l1, .inr (0, [.int x1, .ref ea, .int (nI c9)])), (ea, .inl (cO, n1, .inr (.inr (.inr (.inr f)))))]) (wr := [(q_46, .inr (4, [.ref sa])), (sa, .inl (cI, m9, .inl (fun _ => 128))), (o, .inr (3, [.ref r0, .ref l1, .ref l2, .ref l3, .ref bb]))]) (va_runV (As := [.ref q_46]) (rest := []) ⟨hx, hb, hml, hown, hg⟩ (c_A_addN_ok l D cI cZ cJ cO H.size e0 mi "RubbingMirrors$Shape" nw_28 (fun y => y = q_46 ∨ False) l1 x1 ea c9 n1 f (by omega) (by omega) q_46 (Or.inl rfl)) (cwV 1 hg (gv g_394 g_395 g_396 g_21 g_397) rfl rfl rfl (by decide +kernel) ⟨Nat.le_of_ble_eq_true rfl, Nat.le_of_ble_eq_true rfl⟩) ⟨lp_blind, va_recv hK (ba_Pl hP) (ci := 0) (q0 := 0) rfl rfl, fun U hU hW => ⟨rfl, lPre2 hP hD hK hN hS hA hsP (fun y hy => by rcases hy with rfl | hy; exact ⟨va_recv hK (ba_Pr hP) (ci := 4) (q0 := 0) rfl rfl, notA hP hD (List.mem_of_getElem? (i := 0) rfl)⟩; exact hy.elim) U hU hW⟩⟩ rfl rfl hl.1 rfl (lv_room (Nat.le_of_ble_eq_true rfl)) d_M_shape_54 ⟨Nat.le_of_ble_eq_true rfl, Nat.le_of_ble_eq_true rfl⟩) hP hD hS hA (fun r_6 u_5 H locs hu_5 hP hD hS => ?_)
      obtain ⟨rfl, ea1, cap1, f1, rfl, hcp1, hcp2, hf1, hf2⟩ := hu_5
      have hP : va_P D cls [(l1, .inr (0, [.int (x1 + 1), .ref ea1, .int (nI (c9 + 1))])), (ea1, .inl (cO, cap1, .inr (.inr (.inr (.inr f1))))), (q_46, .inr (4, [.ref sa])), (sa, .inl (cI, m9, .inl (fun _ => 128))), (o, .inr (3, [.ref r0, .ref l1, .ref l2, .ref l3, .ref bb]))] H := hP
      have hD : va_D A [(l1, .inr (0, [.int (x1 + 1), .ref ea1, .int (nI (c9 + 1))])), (ea1, .inl (cO, cap1, .inr (.inr (.inr (.inr f1))))), (q_46, .inr (4, [.ref sa])), (sa, .inl (cI, m9, .inl (fun _ => 128))), (o, .inr (3, [.ref r0, .ref l1, .ref l2, .ref l3, .ref bb]))] := hD
      refine W.widen (k := 3) (n := 39) (by omega) (by omega) ?_
      refine lv_pop hx hb d_M_shape_57 rfl ?_
      refine lv_aload_n hx hb d_M_shape_58 rfl (lv_at hl 0 rfl) ?_
      refine va_get (D := D) (ci := 3) (v := .ref l1) (C := Q_M) (T := F_M) (N := 5) hx hb hg in_M hown hK hP 4 rfl rfl 1 (by decide) (hg _ g_126) (fun _ h9 => h9) rfl d_M_shape_59 ?_
      refine vp_callSi (va_Run.run (va_runV (As := []) (rest := []) ⟨hx, hb, hml, hown, hg⟩ (c_A_size_ok l D cI cZ cJ cO l1 (x1 + 1) (nI (c9 + 1)) ea1) (cwV 0 hg (gv g_378 g_379 g_380 g_21 g_381) rfl rfl rfl (by decide +kernel) ⟨Nat.le_of_ble_eq_true rfl, Nat.le_of_ble_eq_true rfl⟩) (pV (hP.sub [0] rfl) hK hN (va_recv hK (hP.sub [0] rfl) (ci := 0) (q0 := 0) rfl rfl)) rfl rfl hl.1 rfl (lv_room (Nat.le_of_ble_eq_true rfl)) d_M_shape_62 ⟨Nat.le_of_ble_eq_true rfl, Nat.le_of_ble_eq_true rfl⟩)) (fun r_7 hr_7 => ?_)
      subst hr_7
      refine lv_iconst (v := 1) hx hb d_M_shape_65 (by decide) ?_
      refine lv_isub hx hb d_M_shape_66 ?_
      have hP := hP.sub (ws' := [(o, .inr (3, [.ref r0, .ref l1, .ref l2, .ref l3, .ref bb])), (l1, .inr (0, [.int (x1 + 1), .ref ea1, .int (nI (c9 + 1))])), (ea1, .inl (cO, cap1, .inr (.inr (.inr (.inr f1))))), (q_46, .inr (4, [.ref sa])), (sa, .inl (cI, m9, .inl (fun _ => 128)))]) [4, 0, 1, 2, 3] rfl
      have hD := hD.sub (ws' := [(o, .inr (3, [.ref r0, .ref l1, .ref l2, .ref l3, .ref bb])), (l1, .inr (0, [.int (x1 + 1), .ref ea1, .int (nI (c9 + 1))])), (ea1, .inl (cO, cap1, .inr (.inr (.inr (.inr f1))))), (q_46, .inr (4, [.ref sa])), (sa, .inl (cI, m9, .inl (fun _ => 128)))]) [4, 0, 1, 2, 3] (by decide) rfl
      refine vx_ret ?_
      refine W.widen (k := 3) (n := 40) (by omega) (by omega) ?_
      exact W.iret hx hb hr (fun t9 ht hW => ⟨⟨_, [(o, .inr (3, [.ref r0, .ref l1, .ref l2, .ref l3, .ref bb])), (l1, .inr (0, [.int (x1 + 1), .ref ea1, .int (nI (c9 + 1))])), (ea1, .inl (cO, cap1, .inr (.inr (.inr (.inr f1))))), (q_46, .inr (4, [.ref sa])), (sa, .inl (cI, m9, .inl (fun _ => 128)))], rfl, ⟨ch_0 c_7 (ns8d c_29), nI_pred _, m9, q_46, sa, ea1, cap1, f1, rfl, hm1, hm2, rfl, hcp1, hcp2, hf1, hf2⟩, by rw [ht]; exact hP, va_K.moved hW.alike hK, hD⟩, hS.F ht⟩) hS.2.2 d_M_shape_67
    · exact thrw hx hb hlt hown hg hN x_S st_130 hU hV hS (by rw [hml]; exact hl.1) d_M_shape_32 d_M_shape_35 d_M_shape_36 d_M_shape_38 d_M_shape_41 hno (Nat.le_of_ble_eq_true rfl) (Nat.le_of_ble_eq_true rfl) (Nat.le_of_ble_eq_true rfl) (Nat.le_of_ble_eq_true rfl) hlocks hP hK hD rfl (Or.inr ⟨ch_2 c_7 (ns8c hc9 c_29), rfl⟩) (Nat.le_of_ble_eq_true rfl) (Nat.le_of_ble_eq_true rfl)
  · exact thrw hx hb hlt hown hg hN x_A st_127 hU hV hS (by rw [hml]; exact hl.1) d_M_shape_10 d_M_shape_13 d_M_shape_14 d_M_shape_16 d_M_shape_19 hno (Nat.le_of_ble_eq_true rfl) (Nat.le_of_ble_eq_true rfl) (Nat.le_of_ble_eq_true rfl) (Nat.le_of_ble_eq_true rfl) hlocks hP hK hD rfl (Or.inl ⟨ch_1 c_7, rfl⟩) (Nat.le_of_ble_eq_true rfl) (Nat.le_of_ble_eq_true rfl)

set_option maxHeartbeats 4000000 in
set_option maxRecDepth 100000 in
/-- M_kind -/
theorem c_M_kindV_ok (l : Launch) (hlt : l.stackTraces = false) (D : va_G) (cI cZ cJ cO : ClassId) (sz e0 mi : Nat) (o r0 l1 l2 l3 bb : Nat) (x1 : Int32) (k9 : Int32) : vx_Met l y_M_kind (wq y_M_kind c_M_kind 2 (some .int)) ({ frames := 7, cells := 2, slots := 40, locals := 191 }) (gP D (TY cI cZ cJ cO) [(o, .inr (3, [.ref r0, .ref l1, .ref l2, .ref l3, .ref bb])), (l2, .inr (0, [.int x1, .ref e0, .int 0]))] [.ref o, .int k9] sz e0 mi "RubbingMirrors$Node" (fun y => False)) (va_Qi (fun (r : Int32) (u : va_W) => cKin k9 0 = 0 ∧ r = nI 0 ∧ ∃ (q ea1 cap1 : Nat) (f1 : Nat → Option Nat), u = [(o, .inr (3, [.ref r0, .ref l1, .ref l2, .ref l3, .ref bb])), (l2, .inr (0, [.int (x1 + 1), .ref ea1, .int (nI (0 + 1))])), (ea1, .inl (cO, cap1, .inr (.inr (.inr (.inr f1))))), (q, .inr (5, [.int (-1), .int k9, .int (-1), .int (-1)]))] ∧ 0 + 1 ≤ cap1 ∧ cap1 = 10 ∧ (∀ i, i < 0 → f1 i = (fun _ => none) i) ∧ f1 0 = some q) (mB D (TY cI cZ cJ cO) (va_A [(o, .inr (3, [.ref r0, .ref l1, .ref l2, .ref l3, .ref bb])), (l2, .inr (0, [.int x1, .ref e0, .int 0]))] sz)) (va_A [(o, .inr (3, [.ref r0, .ref l1, .ref l2, .ref l3, .ref bb])), (l2, .inr (0, [.int x1, .ref e0, .int 0]))] sz)) (vx_X (fun (u : va_W) => u = [(o, .inr (3, [.ref r0, .ref l1, .ref l2, .ref l3, .ref bb])), (l2, .inr (0, [.int x1, .ref e0, .int 0]))]) (xB D (TY cI cZ cJ cO) (va_A [(o, .inr (3, [.ref r0, .ref l1, .ref l2, .ref l3, .ref bb])), (l2, .inr (0, [.int x1, .ref e0, .int 0]))] sz) (fun E => (cKin k9 0 = 1 ∧ E = eA) ∨ (cKin k9 0 = 2 ∧ E = eS))) (va_A [(o, .inr (3, [.ref r0, .ref l1, .ref l2, .ref l3, .ref bb])), (l2, .inr (0, [.int x1, .ref e0, .int 0]))] sz)) 2 40 (va_A [(o, .inr (3, [.ref r0, .ref l1, .ref l2, .ref l3, .ref bb])), (l2, .inr (0, [.int x1, .ref e0, .int 0]))] sz) := by
  refine vx_ofW (cc := c_M_kind) (maxL := 2) (ret := (some .int)) (by decide) rfl ?_
  intro p e s m args below meth c s₁ B hml hno hv
  obtain ⟨rfl, hsz, hP, hK, hD0, hN, hU, hV, hsP, hEl⟩ := hv
  have hx := B.exec
  have hb := B.bytes
  have hr := B.returns
  have hg := gt_h (atoms_spec (ws := (wq y_M_kind c_M_kind 2 (some .int))) B.pre)
  have hown : s.vm.findClass "RubbingMirrors" = some m.cls := findClass_of_methodNamed B.named
  have hlocks := B.notSynchronized
  subst hsz
  have hD := hD0.self (sz := s.heap.size)
  generalize hAe : va_A [(o, .inr (3, [.ref r0, .ref l1, .ref l2, .ref l3, .ref bb])), (l2, .inr (0, [.int x1, .ref e0, .int 0]))] s.heap.size = A at hD hU hV hsP hEl ⊢
  have hA : ∀ q : Nat, s.heap.size ≤ q → A q := fun q h => by rw [← hAe]; exact Or.inr h
  have hS : va_S A s.heap s.heap [] := va_S.rf
  have hl := lv_entry ([.ref o, .int k9]) (n := 2) (Nat.le_of_ble_eq_true rfl)
  rw [lg_entry_eq]
  generalize (lg_sl ([.ref o, .int k9]) ++ List.replicate (2 - (lg_sl ([.ref o, .int k9])).length) Slot.unset).toArray = ls at hl ⊢
  have hl : lv_has ls 2 [(0, .ref o), (1, .int k9)] := hl
  refine lv_iload_n hx hb d_M_kind_0 rfl (lv_at hl 1 rfl) ?_
  refine lv_iconst (v := 0) hx hb d_M_kind_1 (by decide) ?_
  refine lv_sipush (v := 1000) hx hb d_M_kind_2 (by decide) ?_
  refine vp_callSi (va_Run.run (va_runS (As := [.int k9, .int 0, .int 1000]) (rest := []) ⟨hx, hb, hml, hown, hg⟩ (c_M_isWithin_ok l D cI cZ cJ cO k9 0 1000) (va_cwS 3 hg (gs2 g_233 g_234 g_18 g_235) rfl rfl rfl (by decide +kernel) ⟨Nat.le_of_ble_eq_true rfl, Nat.le_of_ble_eq_true rfl⟩) (pS ba_nil hK hN) rfl rfl hl.1 rfl (lv_room (Nat.le_of_ble_eq_true rfl)) d_M_kind_5 ⟨Nat.zero_le _, Nat.zero_le _⟩)) (fun r_1 hr_1 => ?_)
  subst hr_1
  refine lv_if_ne (tgt := 21) hx hb d_M_kind_8 (by decide) (fun c_8 => ?_) (fun c_8 => ?_)
  · refine lv_aload_n hx hb d_M_kind_21 rfl (lv_at hl 0 rfl) ?_
    refine va_get (D := D) (ci := 3) (v := .ref l2) (C := Q_M) (T := F_M) (N := 5) hx hb hg in_M hown hK hP 0 rfl rfl 2 (by decide) (hg _ g_127) (fun _ h9 => h9) rfl d_M_kind_22 ?_
    refine vp_callSi (va_Run.run (va_runV (As := []) (rest := []) ⟨hx, hb, hml, hown, hg⟩ (c_A_size_ok l D cI cZ cJ cO l2 x1 0 e0) (cwV 0 hg (gv g_378 g_379 g_380 g_21 g_381) rfl rfl rfl (by decide +kernel) ⟨Nat.le_of_ble_eq_true rfl, Nat.le_of_ble_eq_true rfl⟩) (pV (hP.sub [1] rfl) hK hN (va_recv hK (hP.sub [1] rfl) (ci := 0) (q0 := 0) rfl rfl)) rfl rfl hl.1 rfl (lv_room (Nat.le_of_ble_eq_true rfl)) d_M_kind_25 ⟨Nat.zero_le _, Nat.zero_le _⟩)) (fun r_2 hr_2 => ?_)
    subst hr_2
    refine lv_bipush (v := 16) hx hb d_M_kind_28 (by decide) ?_
    refine lv_icmp_lt (tgt := 43) hx hb d_M_kind_30 (by decide) (fun c_30 => ?_) (fun c_30 => ?_)
    · refine lv_aload_n hx hb d_M_kind_43 rfl (lv_at hl 0 rfl) ?_
      refine va_get (D := D) (ci := 3) (v := .ref l2) (C := Q_M) (T := F_M) (N := 5) hx hb hg in_M hown hK hP 0 rfl rfl 2 (by decide) (hg _ g_127) (fun _ h9 => h9) rfl d_M_kind_44 ?_
      refine va_new (ci := 5) (fs := [.int 0, .int 0, .int 0, .int 0]) (C := Q_N) (T := F_N) (N := 4) hx hb hg in_N tq_N tq_N_ok hown (hg _ g_518) (hg _ g_519) (hg _ g_38) hK hP hD hS hA rfl (fun j hj => by rcases (show j = 0 ∨ j = 1 ∨ j = 2 ∨ j = 3 by omega) with rfl | rfl | rfl | rfl <;> rfl) (show 0 + 1 ≤ 2 by omega) (show 0 + 4 ≤ 40 by omega) d_M_kind_47 (fun q_47 H hP hD hS => ?_)
      refine W.widen (k := 1) (n := 4) (by omega) (by omega) ?_
      have hP : va_P D cls [(o, .inr (3, [.ref r0, .ref l1, .ref l2, .ref l3, .ref bb])), (l2, .inr (0, [.int x1, .ref e0, .int 0])), (q_47, .inr (5, [.int 0, .int 0, .int 0, .int 0]))] H := hP
      have hD : va_D A [(o, .inr (3, [.ref r0, .ref l1, .ref l2, .ref l3, .ref bb])), (l2, .inr (0, [.int x1, .ref e0, .int 0])), (q_47, .inr (5, [.int 0, .int 0, .int 0, .int 0]))] := hD
      refine lv_dup hx hb d_M_kind_50 rfl ?_
      refine lv_iconst (v := (-1)) hx hb d_M_kind_51 (by decide) ?_
      refine lv_iload_n hx hb d_M_kind_52 rfl (lv_at hl 1 rfl) ?_
      refine lv_iconst (v := (-1)) hx hb d_M_kind_53 (by decide) ?_
      refine lv_iconst (v := (-1)) hx hb d_M_kind_54 (by decide) ?_
      have hP := hP.sub (ws' := [(q_47, .inr (5, [.int 0, .int 0, .int 0, .int 0]))] ++ [(o, .inr (3, [.ref r0, .ref l1, .ref l2, .ref l3, .ref bb])), (l2, .inr (0, [.int x1, .ref e0, .int 0]))]) [2, 0, 1] rfl
      have hD := hD.sub (ws' := [(q_47, .inr (5, [.int 0, .int 0, .int 0, .int 0]))] ++ [(o, .inr (3, [.ref r0, .ref l1, .ref l2, .ref l3, .ref bb])), (l2, .inr (0, [.int x1, .ref e0, .int 0]))]) [2, 0, 1] (by decide) rfl
      refine mcallv (wc := [(q_47, .inr (5, [.int 0, .int 0, .int 0, .int 0]))]) (wr := [(o, .inr (3, [.ref r0, .ref l1, .ref l2, .ref l3, .ref bb])), (l2, .inr (0, [.int x1, .ref e0, .int 0]))]) (va_runI (As := [.int (-1), .int k9, .int (-1), .int (-1)]) (rest := [.ref q_47, .ref l2]) ⟨hx, hb, hml, hown, hg⟩ (c_N_init_ok l D cI cZ cJ cO H.size q_47 (-1) k9 (-1) (-1)) (cwI 4 hg (gq g_522) rfl rfl rfl (hg _ g_38) (hg _ g_520) (hg _ g_521) rfl (by decide +kernel) ⟨Nat.le_of_ble_eq_true rfl, Nat.le_of_ble_eq_true rfl⟩) (mS (As := .ref q_47 :: [.int (-1), .int k9, .int (-1), .int (-1)]) (ba_Pl hP) hK hN (ba_Dl hD)) rfl rfl hl.1 rfl (lv_room (Nat.le_of_ble_eq_true rfl)) d_M_kind_55 ⟨Nat.le_of_ble_eq_true rfl, Nat.le_of_ble_eq_true rfl⟩) hP hD hS hA (fun u_3 H locs hu_3 hP hD hS => ?_)
      subst hu_3
      have hP : va_P D cls [(q_47, .inr (5, [.int (-1), .int k9, .int (-1), .int (-1)])), (o, .inr (3, [.ref r0, .ref l1, .ref l2, .ref l3, .ref bb])), (l2, .inr (0, [.int x1, .ref e0, .int 0]))] H := hP
      have hD : va_D A [(q_47, .inr (5, [.int (-1), .int k9, .int (-1), .int (-1)])), (o, .inr (3, [.ref r0, .ref l1, .ref l2, .ref l3, .ref bb])), (l2, .inr (0, [.int x1, .ref e0, .int 0]))] := hD
      have hP := hP.sub (ws' := [(l2, .inr (0, [.int x1, .ref e0, .int 0]))] ++ [(q_47, .inr (5, [.int (-1), .int k9, .int (-1), .int (-1)])), (o, .inr (3, [.ref r0, .ref l1, .ref l2, .ref l3, .ref bb]))]) [2, 0, 1] rfl
      have hD := hD.sub (ws' := [(l2, .inr (0, [.int x1, .ref e0, .int 0]))] ++ [(q_47, .inr (5, [.int (-1), .int k9, .int (-1), .int (-1)])), (o, .inr (3, [.ref r0, .ref l1, .ref l2, .ref l3, .ref bb]))]) [2, 0, 1] (by decide) rfl
      refine mcalli (wc := [(l2, .inr (0, [.int x1, .ref e0, .int 0]))]) (wr := [(q_47, .inr (5, [.int (-1), .int k9, .int (-1), .int (-1)])), (o, .inr (3, [.ref r0, .ref l1, .ref l2, .ref l3, .ref bb]))]) (va_runV (As := [.ref q_47]) (rest := []) ⟨hx, hb, hml, hown, hg⟩ (c_A_addV_ok l D cI cZ cJ cO H.size e0 mi "RubbingMirrors$Node" nw_29 (fun y => y = q_47 ∨ False) l2 x1 q_47 (Or.inl rfl)) (cwV 1 hg (gv g_394 g_395 g_396 g_21 g_397) rfl rfl rfl (by decide +kernel) ⟨Nat.le_of_ble_eq_true rfl, Nat.le_of_ble_eq_true rfl⟩) ⟨lp_blind, va_recv hK (ba_Pl hP) (ci := 0) (q0 := 0) rfl rfl, fun U hU hW => ⟨rfl, lPre2 hP hD hK hN hS hA hsP (fun y hy => by rcases hy with rfl | hy; exact ⟨va_recv hK (ba_Pr hP) (ci := 5) (q0 := 0) rfl rfl, notA hP hD (List.mem_of_getElem? (i := 0) rfl)⟩; exact hy.elim) U hU hW⟩⟩ rfl rfl hl.1 rfl (lv_room (Nat.le_of_ble_eq_true rfl)) d_M_kind_58 ⟨Nat.le_of_ble_eq_true rfl, Nat.le_of_ble_eq_true rfl⟩) hP hD hS hA (fun r_6 u_5 H locs hu_5 hP hD hS => ?_)
      obtain ⟨rfl, ea1, cap1, f1, rfl, hcp1, hcp2, hf1, hf2⟩ := hu_5
      have hP : va_P D cls [(l2, .inr (0, [.int (x1 + 1), .ref ea1, .int (nI (0 + 1))])), (ea1, .inl (cO, cap1, .inr (.inr (.inr (.inr f1))))), (q_47, .inr (5, [.int (-1), .int k9, .int (-1), .int (-1)])), (o, .inr (3, [.ref r0, .ref l1, .ref l2, .ref l3, .ref bb]))] H := hP
      have hD : va_D A [(l2, .inr (0, [.int (x1 + 1), .ref ea1, .int (nI (0 + 1))])), (ea1, .inl (cO, cap1, .inr (.inr (.inr (.inr f1))))), (q_47, .inr (5, [.int (-1), .int k9, .int (-1), .int (-1)])), (o, .inr (3, [.ref r0, .ref l1, .ref l2, .ref l3, .ref bb]))] := hD
      refine W.widen (k := 2) (n := 26) (by omega) (by omega) ?_
      refine lv_pop hx hb d_M_kind_61 rfl ?_
      refine lv_aload_n hx hb d_M_kind_62 rfl (lv_at hl 0 rfl) ?_
      refine va_get (D := D) (ci := 3) (v := .ref l2) (C := Q_M) (T := F_M) (N := 5) hx hb hg in_M hown hK hP 3 rfl rfl 2 (by decide) (hg _ g_127) (fun _ h9 => h9) rfl d_M_kind_63 ?_
      refine vp_callSi (va_Run.run (va_runV (As := []) (rest := []) ⟨hx, hb, hml, hown, hg⟩ (c_A_size_ok l D cI cZ cJ cO l2 (x1 + 1) (nI (0 + 1)) ea1) (cwV 0 hg (gv g_378 g_379 g_380 g_21 g_381) rfl rfl rfl (by decide +kernel) ⟨Nat.le_of_ble_eq_true rfl, Nat.le_of_ble_eq_true rfl⟩) (pV (hP.sub [0] rfl) hK hN (va_recv hK (hP.sub [0] rfl) (ci := 0) (q0 := 0) rfl rfl)) rfl rfl hl.1 rfl (lv_room (Nat.le_of_ble_eq_true rfl)) d_M_kind_66 ⟨Nat.le_of_ble_eq_true rfl, Nat.le_of_ble_eq_true rfl⟩)) (fun r_7 hr_7 => ?_)
      subst hr_7
      refine lv_iconst (v := 1) hx hb d_M_kind_69 (by decide) ?_
      refine lv_isub hx hb d_M_kind_70 ?_
      have hP := hP.sub (ws' := [(o, .inr (3, [.ref r0, .ref l1, .ref l2, .ref l3, .ref bb])), (l2, .inr (0, [.int (x1 + 1), .ref ea1, .int (nI (0 + 1))])), (ea1, .inl (cO, cap1, .inr (.inr (.inr (.inr f1))))), (q_47, .inr (5, [.int (-1), .int k9, .int (-1), .int (-1)]))]) [3, 0, 1, 2] rfl
      have hD := hD.sub (ws' := [(o, .inr (3, [.ref r0, .ref l1, .ref l2, .ref l3, .ref bb])), (l2, .inr (0, [.int (x1 + 1), .ref ea1, .int (nI (0 + 1))])), (ea1, .inl (cO, cap1, .inr (.inr (.inr (.inr f1))))), (q_47, .inr (5, [.int (-1), .int k9, .int (-1), .int (-1)]))]) [3, 0, 1, 2] (by decide) rfl
      refine vx_ret ?_
      refine W.widen (k := 2) (n := 40) (by omega) (by omega) ?_
      exact W.iret hx hb hr (fun t9 ht hW => ⟨⟨_, [(o, .inr (3, [.ref r0, .ref l1, .ref l2, .ref l3, .ref bb])), (l2, .inr (0, [.int (x1 + 1), .ref ea1, .int (nI (0 + 1))])), (ea1, .inl (cO, cap1, .inr (.inr (.inr (.inr f1))))), (q_47, .inr (5, [.int (-1), .int k9, .int (-1), .int (-1)]))], rfl, ⟨ck_0 c_8 (by decide), nI_pred _, q_47, ea1, cap1, f1, rfl, hcp1, hcp2, hf1, hf2⟩, by rw [ht]; exact hP, va_K.moved hW.alike hK, hD⟩, hS.F ht⟩) hS.2.2 d_M_kind_71
    · exact absurd c_30 (by decide)
  · exact thrw hx hb hlt hown hg hN x_A st_159 hU hV hS (by rw [hml]; exact hl.1) d_M_kind_11 d_M_kind_14 d_M_kind_15 d_M_kind_17 d_M_kind_20 hno (Nat.le_of_ble_eq_true rfl) (Nat.le_of_ble_eq_true rfl) (Nat.le_of_ble_eq_true rfl) (Nat.le_of_ble_eq_true rfl) hlocks hP hK hD rfl (Or.inl ⟨ck_1 c_8, rfl⟩) (Nat.le_of_ble_eq_true rfl) (Nat.le_of_ble_eq_true rfl)

set_option maxHeartbeats 4000000 in
set_option maxRecDepth 100000 in
/-- M_kind -/
theorem c_M_kindN_ok (l : Launch) (hlt : l.stackTraces = false) (D : va_G) (cI cZ cJ cO : ClassId) (sz e0 mi : Nat) (o r0 l1 l2 l3 bb : Nat) (x1 : Int32) (ea c9 n1 : Nat) (f : Nat → Option Nat) (hc9 : c9 ≤ 16) (hcn : c9 < n1) (hn1 : n1 ≤ 22) (k9 : Int32) : vx_Met l y_M_kind (wq y_M_kind c_M_kind 2 (some .int)) ({ frames := 7, cells := 2, slots := 40, locals := 191 }) (gP D (TY cI cZ cJ cO) [(o, .inr (3, [.ref r0, .ref l1, .ref l2, .ref l3, .ref bb])), (l2, .inr (0, [.int x1, .ref ea, .int (nI c9)])), (ea, .inl (cO, n1, .inr (.inr (.inr (.inr f)))))] [.ref o, .int k9] sz e0 mi "RubbingMirrors$Node" (fun y => False)) (va_Qi (fun (r : Int32) (u : va_W) => cKin k9 c9 = 0 ∧ r = nI c9 ∧ ∃ (q ea1 cap1 : Nat) (f1 : Nat → Option Nat), u = [(o, .inr (3, [.ref r0, .ref l1, .ref l2, .ref l3, .ref bb])), (l2, .inr (0, [.int (x1 + 1), .ref ea1, .int (nI (c9 + 1))])), (ea1, .inl (cO, cap1, .inr (.inr (.inr (.inr f1))))), (q, .inr (5, [.int (-1), .int k9, .int (-1), .int (-1)]))] ∧ c9 + 1 ≤ cap1 ∧ cap1 = n1 ∧ (∀ i, i < c9 → f1 i = f i) ∧ f1 c9 = some q) (mB D (TY cI cZ cJ cO) (va_A [(o, .inr (3, [.ref r0, .ref l1, .ref l2, .ref l3, .ref bb])), (l2, .inr (0, [.int x1, .ref ea, .int (nI c9)])), (ea, .inl (cO, n1, .inr (.inr (.inr (.inr f)))))] sz)) (va_A [(o, .inr (3, [.ref r0, .ref l1, .ref l2, .ref l3, .ref bb])), (l2, .inr (0, [.int x1, .ref ea, .int (nI c9)])), (ea, .inl (cO, n1, .inr (.inr (.inr (.inr f)))))] sz)) (vx_X (fun (u : va_W) => u = [(o, .inr (3, [.ref r0, .ref l1, .ref l2, .ref l3, .ref bb])), (l2, .inr (0, [.int x1, .ref ea, .int (nI c9)])), (ea, .inl (cO, n1, .inr (.inr (.inr (.inr f)))))]) (xB D (TY cI cZ cJ cO) (va_A [(o, .inr (3, [.ref r0, .ref l1, .ref l2, .ref l3, .ref bb])), (l2, .inr (0, [.int x1, .ref ea, .int (nI c9)])), (ea, .inl (cO, n1, .inr (.inr (.inr (.inr f)))))] sz) (fun E => (cKin k9 c9 = 1 ∧ E = eA) ∨ (cKin k9 c9 = 2 ∧ E = eS))) (va_A [(o, .inr (3, [.ref r0, .ref l1, .ref l2, .ref l3, .ref bb])), (l2, .inr (0, [.int x1, .ref ea, .int (nI c9)])), (ea, .inl (cO, n1, .inr (.inr (.inr (.inr f)))))] sz)) 2 40 (va_A [(o, .inr (3, [.ref r0, .ref l1, .ref l2, .ref l3, .ref bb])), (l2, .inr (0, [.int x1, .ref ea, .int (nI c9)])), (ea, .inl (cO, n1, .inr (.inr (.inr (.inr f)))))] sz) := by
  refine vx_ofW (cc := c_M_kind) (maxL := 2) (ret := (some .int)) (by decide) rfl ?_
  intro p e s m args below meth c s₁ B hml hno hv
  obtain ⟨rfl, hsz, hP, hK, hD0, hN, hU, hV, hsP, hEl⟩ := hv
  have hx := B.exec
  have hb := B.bytes
  have hr := B.returns
  have hg := gt_h (atoms_spec (ws := (wq y_M_kind c_M_kind 2 (some .int))) B.pre)
  have hown : s.vm.findClass "RubbingMirrors" = some m.cls := findClass_of_methodNamed B.named
  have hlocks := B.notSynchronized
  subst hsz
  have hD := hD0.self (sz := s.heap.size)
  generalize hAe : va_A [(o, .inr (3, [.ref r0, .ref l1, .ref l2, .ref l3, .ref bb])), (l2, .inr (0, [.int x1, .ref ea, .int (nI c9)])), (ea, .inl (cO, n1, .inr (.inr (.inr (.inr f)))))] s.heap.size = A at hD hU hV hsP hEl ⊢
  have hA : ∀ q : Nat, s.heap.size ≤ q → A q := fun q h => by rw [← hAe]; exact Or.inr h
  have hS : va_S A s.heap s.heap [] := va_S.rf
  have hl := lv_entry ([.ref o, .int k9]) (n := 2) (Nat.le_of_ble_eq_true rfl)
  rw [lg_entry_eq]
  generalize (lg_sl ([.ref o, .int k9]) ++ List.replicate (2 - (lg_sl ([.ref o, .int k9])).length) Slot.unset).toArray = ls at hl ⊢
  have hl : lv_has ls 2 [(0, .ref o), (1, .int k9)] := hl
  refine lv_iload_n hx hb d_M_kind_0 rfl (lv_at hl 1 rfl) ?_
  refine lv_iconst (v := 0) hx hb d_M_kind_1 (by decide) ?_
  refine lv_sipush (v := 1000) hx hb d_M_kind_2 (by decide) ?_
  refine vp_callSi (va_Run.run (va_runS (As := [.int k9, .int 0, .int 1000]) (rest := []) ⟨hx, hb, hml, hown, hg⟩ (c_M_isWithin_ok l D cI cZ cJ cO k9 0 1000) (va_cwS 3 hg (gs2 g_233 g_234 g_18 g_235) rfl rfl rfl (by decide +kernel) ⟨Nat.le_of_ble_eq_true rfl, Nat.le_of_ble_eq_true rfl⟩) (pS ba_nil hK hN) rfl rfl hl.1 rfl (lv_room (Nat.le_of_ble_eq_true rfl)) d_M_kind_5 ⟨Nat.zero_le _, Nat.zero_le _⟩)) (fun r_1 hr_1 => ?_)
  subst hr_1
  refine lv_if_ne (tgt := 21) hx hb d_M_kind_8 (by decide) (fun c_8 => ?_) (fun c_8 => ?_)
  · refine lv_aload_n hx hb d_M_kind_21 rfl (lv_at hl 0 rfl) ?_
    refine va_get (D := D) (ci := 3) (v := .ref l2) (C := Q_M) (T := F_M) (N := 5) hx hb hg in_M hown hK hP 0 rfl rfl 2 (by decide) (hg _ g_127) (fun _ h9 => h9) rfl d_M_kind_22 ?_
    refine vp_callSi (va_Run.run (va_runV (As := []) (rest := []) ⟨hx, hb, hml, hown, hg⟩ (c_A_size_ok l D cI cZ cJ cO l2 x1 (nI c9) ea) (cwV 0 hg (gv g_378 g_379 g_380 g_21 g_381) rfl rfl rfl (by decide +kernel) ⟨Nat.le_of_ble_eq_true rfl, Nat.le_of_ble_eq_true rfl⟩) (pV (hP.sub [1] rfl) hK hN (va_recv hK (hP.sub [1] rfl) (ci := 0) (q0 := 0) rfl rfl)) rfl rfl hl.1 rfl (lv_room (Nat.le_of_ble_eq_true rfl)) d_M_kind_25 ⟨Nat.zero_le _, Nat.zero_le _⟩)) (fun r_2 hr_2 => ?_)
    subst hr_2
    refine lv_bipush (v := 16) hx hb d_M_kind_28 (by decide) ?_
    refine lv_icmp_lt (tgt := 43) hx hb d_M_kind_30 (by decide) (fun c_30 => ?_) (fun c_30 => ?_)
    · refine lv_aload_n hx hb d_M_kind_43 rfl (lv_at hl 0 rfl) ?_
      refine va_get (D := D) (ci := 3) (v := .ref l2) (C := Q_M) (T := F_M) (N := 5) hx hb hg in_M hown hK hP 0 rfl rfl 2 (by decide) (hg _ g_127) (fun _ h9 => h9) rfl d_M_kind_44 ?_
      refine va_new (ci := 5) (fs := [.int 0, .int 0, .int 0, .int 0]) (C := Q_N) (T := F_N) (N := 4) hx hb hg in_N tq_N tq_N_ok hown (hg _ g_518) (hg _ g_519) (hg _ g_38) hK hP hD hS hA rfl (fun j hj => by rcases (show j = 0 ∨ j = 1 ∨ j = 2 ∨ j = 3 by omega) with rfl | rfl | rfl | rfl <;> rfl) (show 0 + 1 ≤ 2 by omega) (show 0 + 4 ≤ 40 by omega) d_M_kind_47 (fun q_47 H hP hD hS => ?_)
      refine W.widen (k := 1) (n := 4) (by omega) (by omega) ?_
      have hP : va_P D cls [(o, .inr (3, [.ref r0, .ref l1, .ref l2, .ref l3, .ref bb])), (l2, .inr (0, [.int x1, .ref ea, .int (nI c9)])), (ea, .inl (cO, n1, .inr (.inr (.inr (.inr f))))), (q_47, .inr (5, [.int 0, .int 0, .int 0, .int 0]))] H := hP
      have hD : va_D A [(o, .inr (3, [.ref r0, .ref l1, .ref l2, .ref l3, .ref bb])), (l2, .inr (0, [.int x1, .ref ea, .int (nI c9)])), (ea, .inl (cO, n1, .inr (.inr (.inr (.inr f))))), (q_47, .inr (5, [.int 0, .int 0, .int 0, .int 0]))] := hD
      refine lv_dup hx hb d_M_kind_50 rfl ?_
      refine lv_iconst (v := (-1)) hx hb d_M_kind_51 (by decide) ?_
      refine lv_iload_n hx hb d_M_kind_52 rfl (lv_at hl 1 rfl) ?_
      refine lv_iconst (v := (-1)) hx hb d_M_kind_53 (by decide) ?_
      refine lv_iconst (v := (-1)) hx hb d_M_kind_54 (by decide) ?_
      have hP := hP.sub (ws' := [(q_47, .inr (5, [.int 0, .int 0, .int 0, .int 0]))] ++ [(o, .inr (3, [.ref r0, .ref l1, .ref l2, .ref l3, .ref bb])), (l2, .inr (0, [.int x1, .ref ea, .int (nI c9)])), (ea, .inl (cO, n1, .inr (.inr (.inr (.inr f)))))]) [3, 0, 1, 2] rfl
      have hD := hD.sub (ws' := [(q_47, .inr (5, [.int 0, .int 0, .int 0, .int 0]))] ++ [(o, .inr (3, [.ref r0, .ref l1, .ref l2, .ref l3, .ref bb])), (l2, .inr (0, [.int x1, .ref ea, .int (nI c9)])), (ea, .inl (cO, n1, .inr (.inr (.inr (.inr f)))))]) [3, 0, 1, 2] (by decide) rfl
      refine mcallv (wc := [(q_47, .inr (5, [.int 0, .int 0, .int 0, .int 0]))]) (wr := [(o, .inr (3, [.ref r0, .ref l1, .ref l2, .ref l3, .ref bb])), (l2, .inr (0, [.int x1, .ref ea, .int (nI c9)])), (ea, .inl (cO, n1, .inr (.inr (.inr (.inr f)))))]) (va_runI (As := [.int (-1), .int k9, .int (-1), .int (-1)]) (rest := [.ref q_47, .ref l2]) ⟨hx, hb, hml, hown, hg⟩ (c_N_init_ok l D cI cZ cJ cO H.size q_47 (-1) k9 (-1) (-1)) (cwI 4 hg (gq g_522) rfl rfl rfl (hg _ g_38) (hg _ g_520) (hg _ g_521) rfl (by decide +kernel) ⟨Nat.le_of_ble_eq_true rfl, Nat.le_of_ble_eq_true rfl⟩) (mS (As := .ref q_47 :: [.int (-1), .int k9, .int (-1), .int (-1)]) (ba_Pl hP) hK hN (ba_Dl hD)) rfl rfl hl.1 rfl (lv_room (Nat.le_of_ble_eq_true rfl)) d_M_kind_55 ⟨Nat.le_of_ble_eq_true rfl, Nat.le_of_ble_eq_true rfl⟩) hP hD hS hA (fun u_3 H locs hu_3 hP hD hS => ?_)
      subst hu_3
      have hP : va_P D cls [(q_47, .inr (5, [.int (-1), .int k9, .int (-1), .int (-1)])), (o, .inr (3, [.ref r0, .ref l1, .ref l2, .ref l3, .ref bb])), (l2, .inr (0, [.int x1, .ref ea, .int (nI c9)])), (ea, .inl (cO, n1, .inr (.inr (.inr (.inr f)))))] H := hP
      have hD : va_D A [(q_47, .inr (5, [.int (-1), .int k9, .int (-1), .int (-1)])), (o, .inr (3, [.ref r0, .ref l1, .ref l2, .ref l3, .ref bb])), (l2, .inr (0, [.int x1, .ref ea, .int (nI c9)])), (ea, .inl (cO, n1, .inr (.inr (.inr (.inr f)))))] := hD
      have hP := hP.sub (ws' := [(l2, .inr (0, [.int x1, .ref ea, .int (nI c9)])), (ea, .inl (cO, n1, .inr (.inr (.inr (.inr f)))))] ++ [(q_47, .inr (5, [.int (-1), .int k9, .int (-1), .int (-1)])), (o, .inr (3, [.ref r0, .ref l1, .ref l2, .ref l3, .ref bb]))]) [2, 3, 0, 1] rfl
      have hD := hD.sub (ws' := [(l2, .inr (0, [.int x1, .ref ea, .int (nI c9)])), (ea, .inl (cO, n1, .inr (.inr (.inr (.inr f)))))] ++ [(q_47, .inr (5, [.int (-1), .int k9, .int (-1), .int (-1)])), (o, .inr (3, [.ref r0, .ref l1, .ref l2, .ref l3, .ref bb]))]) [2, 3, 0, 1] (by decide) rfl
      refine mcalli (wc := [(l2, .inr (0, [.int x1, .ref ea, .int (nI c9)])), (ea, .inl (cO, n1, .inr (.inr (.inr (.inr f)))))]) (wr := [(q_47, .inr (5, [.int (-1), .int k9, .int (-1), .int (-1)])), (o, .inr (3, [.ref r0, .ref l1, .ref l2, .ref l3, .ref bb]))]) (va_runV (As := [.ref q_47]) (rest := []) ⟨hx, hb, hml, hown, hg⟩ (c_A_addN_ok l D cI cZ cJ cO H.size e0 mi "RubbingMirrors$Node" nw_29 (fun y => y = q_47 ∨ False) l2 x1 ea c9 n1 f (by omega) (by omega) q_47 (Or.inl rfl)) (cwV 1 hg (gv g_394 g_395 g_396 g_21 g_397) rfl rfl rfl (by decide +kernel) ⟨Nat.le_of_ble_eq_true rfl, Nat.le_of_ble_eq_true rfl⟩) ⟨lp_blind, va_recv hK (ba_Pl hP) (ci := 0) (q0 := 0) rfl rfl, fun U hU hW => ⟨rfl, lPre2 hP hD hK hN hS hA hsP (fun y hy => by rcases hy with rfl | hy; exact ⟨va_recv hK (ba_Pr hP) (ci := 5) (q0 := 0) rfl rfl, notA hP hD (List.mem_of_getElem? (i := 0) rfl)⟩; exact hy.elim) U hU hW⟩⟩ rfl rfl hl.1 rfl (lv_room (Nat.le_of_ble_eq_true rfl)) d_M_kind_58 ⟨Nat.le_of_ble_eq_true rfl, Nat.le_of_ble_eq_true rfl⟩) hP hD hS hA (fun r_6 u_5 H locs hu_5 hP hD hS => ?_)
      obtain ⟨rfl, ea1, cap1, f1, rfl, hcp1, hcp2, hf1, hf2⟩ := hu_5
      have hP : va_P D cls [(l2, .inr (0, [.int (x1 + 1), .ref ea1, .int (nI (c9 + 1))])), (ea1, .inl (cO, cap1, .inr (.inr (.inr (.inr f1))))), (q_47, .inr (5, [.int (-1), .int k9, .int (-1), .int (-1)])), (o, .inr (3, [.ref r0, .ref l1, .ref l2, .ref l3, .ref bb]))] H := hP
      have hD : va_D A [(l2, .inr (0, [.int (x1 + 1), .ref ea1, .int (nI (c9 + 1))])), (ea1, .inl (cO, cap1, .inr (.inr (.inr (.inr f1))))), (q_47, .inr (5, [.int (-1), .int k9, .int (-1), .int (-1)])), (o, .inr (3, [.ref r0, .ref l1, .ref l2, .ref l3, .ref bb]))] := hD
      refine W.widen (k := 2) (n := 26) (by omega) (by omega) ?_
      refine lv_pop hx hb d_M_kind_61 rfl ?_
      refine lv_aload_n hx hb d_M_kind_62 rfl (lv_at hl 0 rfl) ?_
      refine va_get (D := D) (ci := 3) (v := .ref l2) (C := Q_M) (T := F_M) (N := 5) hx hb hg in_M hown hK hP 3 rfl rfl 2 (by decide) (hg _ g_127) (fun _ h9 => h9) rfl d_M_kind_63 ?_
      refine vp_callSi (va_Run.run (va_runV (As := []) (rest := []) ⟨hx, hb, hml, hown, hg⟩ (c_A_size_ok l D cI cZ cJ cO l2 (x1 + 1) (nI (c9 + 1)) ea1) (cwV 0 hg (gv g_378 g_379 g_380 g_21 g_381) rfl rfl rfl (by decide +kernel) ⟨Nat.le_of_ble_eq_true rfl, Nat.le_of_ble_eq_true rfl⟩) (pV (hP.sub [0] rfl) hK hN (va_recv hK (hP.sub [0] rfl) (ci := 0) (q0 := 0) rfl rfl)) rfl rfl hl.1 rfl (lv_room (Nat.le_of_ble_eq_true rfl)) d_M_kind_66 ⟨Nat.le_of_ble_eq_true rfl, Nat.le_of_ble_eq_true rfl⟩)) (fun r_7 hr_7 => ?_)
      subst hr_7
      refine lv_iconst (v := 1) hx hb d_M_kind_69 (by decide) ?_
      refine lv_isub hx hb d_M_kind_70 ?_
      have hP := hP.sub (ws' := [(o, .inr (3, [.ref r0, .ref l1, .ref l2, .ref l3, .ref bb])), (l2, .inr (0, [.int (x1 + 1), .ref ea1, .int (nI (c9 + 1))])), (ea1, .inl (cO, cap1, .inr (.inr (.inr (.inr f1))))), (q_47, .inr (5, [.int (-1), .int k9, .int (-1), .int (-1)]))]) [3, 0, 1, 2] rfl
      have hD := hD.sub (ws' := [(o, .inr (3, [.ref r0, .ref l1, .ref l2, .ref l3, .ref bb])), (l2, .inr (0, [.int (x1 + 1), .ref ea1, .int (nI (c9 + 1))])), (ea1, .inl (cO, cap1, .inr (.inr (.inr (.inr f1))))), (q_47, .inr (5, [.int (-1), .int k9, .int (-1), .int (-1)]))]) [3, 0, 1, 2] (by decide) rfl
      refine vx_ret ?_
      refine W.widen (k := 2) (n := 40) (by omega) (by omega) ?_
      exact W.iret hx hb hr (fun t9 ht hW => ⟨⟨_, [(o, .inr (3, [.ref r0, .ref l1, .ref l2, .ref l3, .ref bb])), (l2, .inr (0, [.int (x1 + 1), .ref ea1, .int (nI (c9 + 1))])), (ea1, .inl (cO, cap1, .inr (.inr (.inr (.inr f1))))), (q_47, .inr (5, [.int (-1), .int k9, .int (-1), .int (-1)]))], rfl, ⟨ck_0 c_8 (nn16d c_30), nI_pred _, q_47, ea1, cap1, f1, rfl, hcp1, hcp2, hf1, hf2⟩, by rw [ht]; exact hP, va_K.moved hW.alike hK, hD⟩, hS.F ht⟩) hS.2.2 d_M_kind_71
    · exact thrw hx hb hlt hown hg hN x_S st_161 hU hV hS (by rw [hml]; exact hl.1) d_M_kind_33 d_M_kind_36 d_M_kind_37 d_M_kind_39 d_M_kind_42 hno (Nat.le_of_ble_eq_true rfl) (Nat.le_of_ble_eq_true rfl) (Nat.le_of_ble_eq_true rfl) (Nat.le_of_ble_eq_true rfl) hlocks hP hK hD rfl (Or.inr ⟨ck_2 c_8 (nn16c hc9 c_30), rfl⟩) (Nat.le_of_ble_eq_true rfl) (Nat.le_of_ble_eq_true rfl)
  · exact thrw hx hb hlt hown hg hN x_A st_159 hU hV hS (by rw [hml]; exact hl.1) d_M_kind_11 d_M_kind_14 d_M_kind_15 d_M_kind_17 d_M_kind_20 hno (Nat.le_of_ble_eq_true rfl) (Nat.le_of_ble_eq_true rfl) (Nat.le_of_ble_eq_true rfl) (Nat.le_of_ble_eq_true rfl) hlocks hP hK hD rfl (Or.inl ⟨ck_1 c_8, rfl⟩) (Nat.le_of_ble_eq_true rfl) (Nat.le_of_ble_eq_true rfl)

set_option maxHeartbeats 4000000 in
set_option maxRecDepth 100000 in
/-- M_kind -/
theorem c_M_kindG_ok (l : Launch) (hlt : l.stackTraces = false) (D : va_G) (cI cZ cJ cO : ClassId) (sz e0 mi : Nat) (o r0 l1 l2 l3 bb : Nat) (x1 : Int32) (ea n1 : Nat) (f : Nat → Option Nat) (hn1 : n1 = 10 ∨ n1 = 15) (k9 : Int32) : vx_Met l y_M_kind (wq y_M_kind c_M_kind 2 (some .int)) ({ frames := 7, cells := 2, slots := 40, locals := 191 }) (gP D (TY cI cZ cJ cO) [(o, .inr (3, [.ref r0, .ref l1, .ref l2, .ref l3, .ref bb])), (l2, .inr (0, [.int x1, .ref ea, .int (nI n1)])), (ea, .inl (cO, n1, .inr (.inr (.inr (.inr f)))))] [.ref o, .int k9] sz e0 mi "RubbingMirrors$Node" (fun y => ∃ i, i < n1 ∧ f i = some y)) (va_Qi (fun (r : Int32) (u : va_W) => cKin k9 n1 = 0 ∧ r = nI n1 ∧ ∃ (q ea1 cap1 : Nat) (f1 : Nat → Option Nat), u = [(o, .inr (3, [.ref r0, .ref l1, .ref l2, .ref l3, .ref bb])), (l2, .inr (0, [.int (x1 + 1), .ref ea1, .int (nI (n1 + 1))])), (ea1, .inl (cO, cap1, .inr (.inr (.inr (.inr f1))))), (q, .inr (5, [.int (-1), .int k9, .int (-1), .int (-1)]))] ∧ n1 + 1 ≤ cap1 ∧ cap1 = n1 + n1 / 2 ∧ (∀ i, i < n1 → f1 i = f i) ∧ f1 n1 = some q) (mB D (TY cI cZ cJ cO) (va_A [(o, .inr (3, [.ref r0, .ref l1, .ref l2, .ref l3, .ref bb])), (l2, .inr (0, [.int x1, .ref ea, .int (nI n1)])), (ea, .inl (cO, n1, .inr (.inr (.inr (.inr f)))))] sz)) (va_A [(o, .inr (3, [.ref r0, .ref l1, .ref l2, .ref l3, .ref bb])), (l2, .inr (0, [.int x1, .ref ea, .int (nI n1)])), (ea, .inl (cO, n1, .inr (.inr (.inr (.inr f)))))] sz)) (vx_X (fun (u : va_W) => u = [(o, .inr (3, [.ref r0, .ref l1, .ref l2, .ref l3, .ref bb])), (l2, .inr (0, [.int x1, .ref ea, .int (nI n1)])), (ea, .inl (cO, n1, .inr (.inr (.inr (.inr f)))))]) (xB D (TY cI cZ cJ cO) (va_A [(o, .inr (3, [.ref r0, .ref l1, .ref l2, .ref l3, .ref bb])), (l2, .inr (0, [.int x1, .ref ea, .int (nI n1)])), (ea, .inl (cO, n1, .inr (.inr (.inr (.inr f)))))] sz) (fun E => (cKin k9 n1 = 1 ∧ E = eA) ∨ (cKin k9 n1 = 2 ∧ E = eS))) (va_A [(o, .inr (3, [.ref r0, .ref l1, .ref l2, .ref l3, .ref bb])), (l2, .inr (0, [.int x1, .ref ea, .int (nI n1)])), (ea, .inl (cO, n1, .inr (.inr (.inr (.inr f)))))] sz)) 2 40 (va_A [(o, .inr (3, [.ref r0, .ref l1, .ref l2, .ref l3, .ref bb])), (l2, .inr (0, [.int x1, .ref ea, .int (nI n1)])), (ea, .inl (cO, n1, .inr (.inr (.inr (.inr f)))))] sz) := by
  refine vx_ofW (cc := c_M_kind) (maxL := 2) (ret := (some .int)) (by decide) rfl ?_
  intro p e s m args below meth c s₁ B hml hno hv
  obtain ⟨rfl, hsz, hP, hK, hD0, hN, hU, hV, hsP, hEl⟩ := hv
  have hx := B.exec
  have hb := B.bytes
  have hr := B.returns
  have hg := gt_h (atoms_spec (ws := (wq y_M_kind c_M_kind 2 (some .int))) B.pre)
  have hown : s.vm.findClass "RubbingMirrors" = some m.cls := findClass_of_methodNamed B.named
  have hlocks := B.notSynchronized
  subst hsz
  have hD := hD0.self (sz := s.heap.size)
  generalize hAe : va_A [(o, .inr (3, [.ref r0, .ref l1, .ref l2, .ref l3, .ref bb])), (l2, .inr (0, [.int x1, .ref ea, .int (nI n1)])), (ea, .inl (cO, n1, .inr (.inr (.inr (.inr f)))))] s.heap.size = A at hD hU hV hsP hEl ⊢
  have hA : ∀ q : Nat, s.heap.size ≤ q → A q := fun q h => by rw [← hAe]; exact Or.inr h
  have hS : va_S A s.heap s.heap [] := va_S.rf
  have hl := lv_entry ([.ref o, .int k9]) (n := 2) (Nat.le_of_ble_eq_true rfl)
  rw [lg_entry_eq]
  generalize (lg_sl ([.ref o, .int k9]) ++ List.replicate (2 - (lg_sl ([.ref o, .int k9])).length) Slot.unset).toArray = ls at hl ⊢
  have hl : lv_has ls 2 [(0, .ref o), (1, .int k9)] := hl
  refine lv_iload_n hx hb d_M_kind_0 rfl (lv_at hl 1 rfl) ?_
  refine lv_iconst (v := 0) hx hb d_M_kind_1 (by decide) ?_
  refine lv_sipush (v := 1000) hx hb d_M_kind_2 (by decide) ?_
  refine vp_callSi (va_Run.run (va_runS (As := [.int k9, .int 0, .int 1000]) (rest := []) ⟨hx, hb, hml, hown, hg⟩ (c_M_isWithin_ok l D cI cZ cJ cO k9 0 1000) (va_cwS 3 hg (gs2 g_233 g_234 g_18 g_235) rfl rfl rfl (by decide +kernel) ⟨Nat.le_of_ble_eq_true rfl, Nat.le_of_ble_eq_true rfl⟩) (pS ba_nil hK hN) rfl rfl hl.1 rfl (lv_room (Nat.le_of_ble_eq_true rfl)) d_M_kind_5 ⟨Nat.zero_le _, Nat.zero_le _⟩)) (fun r_1 hr_1 => ?_)
  subst hr_1
  refine lv_if_ne (tgt := 21) hx hb d_M_kind_8 (by decide) (fun c_8 => ?_) (fun c_8 => ?_)
  · refine lv_aload_n hx hb d_M_kind_21 rfl (lv_at hl 0 rfl) ?_
    refine va_get (D := D) (ci := 3) (v := .ref l2) (C := Q_M) (T := F_M) (N := 5) hx hb hg in_M hown hK hP 0 rfl rfl 2 (by decide) (hg _ g_127) (fun _ h9 => h9) rfl d_M_kind_22 ?_
    refine vp_callSi (va_Run.run (va_runV (As := []) (rest := []) ⟨hx, hb, hml, hown, hg⟩ (c_A_size_ok l D cI cZ cJ cO l2 x1 (nI n1) ea) (cwV 0 hg (gv g_378 g_379 g_380 g_21 g_381) rfl rfl rfl (by decide +kernel) ⟨Nat.le_of_ble_eq_true rfl, Nat.le_of_ble_eq_true rfl⟩) (pV (hP.sub [1] rfl) hK hN (va_recv hK (hP.sub [1] rfl) (ci := 0) (q0 := 0) rfl rfl)) rfl rfl hl.1 rfl (lv_room (Nat.le_of_ble_eq_true rfl)) d_M_kind_25 ⟨Nat.zero_le _, Nat.zero_le _⟩)) (fun r_2 hr_2 => ?_)
    subst hr_2
    refine lv_bipush (v := 16) hx hb d_M_kind_28 (by decide) ?_
    refine lv_icmp_lt (tgt := 43) hx hb d_M_kind_30 (by decide) (fun c_30 => ?_) (fun c_30 => ?_)
    · refine lv_aload_n hx hb d_M_kind_43 rfl (lv_at hl 0 rfl) ?_
      refine va_get (D := D) (ci := 3) (v := .ref l2) (C := Q_M) (T := F_M) (N := 5) hx hb hg in_M hown hK hP 0 rfl rfl 2 (by decide) (hg _ g_127) (fun _ h9 => h9) rfl d_M_kind_44 ?_
      refine va_new (ci := 5) (fs := [.int 0, .int 0, .int 0, .int 0]) (C := Q_N) (T := F_N) (N := 4) hx hb hg in_N tq_N tq_N_ok hown (hg _ g_518) (hg _ g_519) (hg _ g_38) hK hP hD hS hA rfl (fun j hj => by rcases (show j = 0 ∨ j = 1 ∨ j = 2 ∨ j = 3 by omega) with rfl | rfl | rfl | rfl <;> rfl) (show 0 + 1 ≤ 2 by omega) (show 0 + 4 ≤ 40 by omega) d_M_kind_47 (fun q_47 H hP hD hS => ?_)
      refine W.widen (k := 1) (n := 4) (by omega) (by omega) ?_
      have hP : va_P D cls [(o, .inr (3, [.ref r0, .ref l1, .ref l2, .ref l3, .ref bb])), (l2, .inr (0, [.int x1, .ref ea, .int (nI n1)])), (ea, .inl (cO, n1, .inr (.inr (.inr (.inr f))))), (q_47, .inr (5, [.int 0, .int 0, .int 0, .int 0]))] H := hP
      have hD : va_D A [(o, .inr (3, [.ref r0, .ref l1, .ref l2, .ref l3, .ref bb])), (l2, .inr (0, [.int x1, .ref ea, .int (nI n1)])), (ea, .inl (cO, n1, .inr (.inr (.inr (.inr f))))), (q_47, .inr (5, [.int 0, .int 0, .int 0, .int 0]))] := hD
      have hfe9 : ∀ i, i < n1 → ∀ y, f i = some y → (y = q_47 ∨ ∃ i, i < n1 ∧ f i = some y) := fun i hi y hy => Or.inr ⟨i, hi, hy⟩
      refine lv_dup hx hb d_M_kind_50 rfl ?_
      refine lv_iconst (v := (-1)) hx hb d_M_kind_51 (by decide) ?_
      refine lv_iload_n hx hb d_M_kind_52 rfl (lv_at hl 1 rfl) ?_
      refine lv_iconst (v := (-1)) hx hb d_M_kind_53 (by decide) ?_
      refine lv_iconst (v := (-1)) hx hb d_M_kind_54 (by decide) ?_
      have hP := hP.sub (ws' := [(q_47, .inr (5, [.int 0, .int 0, .int 0, .int 0]))] ++ [(o, .inr (3, [.ref r0, .ref l1, .ref l2, .ref l3, .ref bb])), (l2, .inr (0, [.int x1, .ref ea, .int (nI n1)])), (ea, .inl (cO, n1, .inr (.inr (.inr (.inr f)))))]) [3, 0, 1, 2] rfl
      have hD := hD.sub (ws' := [(q_47, .inr (5, [.int 0, .int 0, .int 0, .int 0]))] ++ [(o, .inr (3, [.ref r0, .ref l1, .ref l2, .ref l3, .ref bb])), (l2, .inr (0, [.int x1, .ref ea, .int (nI n1)])), (ea, .inl (cO, n1, .inr (.inr (.inr (.inr f)))))]) [3, 0, 1, 2] (by decide) rfl
      refine mcallv (wc := [(q_47, .inr (5, [.int 0, .int 0, .int 0, .int 0]))]) (wr := [(o, .inr (3, [.ref r0, .ref l1, .ref l2, .ref l3, .ref bb])), (l2, .inr (0, [.int x1, .ref ea, .int (nI n1)])), (ea, .inl (cO, n1, .inr (.inr (.inr (.inr f)))))]) (va_runI (As := [.int (-1), .int k9, .int (-1), .int (-1)]) (rest := [.ref q_47, .ref l2]) ⟨hx, hb, hml, hown, hg⟩ (c_N_init_ok l D cI cZ cJ cO H.size q_47 (-1) k9 (-1) (-1)) (cwI 4 hg (gq g_522) rfl rfl rfl (hg _ g_38) (hg _ g_520) (hg _ g_521) rfl (by decide +kernel) ⟨Nat.le_of_ble_eq_true rfl, Nat.le_of_ble_eq_true rfl⟩) (mS (As := .ref q_47 :: [.int (-1), .int k9, .int (-1), .int (-1)]) (ba_Pl hP) hK hN (ba_Dl hD)) rfl rfl hl.1 rfl (lv_room (Nat.le_of_ble_eq_true rfl)) d_M_kind_55 ⟨Nat.le_of_ble_eq_true rfl, Nat.le_of_ble_eq_true rfl⟩) hP hD hS hA (fun u_3 H locs hu_3 hP hD hS => ?_)
      subst hu_3
      have hP : va_P D cls [(q_47, .inr (5, [.int (-1), .int k9, .int (-1), .int (-1)])), (o, .inr (3, [.ref r0, .ref l1, .ref l2, .ref l3, .ref bb])), (l2, .inr (0, [.int x1, .ref ea, .int (nI n1)])), (ea, .inl (cO, n1, .inr (.inr (.inr (.inr f)))))] H := hP
      have hD : va_D A [(q_47, .inr (5, [.int (-1), .int k9, .int (-1), .int (-1)])), (o, .inr (3, [.ref r0, .ref l1, .ref l2, .ref l3, .ref bb])), (l2, .inr (0, [.int x1, .ref ea, .int (nI n1)])), (ea, .inl (cO, n1, .inr (.inr (.inr (.inr f)))))] := hD
      have hP := hP.sub (ws' := [(l2, .inr (0, [.int x1, .ref ea, .int (nI n1)])), (ea, .inl (cO, n1, .inr (.inr (.inr (.inr f)))))] ++ [(q_47, .inr (5, [.int (-1), .int k9, .int (-1), .int (-1)])), (o, .inr (3, [.ref r0, .ref l1, .ref l2, .ref l3, .ref bb]))]) [2, 3, 0, 1] rfl
      have hD := hD.sub (ws' := [(l2, .inr (0, [.int x1, .ref ea, .int (nI n1)])), (ea, .inl (cO, n1, .inr (.inr (.inr (.inr f)))))] ++ [(q_47, .inr (5, [.int (-1), .int k9, .int (-1), .int (-1)])), (o, .inr (3, [.ref r0, .ref l1, .ref l2, .ref l3, .ref bb]))]) [2, 3, 0, 1] (by decide) rfl
      refine mcalli (wc := [(l2, .inr (0, [.int x1, .ref ea, .int (nI n1)])), (ea, .inl (cO, n1, .inr (.inr (.inr (.inr f)))))]) (wr := [(q_47, .inr (5, [.int (-1), .int k9, .int (-1), .int (-1)])), (o, .inr (3, [.ref r0, .ref l1, .ref l2, .ref l3, .ref bb]))]) (va_runV (As := [.ref q_47]) (rest := []) ⟨hx, hb, hml, hown, hg⟩ (c_A_addG_ok l D cI cZ cJ cO H.size e0 mi "RubbingMirrors$Node" nw_29 (fun y => y = q_47 ∨ ∃ i, i < n1 ∧ f i = some y) l2 x1 ea n1 f (by omega) (by omega) hfe9 q_47 (Or.inl rfl)) (cwV 1 hg (gv g_394 g_395 g_396 g_21 g_397) rfl rfl rfl (by decide +kernel) ⟨Nat.le_of_ble_eq_true rfl, Nat.le_of_ble_eq_true rfl⟩) ⟨lp_blind, va_recv hK (ba_Pl hP) (ci := 0) (q0 := 0) rfl rfl, fun U hU hW => ⟨rfl, lPre2 hP hD hK hN hS hA hsP (fun y hy => by rcases hy with rfl | hy; exact ⟨va_recv hK (ba_Pr hP) (ci := 5) (q0 := 0) rfl rfl, notA hP hD (List.mem_of_getElem? (i := 0) rfl)⟩; exact eOld hD hS hA (hEl y hy)) U hU hW⟩⟩ rfl rfl hl.1 rfl (lv_room (Nat.le_of_ble_eq_true rfl)) d_M_kind_58 ⟨Nat.le_of_ble_eq_true rfl, Nat.le_of_ble_eq_true rfl⟩) hP hD hS hA (fun r_6 u_5 H locs hu_5 hP hD hS => ?_)
      obtain ⟨rfl, ea1, cap1, f1, rfl, hcp1, hcp2, hf1, hf2⟩ := hu_5
      have hP : va_P D cls [(l2, .inr (0, [.int (x1 + 1), .ref ea1, .int (nI (n1 + 1))])), (ea1, .inl (cO, cap1, .inr (.inr (.inr (.inr f1))))), (q_47, .inr (5, [.int (-1), .int k9, .int (-1), .int (-1)])), (o, .inr (3, [.ref r0, .ref l1, .ref l2, .ref l3, .ref bb]))] H := hP
      have hD : va_D A [(l2, .inr (0, [.int (x1 + 1), .ref ea1, .int (nI (n1 + 1))])), (ea1, .inl (cO, cap1, .inr (.inr (.inr (.inr f1))))), (q_47, .inr (5, [.int (-1), .int k9, .int (-1), .int (-1)])), (o, .inr (3, [.ref r0, .ref l1, .ref l2, .ref l3, .ref bb]))] := hD
      refine W.widen (k := 2) (n := 26) (by omega) (by omega) ?_
      refine lv_pop hx hb d_M_kind_61 rfl ?_
      refine lv_aload_n hx hb d_M_kind_62 rfl (lv_at hl 0 rfl) ?_
      refine va_get (D := D) (ci := 3) (v := .ref l2) (C := Q_M) (T := F_M) (N := 5) hx hb hg in_M hown hK hP 3 rfl rfl 2 (by decide) (hg _ g_127) (fun _ h9 => h9) rfl d_M_kind_63 ?_
      refine vp_callSi (va_Run.run (va_runV (As := []) (rest := []) ⟨hx, hb, hml, hown, hg⟩ (c_A_size_ok l D cI cZ cJ cO l2 (x1 + 1) (nI (n1 + 1)) ea1) (cwV 0 hg (gv g_378 g_379 g_380 g_21 g_381) rfl rfl rfl (by decide +kernel) ⟨Nat.le_of_ble_eq_true rfl, Nat.le_of_ble_eq_true rfl⟩) (pV (hP.sub [0] rfl) hK hN (va_recv hK (hP.sub [0] rfl) (ci := 0) (q0 := 0) rfl rfl)) rfl rfl hl.1 rfl (lv_room (Nat.le_of_ble_eq_true rfl)) d_M_kind_66 ⟨Nat.le_of_ble_eq_true rfl, Nat.le_of_ble_eq_true rfl⟩)) (fun r_7 hr_7 => ?_)
      subst hr_7
      refine lv_iconst (v := 1) hx hb d_M_kind_69 (by decide) ?_
      refine lv_isub hx hb d_M_kind_70 ?_
      have hP := hP.sub (ws' := [(o, .inr (3, [.ref r0, .ref l1, .ref l2, .ref l3, .ref bb])), (l2, .inr (0, [.int (x1 + 1), .ref ea1, .int (nI (n1 + 1))])), (ea1, .inl (cO, cap1, .inr (.inr (.inr (.inr f1))))), (q_47, .inr (5, [.int (-1), .int k9, .int (-1), .int (-1)]))]) [3, 0, 1, 2] rfl
      have hD := hD.sub (ws' := [(o, .inr (3, [.ref r0, .ref l1, .ref l2, .ref l3, .ref bb])), (l2, .inr (0, [.int (x1 + 1), .ref ea1, .int (nI (n1 + 1))])), (ea1, .inl (cO, cap1, .inr (.inr (.inr (.inr f1))))), (q_47, .inr (5, [.int (-1), .int k9, .int (-1), .int (-1)]))]) [3, 0, 1, 2] (by decide) rfl
      refine vx_ret ?_
      refine W.widen (k := 2) (n := 40) (by omega) (by omega) ?_
      exact W.iret hx hb hr (fun t9 ht hW => ⟨⟨_, [(o, .inr (3, [.ref r0, .ref l1, .ref l2, .ref l3, .ref bb])), (l2, .inr (0, [.int (x1 + 1), .ref ea1, .int (nI (n1 + 1))])), (ea1, .inl (cO, cap1, .inr (.inr (.inr (.inr f1))))), (q_47, .inr (5, [.int (-1), .int k9, .int (-1), .int (-1)]))], rfl, ⟨ck_0 c_8 (nn16d c_30), nI_pred _, q_47, ea1, cap1, f1, rfl, hcp1, hcp2, hf1, hf2⟩, by rw [ht]; exact hP, va_K.moved hW.alike hK, hD⟩, hS.F ht⟩) hS.2.2 d_M_kind_71
    · exact thrw hx hb hlt hown hg hN x_S st_161 hU hV hS (by rw [hml]; exact hl.1) d_M_kind_33 d_M_kind_36 d_M_kind_37 d_M_kind_39 d_M_kind_42 hno (Nat.le_of_ble_eq_true rfl) (Nat.le_of_ble_eq_true rfl) (Nat.le_of_ble_eq_true rfl) (Nat.le_of_ble_eq_true rfl) hlocks hP hK hD rfl (Or.inr ⟨ck_2 c_8 (nn16c (by omega) c_30), rfl⟩) (Nat.le_of_ble_eq_true rfl) (Nat.le_of_ble_eq_true rfl)
  · exact thrw hx hb hlt hown hg hN x_A st_159 hU hV hS (by rw [hml]; exact hl.1) d_M_kind_11 d_M_kind_14 d_M_kind_15 d_M_kind_17 d_M_kind_20 hno (Nat.le_of_ble_eq_true rfl) (Nat.le_of_ble_eq_true rfl) (Nat.le_of_ble_eq_true rfl) (Nat.le_of_ble_eq_true rfl) hlocks hP hK hD rfl (Or.inl ⟨ck_1 c_8, rfl⟩) (Nat.le_of_ble_eq_true rfl) (Nat.le_of_ble_eq_true rfl)

set_option maxHeartbeats 4000000 in
set_option maxRecDepth 100000 in
/-- M_question -/
theorem c_M_questionV_ok (l : Launch) (hlt : l.stackTraces = false) (D : va_G) (cI cZ cJ cO : ClassId) (sz e0 mi : Nat) (o r0 l1 l2 l3 bb : Nat) (x1 : Int32) (q9 a9 b9 : Int32) : vx_Met l y_M_question (wq y_M_question c_M_question 5 (some .int)) ({ frames := 7, cells := 2, slots := 40, locals := 191 }) (gP D (TY cI cZ cJ cO) [(o, .inr (3, [.ref r0, .ref l1, .ref l2, .ref l3, .ref bb])), (l2, .inr (0, [.int x1, .ref e0, .int 0]))] [.ref o, .int q9, .int a9, .int b9] sz e0 mi "RubbingMirrors$Node" (fun y => False)) (va_Qi (fun (r : Int32) (u : va_W) => cQue q9 a9 b9 0 = 0 ∧ r = nI 0 ∧ ∃ (q ea1 cap1 : Nat) (f1 : Nat → Option Nat), u = [(o, .inr (3, [.ref r0, .ref l1, .ref l2, .ref l3, .ref bb])), (l2, .inr (0, [.int (x1 + 1), .ref ea1, .int (nI (0 + 1))])), (ea1, .inl (cO, cap1, .inr (.inr (.inr (.inr f1))))), (q, .inr (5, [.int q9, .int (-1), .int a9, .int b9]))] ∧ 0 + 1 ≤ cap1 ∧ cap1 = 10 ∧ (∀ i, i < 0 → f1 i = (fun _ => none) i) ∧ f1 0 = some q) (mB D (TY cI cZ cJ cO) (va_A [(o, .inr (3, [.ref r0, .ref l1, .ref l2, .ref l3, .ref bb])), (l2, .inr (0, [.int x1, .ref e0, .int 0]))] sz)) (va_A [(o, .inr (3, [.ref r0, .ref l1, .ref l2, .ref l3, .ref bb])), (l2, .inr (0, [.int x1, .ref e0, .int 0]))] sz)) (vx_X (fun (u : va_W) => u = [(o, .inr (3, [.ref r0, .ref l1, .ref l2, .ref l3, .ref bb])), (l2, .inr (0, [.int x1, .ref e0, .int 0]))]) (xB D (TY cI cZ cJ cO) (va_A [(o, .inr (3, [.ref r0, .ref l1, .ref l2, .ref l3, .ref bb])), (l2, .inr (0, [.int x1, .ref e0, .int 0]))] sz) (fun E => (cQue q9 a9 b9 0 = 1 ∧ E = eI) ∨ (cQue q9 a9 b9 0 = 2 ∧ E = eA) ∨ (cQue q9 a9 b9 0 = 3 ∧ E = eS))) (va_A [(o, .inr (3, [.ref r0, .ref l1, .ref l2, .ref l3, .ref bb])), (l2, .inr (0, [.int x1, .ref e0, .int 0]))] sz)) 2 40 (va_A [(o, .inr (3, [.ref r0, .ref l1, .ref l2, .ref l3, .ref bb])), (l2, .inr (0, [.int x1, .ref e0, .int 0]))] sz) := by
  refine vx_ofW (cc := c_M_question) (maxL := 5) (ret := (some .int)) (by decide) rfl ?_
  intro p e s m args below meth c s₁ B hml hno hv
  obtain ⟨rfl, hsz, hP, hK, hD0, hN, hU, hV, hsP, hEl⟩ := hv
  have hx := B.exec
  have hb := B.bytes
  have hr := B.returns
  have hg := gt_h (atoms_spec (ws := (wq y_M_question c_M_question 5 (some .int))) B.pre)
  have hown : s.vm.findClass "RubbingMirrors" = some m.cls := findClass_of_methodNamed B.named
  have hlocks := B.notSynchronized
  subst hsz
  have hD := hD0.self (sz := s.heap.size)
  generalize hAe : va_A [(o, .inr (3, [.ref r0, .ref l1, .ref l2, .ref l3, .ref bb])), (l2, .inr (0, [.int x1, .ref e0, .int 0]))] s.heap.size = A at hD hU hV hsP hEl ⊢
  have hA : ∀ q : Nat, s.heap.size ≤ q → A q := fun q h => by rw [← hAe]; exact Or.inr h
  have hS : va_S A s.heap s.heap [] := va_S.rf
  have hl := lv_entry ([.ref o, .int q9, .int a9, .int b9]) (n := 5) (Nat.le_of_ble_eq_true rfl)
  rw [lg_entry_eq]
  generalize (lg_sl ([.ref o, .int q9, .int a9, .int b9]) ++ List.replicate (5 - (lg_sl ([.ref o, .int q9, .int a9, .int b9])).length) Slot.unset).toArray = ls at hl ⊢
  have hl : lv_has ls 5 [(0, .ref o), (1, .int q9), (2, .int a9), (3, .int b9)] := hl
  refine lv_aload_n hx hb d_M_question_0 rfl (lv_at hl 0 rfl) ?_
  refine va_get (D := D) (ci := 3) (v := .ref l2) (C := Q_M) (T := F_M) (N := 5) hx hb hg in_M hown hK hP 0 rfl rfl 2 (by decide) (hg _ g_127) (fun _ h9 => h9) rfl d_M_question_1 ?_
  refine vp_callSi (va_Run.run (va_runV (As := []) (rest := []) ⟨hx, hb, hml, hown, hg⟩ (c_A_size_ok l D cI cZ cJ cO l2 x1 0 e0) (cwV 0 hg (gv g_378 g_379 g_380 g_21 g_381) rfl rfl rfl (by decide +kernel) ⟨Nat.le_of_ble_eq_true rfl, Nat.le_of_ble_eq_true rfl⟩) (pV (hP.sub [1] rfl) hK hN (va_recv hK (hP.sub [1] rfl) (ci := 0) (q0 := 0) rfl rfl)) rfl rfl hl.1 rfl (lv_room (Nat.le_of_ble_eq_true rfl)) d_M_question_4 ⟨Nat.zero_le _, Nat.zero_le _⟩)) (fun r_1 hr_1 => ?_)
  subst hr_1
  refine lv_iconst (v := 1) hx hb d_M_question_7 (by decide) ?_
  refine lv_isub hx hb d_M_question_8 ?_
  refine lv_istore (lv' := [(4, .int (0 - 1)), (0, .ref o), (1, .int q9), (2, .int a9), (3, .int b9)]) hx hb d_M_question_9 hl (by decide) rfl (fun ls hl => ?_)
  refine lv_iload_n hx hb d_M_question_11 rfl (lv_at hl 3 rfl) ?_
  refine lv_iconst (v := 0) hx hb d_M_question_12 (by decide) ?_
  refine lv_iload hx hb d_M_question_13 (lv_at hl 0 rfl) ?_
  refine vp_callSi (va_Run.run (va_runS (As := [.int a9, .int 0, .int (0 - 1)]) (rest := []) ⟨hx, hb, hml, hown, hg⟩ (c_M_isWithin_ok l D cI cZ cJ cO a9 0 (0 - 1)) (va_cwS 3 hg (gs2 g_233 g_234 g_18 g_235) rfl rfl rfl (by decide +kernel) ⟨Nat.le_of_ble_eq_true rfl, Nat.le_of_ble_eq_true rfl⟩) (pS ba_nil hK hN) rfl rfl hl.1 rfl (lv_room (Nat.le_of_ble_eq_true rfl)) d_M_question_15 ⟨Nat.zero_le _, Nat.zero_le _⟩)) (fun r_2 hr_2 => ?_)
  subst hr_2
  refine lv_if_eq (tgt := 31) hx hb d_M_question_18 (by decide) (fun c_18 => ?_) (fun c_18 => ?_)
  · exact thrw hx hb hlt hown hg hN x_I st_168 hU hV hS (by rw [hml]; exact hl.1) d_M_question_31 d_M_question_34 d_M_question_35 d_M_question_37 d_M_question_40 hno (Nat.le_of_ble_eq_true rfl) (Nat.le_of_ble_eq_true rfl) (Nat.le_of_ble_eq_true rfl) (Nat.le_of_ble_eq_true rfl) hlocks hP hK hD rfl (Or.inl ⟨cq_1 c_18, rfl⟩) (Nat.le_of_ble_eq_true rfl) (Nat.le_of_ble_eq_true rfl)
  · refine lv_iload_n hx hb d_M_question_21 rfl (lv_at hl 4 rfl) ?_
    refine lv_iconst (v := 0) hx hb d_M_question_22 (by decide) ?_
    refine lv_iload hx hb d_M_question_23 (lv_at hl 0 rfl) ?_
    refine vp_callSi (va_Run.run (va_runS (As := [.int b9, .int 0, .int (0 - 1)]) (rest := []) ⟨hx, hb, hml, hown, hg⟩ (c_M_isWithin_ok l D cI cZ cJ cO b9 0 (0 - 1)) (va_cwS 3 hg (gs2 g_233 g_234 g_18 g_235) rfl rfl rfl (by decide +kernel) ⟨Nat.le_of_ble_eq_true rfl, Nat.le_of_ble_eq_true rfl⟩) (pS ba_nil hK hN) rfl rfl hl.1 rfl (lv_room (Nat.le_of_ble_eq_true rfl)) d_M_question_25 ⟨Nat.zero_le _, Nat.zero_le _⟩)) (fun r_3 hr_3 => ?_)
    subst hr_3
    refine lv_if_ne (tgt := 41) hx hb d_M_question_28 (by decide) (fun c_28 => ?_) (fun c_28 => ?_)
    · refine lv_iload_n hx hb d_M_question_41 rfl (lv_at hl 2 rfl) ?_
      refine lv_iconst (v := 0) hx hb d_M_question_42 (by decide) ?_
      refine lv_bipush (v := 15) hx hb d_M_question_43 (by decide) ?_
      refine vp_callSi (va_Run.run (va_runS (As := [.int q9, .int 0, .int 15]) (rest := []) ⟨hx, hb, hml, hown, hg⟩ (c_M_isWithin_ok l D cI cZ cJ cO q9 0 15) (va_cwS 3 hg (gs2 g_233 g_234 g_18 g_235) rfl rfl rfl (by decide +kernel) ⟨Nat.le_of_ble_eq_true rfl, Nat.le_of_ble_eq_true rfl⟩) (pS ba_nil hK hN) rfl rfl hl.1 rfl (lv_room (Nat.le_of_ble_eq_true rfl)) d_M_question_45 ⟨Nat.zero_le _, Nat.zero_le _⟩)) (fun r_4 hr_4 => ?_)
      subst hr_4
      refine lv_if_ne (tgt := 61) hx hb d_M_question_48 (by decide) (fun c_48 => ?_) (fun c_48 => ?_)
      · refine lv_aload_n hx hb d_M_question_61 rfl (lv_at hl 1 rfl) ?_
        refine va_get (D := D) (ci := 3) (v := .ref l2) (C := Q_M) (T := F_M) (N := 5) hx hb hg in_M hown hK hP 0 rfl rfl 2 (by decide) (hg _ g_127) (fun _ h9 => h9) rfl d_M_question_62 ?_
        refine vp_callSi (va_Run.run (va_runV (As := []) (rest := []) ⟨hx, hb, hml, hown, hg⟩ (c_A_size_ok l D cI cZ cJ cO l2 x1 0 e0) (cwV 0 hg (gv g_378 g_379 g_380 g_21 g_381) rfl rfl rfl (by decide +kernel) ⟨Nat.le_of_ble_eq_true rfl, Nat.le_of_ble_eq_true rfl⟩) (pV (hP.sub [1] rfl) hK hN (va_recv hK (hP.sub [1] rfl) (ci := 0) (q0 := 0) rfl rfl)) rfl rfl hl.1 rfl (lv_room (Nat.le_of_ble_eq_true rfl)) d_M_question_65 ⟨Nat.zero_le _, Nat.zero_le _⟩)) (fun r_5 hr_5 => ?_)
        subst hr_5
        refine lv_bipush (v := 16) hx hb d_M_question_68 (by decide) ?_
        refine lv_icmp_lt (tgt := 83) hx hb d_M_question_70 (by decide) (fun c_70 => ?_) (fun c_70 => ?_)
        · refine lv_aload_n hx hb d_M_question_83 rfl (lv_at hl 1 rfl) ?_
          refine va_get (D := D) (ci := 3) (v := .ref l2) (C := Q_M) (T := F_M) (N := 5) hx hb hg in_M hown hK hP 0 rfl rfl 2 (by decide) (hg _ g_127) (fun _ h9 => h9) rfl d_M_question_84 ?_
          refine va_new (ci := 5) (fs := [.int 0, .int 0, .int 0, .int 0]) (C := Q_N) (T := F_N) (N := 4) hx hb hg in_N tq_N tq_N_ok hown (hg _ g_518) (hg _ g_519) (hg _ g_38) hK hP hD hS hA rfl (fun j hj => by rcases (show j = 0 ∨ j = 1 ∨ j = 2 ∨ j = 3 by omega) with rfl | rfl | rfl | rfl <;> rfl) (show 0 + 1 ≤ 2 by omega) (show 0 + 4 ≤ 40 by omega) d_M_question_87 (fun q_87 H hP hD hS => ?_)
          refine W.widen (k := 1) (n := 4) (by omega) (by omega) ?_
          have hP : va_P D cls [(o, .inr (3, [.ref r0, .ref l1, .ref l2, .ref l3, .ref bb])), (l2, .inr (0, [.int x1, .ref e0, .int 0])), (q_87, .inr (5, [.int 0, .int 0, .int 0, .int 0]))] H := hP
          have hD : va_D A [(o, .inr (3, [.ref r0, .ref l1, .ref l2, .ref l3, .ref bb])), (l2, .inr (0, [.int x1, .ref e0, .int 0])), (q_87, .inr (5, [.int 0, .int 0, .int 0, .int 0]))] := hD
          refine lv_dup hx hb d_M_question_90 rfl ?_
          refine lv_iload_n hx hb d_M_question_91 rfl (lv_at hl 2 rfl) ?_
          refine lv_iconst (v := (-1)) hx hb d_M_question_92 (by decide) ?_
          refine lv_iload_n hx hb d_M_question_93 rfl (lv_at hl 3 rfl) ?_
          refine lv_iload_n hx hb d_M_question_94 rfl (lv_at hl 4 rfl) ?_
          have hP := hP.sub (ws' := [(q_87, .inr (5, [.int 0, .int 0, .int 0, .int 0]))] ++ [(o, .inr (3, [.ref r0, .ref l1, .ref l2, .ref l3, .ref bb])), (l2, .inr (0, [.int x1, .ref e0, .int 0]))]) [2, 0, 1] rfl
          have hD := hD.sub (ws' := [(q_87, .inr (5, [.int 0, .int 0, .int 0, .int 0]))] ++ [(o, .inr (3, [.ref r0, .ref l1, .ref l2, .ref l3, .ref bb])), (l2, .inr (0, [.int x1, .ref e0, .int 0]))]) [2, 0, 1] (by decide) rfl
          refine mcallv (wc := [(q_87, .inr (5, [.int 0, .int 0, .int 0, .int 0]))]) (wr := [(o, .inr (3, [.ref r0, .ref l1, .ref l2, .ref l3, .ref bb])), (l2, .inr (0, [.int x1, .ref e0, .int 0]))]) (va_runI (As := [.int q9, .int (-1), .int a9, .int b9]) (rest := [.ref q_87, .ref l2]) ⟨hx, hb, hml, hown, hg⟩ (c_N_init_ok l D cI cZ cJ cO H.size q_87 q9 (-1) a9 b9) (cwI 4 hg (gq g_522) rfl rfl rfl (hg _ g_38) (hg _ g_520) (hg _ g_521) rfl (by decide +kernel) ⟨Nat.le_of_ble_eq_true rfl, Nat.le_of_ble_eq_true rfl⟩) (mS (As := .ref q_87 :: [.int q9, .int (-1), .int a9, .int b9]) (ba_Pl hP) hK hN (ba_Dl hD)) rfl rfl hl.1 rfl (lv_room (Nat.le_of_ble_eq_true rfl)) d_M_question_95 ⟨Nat.le_of_ble_eq_true rfl, Nat.le_of_ble_eq_true rfl⟩) hP hD hS hA (fun u_6 H locs hu_6 hP hD hS => ?_)
          subst hu_6
          have hP : va_P D cls [(q_87, .inr (5, [.int q9, .int (-1), .int a9, .int b9])), (o, .inr (3, [.ref r0, .ref l1, .ref l2, .ref l3, .ref bb])), (l2, .inr (0, [.int x1, .ref e0, .int 0]))] H := hP
          have hD : va_D A [(q_87, .inr (5, [.int q9, .int (-1), .int a9, .int b9])), (o, .inr (3, [.ref r0, .ref l1, .ref l2, .ref l3, .ref bb])), (l2, .inr (0, [.int x1, .ref e0, .int 0]))] := hD
          have hP := hP.sub (ws' := [(l2, .inr (0, [.int x1, .ref e0, .int 0]))] ++ [(q_87, .inr (5, [.int q9, .int (-1), .int a9, .int b9])), (o, .inr (3, [.ref r0, .ref l1, .ref l2, .ref l3, .ref bb]))]) [2, 0, 1] rfl
          have hD := hD.sub (ws' := [(l2, .inr (0, [.int x1, .ref e0, .int 0]))] ++ [(q_87, .inr (5, [.int q9, .int (-1), .int a9, .int b9])), (o, .inr (3, [.ref r0, .ref l1, .ref l2, .ref l3, .ref bb]))]) [2, 0, 1] (by decide) rfl
          refine mcalli (wc := [(l2, .inr (0, [.int x1, .ref e0, .int 0]))]) (wr := [(q_87, .inr (5, [.int q9, .int (-1), .int a9, .int b9])), (o, .inr (3, [.ref r0, .ref l1, .ref l2, .ref l3, .ref bb]))]) (va_runV (As := [.ref q_87]) (rest := []) ⟨hx, hb, hml, hown, hg⟩ (c_A_addV_ok l D cI cZ cJ cO H.size e0 mi "RubbingMirrors$Node" nw_29 (fun y => y = q_87 ∨ False) l2 x1 q_87 (Or.inl rfl)) (cwV 1 hg (gv g_394 g_395 g_396 g_21 g_397) rfl rfl rfl (by decide +kernel) ⟨Nat.le_of_ble_eq_true rfl, Nat.le_of_ble_eq_true rfl⟩) ⟨lp_blind, va_recv hK (ba_Pl hP) (ci := 0) (q0 := 0) rfl rfl, fun U hU hW => ⟨rfl, lPre2 hP hD hK hN hS hA hsP (fun y hy => by rcases hy with rfl | hy; exact ⟨va_recv hK (ba_Pr hP) (ci := 5) (q0 := 0) rfl rfl, notA hP hD (List.mem_of_getElem? (i := 0) rfl)⟩; exact hy.elim) U hU hW⟩⟩ rfl rfl hl.1 rfl (lv_room (Nat.le_of_ble_eq_true rfl)) d_M_question_98 ⟨Nat.le_of_ble_eq_true rfl, Nat.le_of_ble_eq_true rfl⟩) hP hD hS hA (fun r_9 u_8 H locs hu_8 hP hD hS => ?_)
          obtain ⟨rfl, ea1, cap1, f1, rfl, hcp1, hcp2, hf1, hf2⟩ := hu_8
          have hP : va_P D cls [(l2, .inr (0, [.int (x1 + 1), .ref ea1, .int (nI (0 + 1))])), (ea1, .inl (cO, cap1, .inr (.inr (.inr (.inr f1))))), (q_87, .inr (5, [.int q9, .int (-1), .int a9, .int b9])), (o, .inr (3, [.ref r0, .ref l1, .ref l2, .ref l3, .ref bb]))] H := hP
          have hD : va_D A [(l2, .inr (0, [.int (x1 + 1), .ref ea1, .int (nI (0 + 1))])), (ea1, .inl (cO, cap1, .inr (.inr (.inr (.inr f1))))), (q_87, .inr (5, [.int q9, .int (-1), .int a9, .int b9])), (o, .inr (3, [.ref r0, .ref l1, .ref l2, .ref l3, .ref bb]))] := hD
          refine W.widen (k := 2) (n := 26) (by omega) (by omega) ?_
          refine lv_pop hx hb d_M_question_101 rfl ?_
          refine lv_aload_n hx hb d_M_question_102 rfl (lv_at hl 1 rfl) ?_
          refine va_get (D := D) (ci := 3) (v := .ref l2) (C := Q_M) (T := F_M) (N := 5) hx hb hg in_M hown hK hP 3 rfl rfl 2 (by decide) (hg _ g_127) (fun _ h9 => h9) rfl d_M_question_103 ?_
          refine vp_callSi (va_Run.run (va_runV (As := []) (rest := []) ⟨hx, hb, hml, hown, hg⟩ (c_A_size_ok l D cI cZ cJ cO l2 (x1 + 1) (nI (0 + 1)) ea1) (cwV 0 hg (gv g_378 g_379 g_380 g_21 g_381) rfl rfl rfl (by decide +kernel) ⟨Nat.le_of_ble_eq_true rfl, Nat.le_of_ble_eq_true rfl⟩) (pV (hP.sub [0] rfl) hK hN (va_recv hK (hP.sub [0] rfl) (ci := 0) (q0 := 0) rfl rfl)) rfl rfl hl.1 rfl (lv_room (Nat.le_of_ble_eq_true rfl)) d_M_question_106 ⟨Nat.le_of_ble_eq_true rfl, Nat.le_of_ble_eq_true rfl⟩)) (fun r_10 hr_10 => ?_)
          subst hr_10
          refine lv_iconst (v := 1) hx hb d_M_question_109 (by decide) ?_
          refine lv_isub hx hb d_M_question_110 ?_
          have hP := hP.sub (ws' := [(o, .inr (3, [.ref r0, .ref l1, .ref l2, .ref l3, .ref bb])), (l2, .inr (0, [.int (x1 + 1), .ref ea1, .int (nI (0 + 1))])), (ea1, .inl (cO, cap1, .inr (.inr (.inr (.inr f1))))), (q_87, .inr (5, [.int q9, .int (-1), .int a9, .int b9]))]) [3, 0, 1, 2] rfl
          have hD := hD.sub (ws' := [(o, .inr (3, [.ref r0, .ref l1, .ref l2, .ref l3, .ref bb])), (l2, .inr (0, [.int (x1 + 1), .ref ea1, .int (nI (0 + 1))])), (ea1, .inl (cO, cap1, .inr (.inr (.inr (.inr f1))))), (q_87, .inr (5, [.int q9, .int (-1), .int a9, .int b9]))]) [3, 0, 1, 2] (by decide) rfl
          refine vx_ret ?_
          refine W.widen (k := 2) (n := 40) (by omega) (by omega) ?_
          exact W.iret hx hb hr (fun t9 ht hW => ⟨⟨_, [(o, .inr (3, [.ref r0, .ref l1, .ref l2, .ref l3, .ref bb])), (l2, .inr (0, [.int (x1 + 1), .ref ea1, .int (nI (0 + 1))])), (ea1, .inl (cO, cap1, .inr (.inr (.inr (.inr f1))))), (q_87, .inr (5, [.int q9, .int (-1), .int a9, .int b9]))], rfl, ⟨cq_0 c_18 c_28 c_48 (by decide), nI_pred _, q_87, ea1, cap1, f1, rfl, hcp1, hcp2, hf1, hf2⟩, by rw [ht]; exact hP, va_K.moved hW.alike hK, hD⟩, hS.F ht⟩) hS.2.2 d_M_question_111
        · exact absurd c_70 (by decide)
      · exact thrw hx hb hlt hown hg hN x_A st_170 hU hV hS (by rw [hml]; exact hl.1) d_M_question_51 d_M_question_54 d_M_question_55 d_M_question_57 d_M_question_60 hno (Nat.le_of_ble_eq_true rfl) (Nat.le_of_ble_eq_true rfl) (Nat.le_of_ble_eq_true rfl) (Nat.le_of_ble_eq_true rfl) hlocks hP hK hD rfl (Or.inr (Or.inl ⟨cq_3 c_18 c_28 c_48, rfl⟩)) (Nat.le_of_ble_eq_true rfl) (Nat.le_of_ble_eq_true rfl)
    · exact thrw hx hb hlt hown hg hN x_I st_168 hU hV hS (by rw [hml]; exact hl.1) d_M_question_31 d_M_question_34 d_M_question_35 d_M_question_37 d_M_question_40 hno (Nat.le_of_ble_eq_true rfl) (Nat.le_of_ble_eq_true rfl) (Nat.le_of_ble_eq_true rfl) (Nat.le_of_ble_eq_true rfl) hlocks hP hK hD rfl (Or.inl ⟨cq_2 c_28, rfl⟩) (Nat.le_of_ble_eq_true rfl) (Nat.le_of_ble_eq_true rfl)

set_option maxHeartbeats 4000000 in
set_option maxRecDepth 100000 in
/-- M_question -/
theorem c_M_questionN_ok (l : Launch) (hlt : l.stackTraces = false) (D : va_G) (cI cZ cJ cO : ClassId) (sz e0 mi : Nat) (o r0 l1 l2 l3 bb : Nat) (x1 : Int32) (ea c9 n1 : Nat) (f : Nat → Option Nat) (hc9 : c9 ≤ 16) (hcn : c9 < n1) (hn1 : n1 ≤ 22) (q9 a9 b9 : Int32) : vx_Met l y_M_question (wq y_M_question c_M_question 5 (some .int)) ({ frames := 7, cells := 2, slots := 40, locals := 191 }) (gP D (TY cI cZ cJ cO) [(o, .inr (3, [.ref r0, .ref l1, .ref l2, .ref l3, .ref bb])), (l2, .inr (0, [.int x1, .ref ea, .int (nI c9)])), (ea, .inl (cO, n1, .inr (.inr (.inr (.inr f)))))] [.ref o, .int q9, .int a9, .int b9] sz e0 mi "RubbingMirrors$Node" (fun y => False)) (va_Qi (fun (r : Int32) (u : va_W) => cQue q9 a9 b9 c9 = 0 ∧ r = nI c9 ∧ ∃ (q ea1 cap1 : Nat) (f1 : Nat → Option Nat), u = [(o, .inr (3, [.ref r0, .ref l1, .ref l2, .ref l3, .ref bb])), (l2, .inr (0, [.int (x1 + 1), .ref ea1, .int (nI (c9 + 1))])), (ea1, .inl (cO, cap1, .inr (.inr (.inr (.inr f1))))), (q, .inr (5, [.int q9, .int (-1), .int a9, .int b9]))] ∧ c9 + 1 ≤ cap1 ∧ cap1 = n1 ∧ (∀ i, i < c9 → f1 i = f i) ∧ f1 c9 = some q) (mB D (TY cI cZ cJ cO) (va_A [(o, .inr (3, [.ref r0, .ref l1, .ref l2, .ref l3, .ref bb])), (l2, .inr (0, [.int x1, .ref ea, .int (nI c9)])), (ea, .inl (cO, n1, .inr (.inr (.inr (.inr f)))))] sz)) (va_A [(o, .inr (3, [.ref r0, .ref l1, .ref l2, .ref l3, .ref bb])), (l2, .inr (0, [.int x1, .ref ea, .int (nI c9)])), (ea, .inl (cO, n1, .inr (.inr (.inr (.inr f)))))] sz)) (vx_X (fun (u : va_W) => u = [(o, .inr (3, [.ref r0, .ref l1, .ref l2, .ref l3, .ref bb])), (l2, .inr (0, [.int x1, .ref ea, .int (nI c9)])), (ea, .inl (cO, n1, .inr (.inr (.inr (.inr f)))))]) (xB D (TY cI cZ cJ cO) (va_A [(o, .inr (3, [.ref r0, .ref l1, .ref l2, .ref l3, .ref bb])), (l2, .inr (0, [.int x1, .ref ea, .int (nI c9)])), (ea, .inl (cO, n1, .inr (.inr (.inr (.inr f)))))] sz) (fun E => (cQue q9 a9 b9 c9 = 1 ∧ E = eI) ∨ (cQue q9 a9 b9 c9 = 2 ∧ E = eA) ∨ (cQue q9 a9 b9 c9 = 3 ∧ E = eS))) (va_A [(o, .inr (3, [.ref r0, .ref l1, .ref l2, .ref l3, .ref bb])), (l2, .inr (0, [.int x1, .ref ea, .int (nI c9)])), (ea, .inl (cO, n1, .inr (.inr (.inr (.inr f)))))] sz)) 2 40 (va_A [(o, .inr (3, [.ref r0, .ref l1, .ref l2, .ref l3, .ref bb])), (l2, .inr (0, [.int x1, .ref ea, .int (nI c9)])), (ea, .inl (cO, n1, .inr (.inr (.inr (.inr f)))))] sz) := by
  refine vx_ofW (cc := c_M_question) (maxL := 5) (ret := (some .int)) (by decide) rfl ?_
  intro p e s m args below meth c s₁ B hml hno hv
  obtain ⟨rfl, hsz, hP, hK, hD0, hN, hU, hV, hsP, hEl⟩ := hv
  have hx := B.exec
  have hb := B.bytes
  have hr := B.returns
  have hg := gt_h (atoms_spec (ws := (wq y_M_question c_M_question 5 (some .int))) B.pre)
  have hown : s.vm.findClass "RubbingMirrors" = some m.cls := findClass_of_methodNamed B.named
  have hlocks := B.notSynchronized
  subst hsz
  have hD := hD0.self (sz := s.heap.size)
  generalize hAe : va_A [(o, .inr (3, [.ref r0, .ref l1, .ref l2, .ref l3, .ref bb])), (l2, .inr (0, [.int x1, .ref ea, .int (nI c9)])), (ea, .inl (cO, n1, .inr (.inr (.inr (.inr f)))))] s.heap.size = A at hD hU hV hsP hEl ⊢
  have hA : ∀ q : Nat, s.heap.size ≤ q → A q := fun q h => by rw [← hAe]; exact Or.inr h
  have hS : va_S A s.heap s.heap [] := va_S.rf
  have hl := lv_entry ([.ref o, .int q9, .int a9, .int b9]) (n := 5) (Nat.le_of_ble_eq_true rfl)
  rw [lg_entry_eq]
  generalize (lg_sl ([.ref o, .int q9, .int a9, .int b9]) ++ List.replicate (5 - (lg_sl ([.ref o, .int q9, .int a9, .int b9])).length) Slot.unset).toArray = ls at hl ⊢
  have hl : lv_has ls 5 [(0, .ref o), (1, .int q9), (2, .int a9), (3, .int b9)] := hl
  refine lv_aload_n hx hb d_M_question_0 rfl (lv_at hl 0 rfl) ?_
  refine va_get (D := D) (ci := 3) (v := .ref l2) (C := Q_M) (T := F_M) (N := 5) hx hb hg in_M hown hK hP 0 rfl rfl 2 (by decide) (hg _ g_127) (fun _ h9 => h9) rfl d_M_question_1 ?_
  refine vp_callSi (va_Run.run (va_runV (As := []) (rest := []) ⟨hx, hb, hml, hown, hg⟩ (c_A_size_ok l D cI cZ cJ cO l2 x1 (nI c9) ea) (cwV 0 hg (gv g_378 g_379 g_380 g_21 g_381) rfl rfl rfl (by decide +kernel) ⟨Nat.le_of_ble_eq_true rfl, Nat.le_of_ble_eq_true rfl⟩) (pV (hP.sub [1] rfl) hK hN (va_recv hK (hP.sub [1] rfl) (ci := 0) (q0 := 0) rfl rfl)) rfl rfl hl.1 rfl (lv_room (Nat.le_of_ble_eq_true rfl)) d_M_question_4 ⟨Nat.zero_le _, Nat.zero_le _⟩)) (fun r_1 hr_1 => ?_)
  subst hr_1
  refine lv_iconst (v := 1) hx hb d_M_question_7 (by decide) ?_
  refine lv_isub hx hb d_M_question_8 ?_
  refine lv_istore (lv' := [(4, .int ((nI c9) - 1)), (0, .ref o), (1, .int q9), (2, .int a9), (3, .int b9)]) hx hb d_M_question_9 hl (by decide) rfl (fun ls hl => ?_)
  refine lv_iload_n hx hb d_M_question_11 rfl (lv_at hl 3 rfl) ?_
  refine lv_iconst (v := 0) hx hb d_M_question_12 (by decide) ?_
  refine lv_iload hx hb d_M_question_13 (lv_at hl 0 rfl) ?_
  refine vp_callSi (va_Run.run (va_runS (As := [.int a9, .int 0, .int ((nI c9) - 1)]) (rest := []) ⟨hx, hb, hml, hown, hg⟩ (c_M_isWithin_ok l D cI cZ cJ cO a9 0 ((nI c9) - 1)) (va_cwS 3 hg (gs2 g_233 g_234 g_18 g_235) rfl rfl rfl (by decide +kernel) ⟨Nat.le_of_ble_eq_true rfl, Nat.le_of_ble_eq_true rfl⟩) (pS ba_nil hK hN) rfl rfl hl.1 rfl (lv_room (Nat.le_of_ble_eq_true rfl)) d_M_question_15 ⟨Nat.zero_le _, Nat.zero_le _⟩)) (fun r_2 hr_2 => ?_)
  subst hr_2
  refine lv_if_eq (tgt := 31) hx hb d_M_question_18 (by decide) (fun c_18 => ?_) (fun c_18 => ?_)
  · exact thrw hx hb hlt hown hg hN x_I st_168 hU hV hS (by rw [hml]; exact hl.1) d_M_question_31 d_M_question_34 d_M_question_35 d_M_question_37 d_M_question_40 hno (Nat.le_of_ble_eq_true rfl) (Nat.le_of_ble_eq_true rfl) (Nat.le_of_ble_eq_true rfl) (Nat.le_of_ble_eq_true rfl) hlocks hP hK hD rfl (Or.inl ⟨cq_1 c_18, rfl⟩) (Nat.le_of_ble_eq_true rfl) (Nat.le_of_ble_eq_true rfl)
  · refine lv_iload_n hx hb d_M_question_21 rfl (lv_at hl 4 rfl) ?_
    refine lv_iconst (v := 0) hx hb d_M_question_22 (by decide) ?_
    refine lv_iload hx hb d_M_question_23 (lv_at hl 0 rfl) ?_
    refine vp_callSi (va_Run.run (va_runS (As := [.int b9, .int 0, .int ((nI c9) - 1)]) (rest := []) ⟨hx, hb, hml, hown, hg⟩ (c_M_isWithin_ok l D cI cZ cJ cO b9 0 ((nI c9) - 1)) (va_cwS 3 hg (gs2 g_233 g_234 g_18 g_235) rfl rfl rfl (by decide +kernel) ⟨Nat.le_of_ble_eq_true rfl, Nat.le_of_ble_eq_true rfl⟩) (pS ba_nil hK hN) rfl rfl hl.1 rfl (lv_room (Nat.le_of_ble_eq_true rfl)) d_M_question_25 ⟨Nat.zero_le _, Nat.zero_le _⟩)) (fun r_3 hr_3 => ?_)
    subst hr_3
    refine lv_if_ne (tgt := 41) hx hb d_M_question_28 (by decide) (fun c_28 => ?_) (fun c_28 => ?_)
    · refine lv_iload_n hx hb d_M_question_41 rfl (lv_at hl 2 rfl) ?_
      refine lv_iconst (v := 0) hx hb d_M_question_42 (by decide) ?_
      refine lv_bipush (v := 15) hx hb d_M_question_43 (by decide) ?_
      refine vp_callSi (va_Run.run (va_runS (As := [.int q9, .int 0, .int 15]) (rest := []) ⟨hx, hb, hml, hown, hg⟩ (c_M_isWithin_ok l D cI cZ cJ cO q9 0 15) (va_cwS 3 hg (gs2 g_233 g_234 g_18 g_235) rfl rfl rfl (by decide +kernel) ⟨Nat.le_of_ble_eq_true rfl, Nat.le_of_ble_eq_true rfl⟩) (pS ba_nil hK hN) rfl rfl hl.1 rfl (lv_room (Nat.le_of_ble_eq_true rfl)) d_M_question_45 ⟨Nat.zero_le _, Nat.zero_le _⟩)) (fun r_4 hr_4 => ?_)
      subst hr_4
      refine lv_if_ne (tgt := 61) hx hb d_M_question_48 (by decide) (fun c_48 => ?_) (fun c_48 => ?_)
      · refine lv_aload_n hx hb d_M_question_61 rfl (lv_at hl 1 rfl) ?_
        refine va_get (D := D) (ci := 3) (v := .ref l2) (C := Q_M) (T := F_M) (N := 5) hx hb hg in_M hown hK hP 0 rfl rfl 2 (by decide) (hg _ g_127) (fun _ h9 => h9) rfl d_M_question_62 ?_
        refine vp_callSi (va_Run.run (va_runV (As := []) (rest := []) ⟨hx, hb, hml, hown, hg⟩ (c_A_size_ok l D cI cZ cJ cO l2 x1 (nI c9) ea) (cwV 0 hg (gv g_378 g_379 g_380 g_21 g_381) rfl rfl rfl (by decide +kernel) ⟨Nat.le_of_ble_eq_true rfl, Nat.le_of_ble_eq_true rfl⟩) (pV (hP.sub [1] rfl) hK hN (va_recv hK (hP.sub [1] rfl) (ci := 0) (q0 := 0) rfl rfl)) rfl rfl hl.1 rfl (lv_room (Nat.le_of_ble_eq_true rfl)) d_M_question_65 ⟨Nat.zero_le _, Nat.zero_le _⟩)) (fun r_5 hr_5 => ?_)
        subst hr_5
        refine lv_bipush (v := 16) hx hb d_M_question_68 (by decide) ?_
        refine lv_icmp_lt (tgt := 83) hx hb d_M_question_70 (by decide) (fun c_70 => ?_) (fun c_70 => ?_)
        · refine lv_aload_n hx hb d_M_question_83 rfl (lv_at hl 1 rfl) ?_
          refine va_get (D := D) (ci := 3) (v := .ref l2) (C := Q_M) (T := F_M) (N := 5) hx hb hg in_M hown hK hP 0 rfl rfl 2 (by decide) (hg _ g_127) (fun _ h9 => h9) rfl d_M_question_84 ?_
          refine va_new (ci := 5) (fs := [.int 0, .int 0, .int 0, .int 0]) (C := Q_N) (T := F_N) (N := 4) hx hb hg in_N tq_N tq_N_ok hown (hg _ g_518) (hg _ g_519) (hg _ g_38) hK hP hD hS hA rfl (fun j hj => by rcases (show j = 0 ∨ j = 1 ∨ j = 2 ∨ j = 3 by omega) with rfl | rfl | rfl | rfl <;> rfl) (show 0 + 1 ≤ 2 by omega) (show 0 + 4 ≤ 40 by omega) d_M_question_87 (fun q_87 H hP hD hS => ?_)
          refine W.widen (k := 1) (n := 4) (by omega) (by omega) ?_
          have hP : va_P D cls [(o, .inr (3, [.ref r0, .ref l1, .ref l2, .ref l3, .ref bb])), (l2, .inr (0, [.int x1, .ref ea, .int (nI c9)])), (ea, .inl (cO, n1, .inr (.inr (.inr (.inr f))))), (q_87, .inr (5, [.int 0, .int 0, .int 0, .int 0]))] H := hP
          have hD : va_D A [(o, .inr (3, [.ref r0, .ref l1, .ref l2, .ref l3, .ref bb])), (l2, .inr (0, [.int x1, .ref ea, .int (nI c9)])), (ea, .inl (cO, n1, .inr (.inr (.inr (.inr f))))), (q_87, .inr (5, [.int 0, .int 0, .int 0, .int 0]))] := hD
          refine lv_dup hx hb d_M_question_90 rfl ?_
          refine lv_iload_n hx hb d_M_question_91 rfl (lv_at hl 2 rfl) ?_
          refine lv_iconst (v := (-1)) hx hb d_M_question_92 (by decide) ?_
          refine lv_iload_n hx hb d_M_question_93 rfl (lv_at hl 3 rfl) ?_
          refine lv_iload_n hx hb d_M_question_94 rfl (lv_at hl 4 rfl) ?_
          have hP := hP.sub (ws' := [(q_87, .inr (5, [.int 0, .int 0, .int 0, .int 0]))] ++ [(o, .inr (3, [.ref r0, .ref l1, .ref l2, .ref l3, .ref bb])), (l2, .inr (0, [.int x1, .ref ea, .int (nI c9)])), (ea, .inl (cO, n1, .inr (.inr (.inr (.inr f)))))]) [3, 0, 1, 2] rfl
          have hD := hD.sub (ws' := [(q_87, .inr (5, [.int 0, .int 0, .int 0, .int 0]))] ++ [(o, .inr (3, [.ref r0, .ref l1, .ref l2, .ref l3, .ref bb])), (l2, .inr (0, [.int x1, .ref ea, .int (nI c9)])), (ea, .inl (cO, n1, .inr (.inr (.inr (.inr f)))))]) [3, 0, 1, 2] (by decide) rfl
          refine mcallv (wc := [(q_87, .inr (5, [.int 0, .int 0, .int 0, .int 0]))]) (wr := [(o, .inr (3, [.ref r0, .ref l1, .ref l2, .ref l3, .ref bb])), (l2, .inr (0, [.int x1, .ref ea, .int (nI c9)])), (ea, .inl (cO, n1, .inr (.inr (.inr (.inr f)))))]) (va_runI (As := [.int q9, .int (-1), .int a9, .int b9]) (rest := [.ref q_87, .ref l2]) ⟨hx, hb, hml, hown, hg⟩ (c_N_init_ok l D cI cZ cJ cO H.size q_87 q9 (-1) a9 b9) (cwI 4 hg (gq g_522) rfl rfl rfl (hg _ g_38) (hg _ g_520) (hg _ g_521) rfl (by decide +kernel) ⟨Nat.le_of_ble_eq_true rfl, Nat.le_of_ble_eq_true rfl⟩) (mS (As := .ref q_87 :: [.int q9, .int (-1), .int a9, .int b9]) (ba_Pl hP) hK hN (ba_Dl hD)) rfl rfl hl.1 rfl (lv_room (Nat.le_of_ble_eq_true rfl)) d_M_question_95 ⟨Nat.le_of_ble_eq_true rfl, Nat.le_of_ble_eq_true rfl⟩) hP hD hS hA (fun u_6 H locs hu_6 hP hD hS => ?_)
          subst hu_6
          have hP : va_P D cls [(q_87, .inr (5, [.int q9, .int (-1), .int a9, .int b9])), (o, .inr (3, [.ref r0, .ref l1, .ref l2, .ref l3, .ref bb])), (l2, .inr (0, [.int x1, .ref ea, .int (nI c9)])), (ea, .inl (cO, n1, .inr (.inr (.inr (.inr f)))))] H := hP
          have hD : va_D A [(q_87, .inr (5, [.int q9, .int (-1), .int a9, .int b9])), (o, .inr (3, [.ref r0, .ref l1, .ref l2, .ref l3, .ref bb])), (l2, .inr (0, [.int x1, .ref ea, .int (nI c9)])), (ea, .inl (cO, n1, .inr (.inr (.inr (.inr f)))))] := hD
          have hP := hP.sub (ws' := [(l2, .inr (0, [.int x1, .ref ea, .int (nI c9)])), (ea, .inl (cO, n1, .inr (.inr (.inr (.inr f)))))] ++ [(q_87, .inr (5, [.int q9, .int (-1), .int a9, .int b9])), (o, .inr (3, [.ref r0, .ref l1, .ref l2, .ref l3, .ref bb]))]) [2, 3, 0, 1] rfl
          have hD := hD.sub (ws' := [(l2, .inr (0, [.int x1, .ref ea, .int (nI c9)])), (ea, .inl (cO, n1, .inr (.inr (.inr (.inr f)))))] ++ [(q_87, .inr (5, [.int q9, .int (-1), .int a9, .int b9])), (o, .inr (3, [.ref r0, .ref l1, .ref l2, .ref l3, .ref bb]))]) [2, 3, 0, 1] (by decide) rfl
          refine mcalli (wc := [(l2, .inr (0, [.int x1, .ref ea, .int (nI c9)])), (ea, .inl (cO, n1, .inr (.inr (.inr (.inr f)))))]) (wr := [(q_87, .inr (5, [.int q9, .int (-1), .int a9, .int b9])), (o, .inr (3, [.ref r0, .ref l1, .ref l2, .ref l3, .ref bb]))]) (va_runV (As := [.ref q_87]) (rest := []) ⟨hx, hb, hml, hown, hg⟩ (c_A_addN_ok l D cI cZ cJ cO H.size e0 mi "RubbingMirrors$Node" nw_29 (fun y => y = q_87 ∨ False) l2 x1 ea c9 n1 f (by omega) (by omega) q_87 (Or.inl rfl)) (cwV 1 hg (gv g_394 g_395 g_396 g_21 g_397) rfl rfl rfl (by decide +kernel) ⟨Nat.le_of_ble_eq_true rfl, Nat.le_of_ble_eq_true rfl⟩) ⟨lp_blind, va_recv hK (ba_Pl hP) (ci := 0) (q0 := 0) rfl rfl, fun U hU hW => ⟨rfl, lPre2 hP hD hK hN hS hA hsP (fun y hy => by rcases hy with rfl | hy; exact ⟨va_recv hK (ba_Pr hP) (ci := 5) (q0 := 0) rfl rfl, notA hP hD (List.mem_of_getElem? (i := 0) rfl)⟩; exact hy.elim) U hU hW⟩⟩ rfl rfl hl.1 rfl (lv_room (Nat.le_of_ble_eq_true rfl)) d_M_question_98 ⟨Nat.le_of_ble_eq_true rfl, Nat.le_of_ble_eq_true rfl⟩) hP hD hS hA (fun r_9 u_8 H locs hu_8 hP hD hS => ?_)
          obtain ⟨rfl, ea1, cap1, f1, rfl, hcp1, hcp2, hf1, hf2⟩ := hu_8
          have hP : va_P D cls [(l2, .inr (0, [.int (x1 + 1), .ref ea1, .int (nI (c9 + 1))])), (ea1, .inl (cO, cap1, .inr (.inr (.inr (.inr f1))))), (q_87, .inr (5, [.int q9, .int (-1), .int a9, .int b9])), (o, .inr (3, [.ref r0, .ref l1, .ref l2, .ref l3, .ref bb]))] H := hP
          have hD : va_D A [(l2, .inr (0, [.int (x1 + 1), .ref ea1, .int (nI (c9 + 1))])), (ea1, .inl (cO, cap1, .inr (.inr (.inr (.inr f1))))), (q_87, .inr (5, [.int q9, .int (-1), .int a9, .int b9])), (o, .inr (3, [.ref r0, .ref l1, .ref l2, .ref l3, .ref bb]))] := hD
          refine W.widen (k := 2) (n := 26) (by omega) (by omega) ?_
          refine lv_pop hx hb d_M_question_101 rfl ?_
          refine lv_aload_n hx hb d_M_question_102 rfl (lv_at hl 1 rfl) ?_
          refine va_get (D := D) (ci := 3) (v := .ref l2) (C := Q_M) (T := F_M) (N := 5) hx hb hg in_M hown hK hP 3 rfl rfl 2 (by decide) (hg _ g_127) (fun _ h9 => h9) rfl d_M_question_103 ?_
          refine vp_callSi (va_Run.run (va_runV (As := []) (rest := []) ⟨hx, hb, hml, hown, hg⟩ (c_A_size_ok l D cI cZ cJ cO l2 (x1 + 1) (nI (c9 + 1)) ea1) (cwV 0 hg (gv g_378 g_379 g_380 g_21 g_381) rfl rfl rfl (by decide +kernel) ⟨Nat.le_of_ble_eq_true rfl, Nat.le_of_ble_eq_true rfl⟩) (pV (hP.sub [0] rfl) hK hN (va_recv hK (hP.sub [0] rfl) (ci := 0) (q0 := 0) rfl rfl)) rfl rfl hl.1 rfl (lv_room (Nat.le_of_ble_eq_true rfl)) d_M_question_106 ⟨Nat.le_of_ble_eq_true rfl, Nat.le_of_ble_eq_true rfl⟩)) (fun r_10 hr_10 => ?_)
          subst hr_10
          refine lv_iconst (v := 1) hx hb d_M_question_109 (by decide) ?_
          refine lv_isub hx hb d_M_question_110 ?_
          have hP := hP.sub (ws' := [(o, .inr (3, [.ref r0, .ref l1, .ref l2, .ref l3, .ref bb])), (l2, .inr (0, [.int (x1 + 1), .ref ea1, .int (nI (c9 + 1))])), (ea1, .inl (cO, cap1, .inr (.inr (.inr (.inr f1))))), (q_87, .inr (5, [.int q9, .int (-1), .int a9, .int b9]))]) [3, 0, 1, 2] rfl
          have hD := hD.sub (ws' := [(o, .inr (3, [.ref r0, .ref l1, .ref l2, .ref l3, .ref bb])), (l2, .inr (0, [.int (x1 + 1), .ref ea1, .int (nI (c9 + 1))])), (ea1, .inl (cO, cap1, .inr (.inr (.inr (.inr f1))))), (q_87, .inr (5, [.int q9, .int (-1), .int a9, .int b9]))]) [3, 0, 1, 2] (by decide) rfl
          refine vx_ret ?_
          refine W.widen (k := 2) (n := 40) (by omega) (by omega) ?_
          exact W.iret hx hb hr (fun t9 ht hW => ⟨⟨_, [(o, .inr (3, [.ref r0, .ref l1, .ref l2, .ref l3, .ref bb])), (l2, .inr (0, [.int (x1 + 1), .ref ea1, .int (nI (c9 + 1))])), (ea1, .inl (cO, cap1, .inr (.inr (.inr (.inr f1))))), (q_87, .inr (5, [.int q9, .int (-1), .int a9, .int b9]))], rfl, ⟨cq_0 c_18 c_28 c_48 (nn16d c_70), nI_pred _, q_87, ea1, cap1, f1, rfl, hcp1, hcp2, hf1, hf2⟩, by rw [ht]; exact hP, va_K.moved hW.alike hK, hD⟩, hS.F ht⟩) hS.2.2 d_M_question_111
        · exact thrw hx hb hlt hown hg hN x_S st_161 hU hV hS (by rw [hml]; exact hl.1) d_M_question_73 d_M_question_76 d_M_question_77 d_M_question_79 d_M_question_82 hno (Nat.le_of_ble_eq_true rfl) (Nat.le_of_ble_eq_true rfl) (Nat.le_of_ble_eq_true rfl) (Nat.le_of_ble_eq_true rfl) hlocks hP hK hD rfl (Or.inr (Or.inr ⟨cq_4 c_18 c_28 c_48 (nn16c hc9 c_70), rfl⟩)) (Nat.le_of_ble_eq_true rfl) (Nat.le_of_ble_eq_true rfl)
      · exact thrw hx hb hlt hown hg hN x_A st_170 hU hV hS (by rw [hml]; exact hl.1) d_M_question_51 d_M_question_54 d_M_question_55 d_M_question_57 d_M_question_60 hno (Nat.le_of_ble_eq_true rfl) (Nat.le_of_ble_eq_true rfl) (Nat.le_of_ble_eq_true rfl) (Nat.le_of_ble_eq_true rfl) hlocks hP hK hD rfl (Or.inr (Or.inl ⟨cq_3 c_18 c_28 c_48, rfl⟩)) (Nat.le_of_ble_eq_true rfl) (Nat.le_of_ble_eq_true rfl)
    · exact thrw hx hb hlt hown hg hN x_I st_168 hU hV hS (by rw [hml]; exact hl.1) d_M_question_31 d_M_question_34 d_M_question_35 d_M_question_37 d_M_question_40 hno (Nat.le_of_ble_eq_true rfl) (Nat.le_of_ble_eq_true rfl) (Nat.le_of_ble_eq_true rfl) (Nat.le_of_ble_eq_true rfl) hlocks hP hK hD rfl (Or.inl ⟨cq_2 c_28, rfl⟩) (Nat.le_of_ble_eq_true rfl) (Nat.le_of_ble_eq_true rfl)

set_option maxHeartbeats 4000000 in
set_option maxRecDepth 100000 in
/-- M_question -/
theorem c_M_questionG_ok (l : Launch) (hlt : l.stackTraces = false) (D : va_G) (cI cZ cJ cO : ClassId) (sz e0 mi : Nat) (o r0 l1 l2 l3 bb : Nat) (x1 : Int32) (ea n1 : Nat) (f : Nat → Option Nat) (hn1 : n1 = 10 ∨ n1 = 15) (q9 a9 b9 : Int32) : vx_Met l y_M_question (wq y_M_question c_M_question 5 (some .int)) ({ frames := 7, cells := 2, slots := 40, locals := 191 }) (gP D (TY cI cZ cJ cO) [(o, .inr (3, [.ref r0, .ref l1, .ref l2, .ref l3, .ref bb])), (l2, .inr (0, [.int x1, .ref ea, .int (nI n1)])), (ea, .inl (cO, n1, .inr (.inr (.inr (.inr f)))))] [.ref o, .int q9, .int a9, .int b9] sz e0 mi "RubbingMirrors$Node" (fun y => ∃ i, i < n1 ∧ f i = some y)) (va_Qi (fun (r : Int32) (u : va_W) => cQue q9 a9 b9 n1 = 0 ∧ r = nI n1 ∧ ∃ (q ea1 cap1 : Nat) (f1 : Nat → Option Nat), u = [(o, .inr (3, [.ref r0, .ref l1, .ref l2, .ref l3, .ref bb])), (l2, .inr (0, [.int (x1 + 1), .ref ea1, .int (nI (n1 + 1))])), (ea1, .inl (cO, cap1, .inr (.inr (.inr (.inr f1))))), (q, .inr (5, [.int q9, .int (-1), .int a9, .int b9]))] ∧ n1 + 1 ≤ cap1 ∧ cap1 = n1 + n1 / 2 ∧ (∀ i, i < n1 → f1 i = f i) ∧ f1 n1 = some q) (mB D (TY cI cZ cJ cO) (va_A [(o, .inr (3, [.ref r0, .ref l1, .ref l2, .ref l3, .ref bb])), (l2, .inr (0, [.int x1, .ref ea, .int (nI n1)])), (ea, .inl (cO, n1, .inr (.inr (.inr (.inr f)))))] sz)) (va_A [(o, .inr (3, [.ref r0, .ref l1, .ref l2, .ref l3, .ref bb])), (l2, .inr (0, [.int x1, .ref ea, .int (nI n1)])), (ea, .inl (cO, n1, .inr (.inr (.inr (.inr f)))))] sz)) (vx_X (fun (u : va_W) => u = [(o, .inr (3, [.ref r0, .ref l1, .ref l2, .ref l3, .ref bb])), (l2, .inr (0, [.int x1, .ref ea, .int (nI n1)])), (ea, .inl (cO, n1, .inr (.inr (.inr (.inr f)))))]) (xB D (TY cI cZ cJ cO) (va_A [(o, .inr (3, [.ref r0, .ref l1, .ref l2, .ref l3, .ref bb])), (l2, .inr (0, [.int x1, .ref ea, .int (nI n1)])), (ea, .inl (cO, n1, .inr (.inr (.inr (.inr f)))))] sz) (fun E => (cQue q9 a9 b9 n1 = 1 ∧ E = eI) ∨ (cQue q9 a9 b9 n1 = 2 ∧ E = eA) ∨ (cQue q9 a9 b9 n1 = 3 ∧ E = eS))) (va_A [(o, .inr (3, [.ref r0, .ref l1, .ref l2, .ref l3, .ref bb])), (l2, .inr (0, [.int x1, .ref ea, .int (nI n1)])), (ea, .inl (cO, n1, .inr (.inr (.inr (.inr f)))))] sz)) 2 40 (va_A [(o, .inr (3, [.ref r0, .ref l1, .ref l2, .ref l3, .ref bb])), (l2, .inr (0, [.int x1, .ref ea, .int (nI n1)])), (ea, .inl (cO, n1, .inr (.inr (.inr (.inr f)))))] sz) := by
  refine vx_ofW (cc := c_M_question) (maxL := 5) (ret := (some .int)) (by decide) rfl ?_
  intro p e s m args below meth c s₁ B hml hno hv
  obtain ⟨rfl, hsz, hP, hK, hD0, hN, hU, hV, hsP, hEl⟩ := hv
  have hx := B.exec
  have hb := B.bytes
  have hr := B.returns
  have hg := gt_h (atoms_spec (ws := (wq y_M_question c_M_question 5 (some .int))) B.pre)
  have hown : s.vm.findClass "RubbingMirrors" = some m.cls := findClass_of_methodNamed B.named
  have hlocks := B.notSynchronized
  subst hsz
  have hD := hD0.self (sz := s.heap.size)
  generalize hAe : va_A [(o, .inr (3, [.ref r0, .ref l1, .ref l2, .ref l3, .ref bb])), (l2, .inr (0, [.int x1, .ref ea, .int (nI n1)])), (ea, .inl (cO, n1, .inr (.inr (.inr (.inr f)))))] s.heap.size = A at hD hU hV hsP hEl ⊢
  have hA : ∀ q : Nat, s.heap.size ≤ q → A q := fun q h => by rw [← hAe]; exact Or.inr h
  have hS : va_S A s.heap s.heap [] := va_S.rf
  have hl := lv_entry ([.ref o, .int q9, .int a9, .int b9]) (n := 5) (Nat.le_of_ble_eq_true rfl)
  rw [lg_entry_eq]
  generalize (lg_sl ([.ref o, .int q9, .int a9, .int b9]) ++ List.replicate (5 - (lg_sl ([.ref o, .int q9, .int a9, .int b9])).length) Slot.unset).toArray = ls at hl ⊢
  have hl : lv_has ls 5 [(0, .ref o), (1, .int q9), (2, .int a9), (3, .int b9)] := hl
  refine lv_aload_n hx hb d_M_question_0 rfl (lv_at hl 0 rfl) ?_
  refine va_get (D := D) (ci := 3) (v := .ref l2) (C := Q_M) (T := F_M) (N := 5) hx hb hg in_M hown hK hP 0 rfl rfl 2 (by decide) (hg _ g_127) (fun _ h9 => h9) rfl d_M_question_1 ?_
  refine vp_callSi (va_Run.run (va_runV (As := []) (rest := []) ⟨hx, hb, hml, hown, hg⟩ (c_A_size_ok l D cI cZ cJ cO l2 x1 (nI n1) ea) (cwV 0 hg (gv g_378 g_379 g_380 g_21 g_381) rfl rfl rfl (by decide +kernel) ⟨Nat.le_of_ble_eq_true rfl, Nat.le_of_ble_eq_true rfl⟩) (pV (hP.sub [1] rfl) hK hN (va_recv hK (hP.sub [1] rfl) (ci := 0) (q0 := 0) rfl rfl)) rfl rfl hl.1 rfl (lv_room (Nat.le_of_ble_eq_true rfl)) d_M_question_4 ⟨Nat.zero_le _, Nat.zero_le _⟩)) (fun r_1 hr_1 => ?_)
  subst hr_1
  refine lv_iconst (v := 1) hx hb d_M_question_7 (by decide) ?_
  refine lv_isub hx hb d_M_question_8 ?_
  refine lv_istore (lv' := [(4, .int ((nI n1) - 1)), (0, .ref o), (1, .int q9), (2, .int a9), (3, .int b9)]) hx hb d_M_question_9 hl (by decide) rfl (fun ls hl => ?_)
  refine lv_iload_n hx hb d_M_question_11 rfl (lv_at hl 3 rfl) ?_
  refine lv_iconst (v := 0) hx hb d_M_question_12 (by decide) ?_
  refine lv_iload hx hb d_M_question_13 (lv_at hl 0 rfl) ?_
  refine vp_callSi (va_Run.run (va_runS (As := [.int a9, .int 0, .int ((nI n1) - 1)]) (rest := []) ⟨hx, hb, hml, hown, hg⟩ (c_M_isWithin_ok l D cI cZ cJ cO a9 0 ((nI n1) - 1)) (va_cwS 3 hg (gs2 g_233 g_234 g_18 g_235) rfl rfl rfl (by decide +kernel) ⟨Nat.le_of_ble_eq_true rfl, Nat.le_of_ble_eq_true rfl⟩) (pS ba_nil hK hN) rfl rfl hl.1 rfl (lv_room (Nat.le_of_ble_eq_true rfl)) d_M_question_15 ⟨Nat.zero_le _, Nat.zero_le _⟩)) (fun r_2 hr_2 => ?_)
  subst hr_2
  refine lv_if_eq (tgt := 31) hx hb d_M_question_18 (by decide) (fun c_18 => ?_) (fun c_18 => ?_)
  · exact thrw hx hb hlt hown hg hN x_I st_168 hU hV hS (by rw [hml]; exact hl.1) d_M_question_31 d_M_question_34 d_M_question_35 d_M_question_37 d_M_question_40 hno (Nat.le_of_ble_eq_true rfl) (Nat.le_of_ble_eq_true rfl) (Nat.le_of_ble_eq_true rfl) (Nat.le_of_ble_eq_true rfl) hlocks hP hK hD rfl (Or.inl ⟨cq_1 c_18, rfl⟩) (Nat.le_of_ble_eq_true rfl) (Nat.le_of_ble_eq_true rfl)
  · refine lv_iload_n hx hb d_M_question_21 rfl (lv_at hl 4 rfl) ?_
    refine lv_iconst (v := 0) hx hb d_M_question_22 (by decide) ?_
    refine lv_iload hx hb d_M_question_23 (lv_at hl 0 rfl) ?_
    refine vp_callSi (va_Run.run (va_runS (As := [.int b9, .int 0, .int ((nI n1) - 1)]) (rest := []) ⟨hx, hb, hml, hown, hg⟩ (c_M_isWithin_ok l D cI cZ cJ cO b9 0 ((nI n1) - 1)) (va_cwS 3 hg (gs2 g_233 g_234 g_18 g_235) rfl rfl rfl (by decide +kernel) ⟨Nat.le_of_ble_eq_true rfl, Nat.le_of_ble_eq_true rfl⟩) (pS ba_nil hK hN) rfl rfl hl.1 rfl (lv_room (Nat.le_of_ble_eq_true rfl)) d_M_question_25 ⟨Nat.zero_le _, Nat.zero_le _⟩)) (fun r_3 hr_3 => ?_)
    subst hr_3
    refine lv_if_ne (tgt := 41) hx hb d_M_question_28 (by decide) (fun c_28 => ?_) (fun c_28 => ?_)
    · refine lv_iload_n hx hb d_M_question_41 rfl (lv_at hl 2 rfl) ?_
      refine lv_iconst (v := 0) hx hb d_M_question_42 (by decide) ?_
      refine lv_bipush (v := 15) hx hb d_M_question_43 (by decide) ?_
      refine vp_callSi (va_Run.run (va_runS (As := [.int q9, .int 0, .int 15]) (rest := []) ⟨hx, hb, hml, hown, hg⟩ (c_M_isWithin_ok l D cI cZ cJ cO q9 0 15) (va_cwS 3 hg (gs2 g_233 g_234 g_18 g_235) rfl rfl rfl (by decide +kernel) ⟨Nat.le_of_ble_eq_true rfl, Nat.le_of_ble_eq_true rfl⟩) (pS ba_nil hK hN) rfl rfl hl.1 rfl (lv_room (Nat.le_of_ble_eq_true rfl)) d_M_question_45 ⟨Nat.zero_le _, Nat.zero_le _⟩)) (fun r_4 hr_4 => ?_)
      subst hr_4
      refine lv_if_ne (tgt := 61) hx hb d_M_question_48 (by decide) (fun c_48 => ?_) (fun c_48 => ?_)
      · refine lv_aload_n hx hb d_M_question_61 rfl (lv_at hl 1 rfl) ?_
        refine va_get (D := D) (ci := 3) (v := .ref l2) (C := Q_M) (T := F_M) (N := 5) hx hb hg in_M hown hK hP 0 rfl rfl 2 (by decide) (hg _ g_127) (fun _ h9 => h9) rfl d_M_question_62 ?_
        refine vp_callSi (va_Run.run (va_runV (As := []) (rest := []) ⟨hx, hb, hml, hown, hg⟩ (c_A_size_ok l D cI cZ cJ cO l2 x1 (nI n1) ea) (cwV 0 hg (gv g_378 g_379 g_380 g_21 g_381) rfl rfl rfl (by decide +kernel) ⟨Nat.le_of_ble_eq_true rfl, Nat.le_of_ble_eq_true rfl⟩) (pV (hP.sub [1] rfl) hK hN (va_recv hK (hP.sub [1] rfl) (ci := 0) (q0 := 0) rfl rfl)) rfl rfl hl.1 rfl (lv_room (Nat.le_of_ble_eq_true rfl)) d_M_question_65 ⟨Nat.zero_le _, Nat.zero_le _⟩)) (fun r_5 hr_5 => ?_)
        subst hr_5
        refine lv_bipush (v := 16) hx hb d_M_question_68 (by decide) ?_
        refine lv_icmp_lt (tgt := 83) hx hb d_M_question_70 (by decide) (fun c_70 => ?_) (fun c_70 => ?_)
        · refine lv_aload_n hx hb d_M_question_83 rfl (lv_at hl 1 rfl) ?_
          refine va_get (D := D) (ci := 3) (v := .ref l2) (C := Q_M) (T := F_M) (N := 5) hx hb hg in_M hown hK hP 0 rfl rfl 2 (by decide) (hg _ g_127) (fun _ h9 => h9) rfl d_M_question_84 ?_
          refine va_new (ci := 5) (fs := [.int 0, .int 0, .int 0, .int 0]) (C := Q_N) (T := F_N) (N := 4) hx hb hg in_N tq_N tq_N_ok hown (hg _ g_518) (hg _ g_519) (hg _ g_38) hK hP hD hS hA rfl (fun j hj => by rcases (show j = 0 ∨ j = 1 ∨ j = 2 ∨ j = 3 by omega) with rfl | rfl | rfl | rfl <;> rfl) (show 0 + 1 ≤ 2 by omega) (show 0 + 4 ≤ 40 by omega) d_M_question_87 (fun q_87 H hP hD hS => ?_)
          refine W.widen (k := 1) (n := 4) (by omega) (by omega) ?_
          have hP : va_P D cls [(o, .inr (3, [.ref r0, .ref l1, .ref l2, .ref l3, .ref bb])), (l2, .inr (0, [.int x1, .ref ea, .int (nI n1)])), (ea, .inl (cO, n1, .inr (.inr (.inr (.inr f))))), (q_87, .inr (5, [.int 0, .int 0, .int 0, .int 0]))] H := hP
          have hD : va_D A [(o, .inr (3, [.ref r0, .ref l1, .ref l2, .ref l3, .ref bb])), (l2, .inr (0, [.int x1, .ref ea, .int (nI n1)])), (ea, .inl (cO, n1, .inr (.inr (.inr (.inr f))))), (q_87, .inr (5, [.int 0, .int 0, .int 0, .int 0]))] := hD
          have hfe9 : ∀ i, i < n1 → ∀ y, f i = some y → (y = q_87 ∨ ∃ i, i < n1 ∧ f i = some y) := fun i hi y hy => Or.inr ⟨i, hi, hy⟩
          refine lv_dup hx hb d_M_question_90 rfl ?_
          refine lv_iload_n hx hb d_M_question_91 rfl (lv_at hl 2 rfl) ?_
          refine lv_iconst (v := (-1)) hx hb d_M_question_92 (by decide) ?_
          refine lv_iload_n hx hb d_M_question_93 rfl (lv_at hl 3 rfl) ?_
          refine lv_iload_n hx hb d_M_question_94 rfl (lv_at hl 4 rfl) ?_
          have hP := hP.sub (ws' := [(q_87, .inr (5, [.int 0, .int 0, .int 0, .int 0]))] ++ [(o, .inr (3, [.ref r0, .ref l1, .ref l2, .ref l3, .ref bb])), (l2, .inr (0, [.int x1, .ref ea, .int (nI n1)])), (ea, .inl (cO, n1, .inr (.inr (.inr (.inr f)))))]) [3, 0, 1, 2] rfl
          have hD := hD.sub (ws' := [(q_87, .inr (5, [.int 0, .int 0, .int 0, .int 0]))] ++ [(o, .inr (3, [.ref r0, .ref l1, .ref l2, .ref l3, .ref bb])), (l2, .inr (0, [.int x1, .ref ea, .int (nI n1)])), (ea, .inl (cO, n1, .inr (.inr (.inr (.inr f)))))]) [3, 0, 1, 2] (by decide) rfl
          refine mcallv (wc := [(q_87, .inr (5, [.int 0, .int 0, .int 0, .int 0]))]) (wr := [(o, .inr (3, [.ref r0, .ref l1, .ref l2, .ref l3, .ref bb])), (l2, .inr (0, [.int x1, .ref ea, .int (nI n1)])), (ea, .inl (cO, n1, .inr (.inr (.inr (.inr f)))))]) (va_runI (As := [.int q9, .int (-1), .int a9, .int b9]) (rest := [.ref q_87, .ref l2]) ⟨hx, hb, hml, hown, hg⟩ (c_N_init_ok l D cI cZ cJ cO H.size q_87 q9 (-1) a9 b9) (cwI 4 hg (gq g_522) rfl rfl rfl (hg _ g_38) (hg _ g_520) (hg _ g_521) rfl (by decide +kernel) ⟨Nat.le_of_ble_eq_true rfl, Nat.le_of_ble_eq_true rfl⟩) (mS (As := .ref q_87 :: [.int q9, .int (-1), .int a9, .int b9]) (ba_Pl hP) hK hN (ba_Dl hD)) rfl rfl hl.1 rfl (lv_room (Nat.le_of_ble_eq_true rfl)) d_M_question_95 ⟨Nat.le_of_ble_eq_true rfl, Nat.le_of_ble_eq_true rfl⟩) hP hD hS hA (fun u_6 H locs hu_6 hP hD hS => ?_)
          subst hu_6
          have hP : va_P D cls [(q_87, .inr (5, [.int q9, .int (-1), .int a9, .int b9])), (o, .inr (3, [.ref r0, .ref l1, .ref l2, .ref l3, .ref bb])), (l2, .inr (0, [.int x1, .ref ea, .int (nI n1)])), (ea, .inl (cO, n1, .inr (.inr (.inr (.inr f)))))] H := hP
          have hD : va_D A [(q_87, .inr (5, [.int q9, .int (-1), .int a9, .int b9])), (o, .inr (3, [.ref r0, .ref l1, .ref l2, .ref l3, .ref bb])), (l2, .inr (0, [.int x1, .ref ea, .int (nI n1)])), (ea, .inl (cO, n1, .inr (.inr (.inr (.inr f)))))] := hD
          have hP := hP.sub (ws' := [(l2, .inr (0, [.int x1, .ref ea, .int (nI n1)])), (ea, .inl (cO, n1, .inr (.inr (.inr (.inr f)))))] ++ [(q_87, .inr (5, [.int q9, .int (-1), .int a9, .int b9])), (o, .inr (3, [.ref r0, .ref l1, .ref l2, .ref l3, .ref bb]))]) [2, 3, 0, 1] rfl
          have hD := hD.sub (ws' := [(l2, .inr (0, [.int x1, .ref ea, .int (nI n1)])), (ea, .inl (cO, n1, .inr (.inr (.inr (.inr f)))))] ++ [(q_87, .inr (5, [.int q9, .int (-1), .int a9, .int b9])), (o, .inr (3, [.ref r0, .ref l1, .ref l2, .ref l3, .ref bb]))]) [2, 3, 0, 1] (by decide) rfl
          refine mcalli (wc := [(l2, .inr (0, [.int x1, .ref ea, .int (nI n1)])), (ea, .inl (cO, n1, .inr (.inr (.inr (.inr f)))))]) (wr := [(q_87, .inr (5, [.int q9, .int (-1), .int a9, .int b9])), (o, .inr (3, [.ref r0, .ref l1, .ref l2, .ref l3, .ref bb]))]) (va_runV (As := [.ref q_87]) (rest := []) ⟨hx, hb, hml, hown, hg⟩ (c_A_addG_ok l D cI cZ cJ cO H.size e0 mi "RubbingMirrors$Node" nw_29 (fun y => y = q_87 ∨ ∃ i, i < n1 ∧ f i = some y) l2 x1 ea n1 f (by omega) (by omega) hfe9 q_87 (Or.inl rfl)) (cwV 1 hg (gv g_394 g_395 g_396 g_21 g_397) rfl rfl rfl (by decide +kernel) ⟨Nat.le_of_ble_eq_true rfl, Nat.le_of_ble_eq_true rfl⟩) ⟨lp_blind, va_recv hK (ba_Pl hP) (ci := 0) (q0 := 0) rfl rfl, fun U hU hW => ⟨rfl, lPre2 hP hD hK hN hS hA hsP (fun y hy => by rcases hy with rfl | hy; exact ⟨va_recv hK (ba_Pr hP) (ci := 5) (q0 := 0) rfl rfl, notA hP hD (List.mem_of_getElem? (i := 0) rfl)⟩; exact eOld hD hS hA (hEl y hy)) U hU hW⟩⟩ rfl rfl hl.1 rfl (lv_room (Nat.le_of_ble_eq_true rfl)) d_M_question_98 ⟨Nat.le_of_ble_eq_true rfl, Nat.le_of_ble_eq_true rfl⟩) hP hD hS hA (fun r_9 u_8 H locs hu_8 hP hD hS => ?_)
          obtain ⟨rfl, ea1, cap1, f1, rfl, hcp1, hcp2, hf1, hf2⟩ := hu_8
          have hP : va_P D cls [(l2, .inr (0, [.int (x1 + 1), .ref ea1, .int (nI (n1 + 1))])), (ea1, .inl (cO, cap1, .inr (.inr (.inr (.inr f1))))), (q_87, .inr (5, [.int q9, .int (-1), .int a9, .int b9])), (o, .inr (3, [.ref r0, .ref l1, .ref l2, .ref l3, .ref bb]))] H := hP
          have hD : va_D A [(l2, .inr (0, [.int (x1 + 1), .ref ea1, .int (nI (n1 + 1))])), (ea1, .inl (cO, cap1, .inr (.inr (.inr (.inr f1))))), (q_87, .inr (5, [.int q9, .int (-1), .int a9, .int b9])), (o, .inr (3, [.ref r0, .ref l1, .ref l2, .ref l3, .ref bb]))] := hD
          refine W.widen (k := 2) (n := 26) (by omega) (by omega) ?_
          refine lv_pop hx hb d_M_question_101 rfl ?_
          refine lv_aload_n hx hb d_M_question_102 rfl (lv_at hl 1 rfl) ?_
          refine va_get (D := D) (ci := 3) (v := .ref l2) (C := Q_M) (T := F_M) (N := 5) hx hb hg in_M hown hK hP 3 rfl rfl 2 (by decide) (hg _ g_127) (fun _ h9 => h9) rfl d_M_question_103 ?_
          refine vp_callSi (va_Run.run (va_runV (As := []) (rest := []) ⟨hx, hb, hml, hown, hg⟩ (c_A_size_ok l D cI cZ cJ cO l2 (x1 + 1) (nI (n1 + 1)) ea1) (cwV 0 hg (gv g_378 g_379 g_380 g_21 g_381) rfl rfl rfl (by decide +kernel) ⟨Nat.le_of_ble_eq_true rfl, Nat.le_of_ble_eq_true rfl⟩) (pV (hP.sub [0] rfl) hK hN (va_recv hK (hP.sub [0] rfl) (ci := 0) (q0 := 0) rfl rfl)) rfl rfl hl.1 rfl (lv_room (Nat.le_of_ble_eq_true rfl)) d_M_question_106 ⟨Nat.le_of_ble_eq_true rfl, Nat.le_of_ble_eq_true rfl⟩)) (fun r_10 hr_10 => ?_)
          subst hr_10
          refine lv_iconst (v := 1) hx hb d_M_question_109 (by decide) ?_
          refine lv_isub hx hb d_M_question_110 ?_
          have hP := hP.sub (ws' := [(o, .inr (3, [.ref r0, .ref l1, .ref l2, .ref l3, .ref bb])), (l2, .inr (0, [.int (x1 + 1), .ref ea1, .int (nI (n1 + 1))])), (ea1, .inl (cO, cap1, .inr (.inr (.inr (.inr f1))))), (q_87, .inr (5, [.int q9, .int (-1), .int a9, .int b9]))]) [3, 0, 1, 2] rfl
          have hD := hD.sub (ws' := [(o, .inr (3, [.ref r0, .ref l1, .ref l2, .ref l3, .ref bb])), (l2, .inr (0, [.int (x1 + 1), .ref ea1, .int (nI (n1 + 1))])), (ea1, .inl (cO, cap1, .inr (.inr (.inr (.inr f1))))), (q_87, .inr (5, [.int q9, .int (-1), .int a9, .int b9]))]) [3, 0, 1, 2] (by decide) rfl
          refine vx_ret ?_
          refine W.widen (k := 2) (n := 40) (by omega) (by omega) ?_
          exact W.iret hx hb hr (fun t9 ht hW => ⟨⟨_, [(o, .inr (3, [.ref r0, .ref l1, .ref l2, .ref l3, .ref bb])), (l2, .inr (0, [.int (x1 + 1), .ref ea1, .int (nI (n1 + 1))])), (ea1, .inl (cO, cap1, .inr (.inr (.inr (.inr f1))))), (q_87, .inr (5, [.int q9, .int (-1), .int a9, .int b9]))], rfl, ⟨cq_0 c_18 c_28 c_48 (nn16d c_70), nI_pred _, q_87, ea1, cap1, f1, rfl, hcp1, hcp2, hf1, hf2⟩, by rw [ht]; exact hP, va_K.moved hW.alike hK, hD⟩, hS.F ht⟩) hS.2.2 d_M_question_111
        · exact thrw hx hb hlt hown hg hN x_S st_161 hU hV hS (by rw [hml]; exact hl.1) d_M_question_73 d_M_question_76 d_M_question_77 d_M_question_79 d_M_question_82 hno (Nat.le_of_ble_eq_true rfl) (Nat.le_of_ble_eq_true rfl) (Nat.le_of_ble_eq_true rfl) (Nat.le_of_ble_eq_true rfl) hlocks hP hK hD rfl (Or.inr (Or.inr ⟨cq_4 c_18 c_28 c_48 (nn16c (by omega) c_70), rfl⟩)) (Nat.le_of_ble_eq_true rfl) (Nat.le_of_ble_eq_true rfl)
      · exact thrw hx hb hlt hown hg hN x_A st_170 hU hV hS (by rw [hml]; exact hl.1) d_M_question_51 d_M_question_54 d_M_question_55 d_M_question_57 d_M_question_60 hno (Nat.le_of_ble_eq_true rfl) (Nat.le_of_ble_eq_true rfl) (Nat.le_of_ble_eq_true rfl) (Nat.le_of_ble_eq_true rfl) hlocks hP hK hD rfl (Or.inr (Or.inl ⟨cq_3 c_18 c_28 c_48, rfl⟩)) (Nat.le_of_ble_eq_true rfl) (Nat.le_of_ble_eq_true rfl)
    · exact thrw hx hb hlt hown hg hN x_I st_168 hU hV hS (by rw [hml]; exact hl.1) d_M_question_31 d_M_question_34 d_M_question_35 d_M_question_37 d_M_question_40 hno (Nat.le_of_ble_eq_true rfl) (Nat.le_of_ble_eq_true rfl) (Nat.le_of_ble_eq_true rfl) (Nat.le_of_ble_eq_true rfl) hlocks hP hK hD rfl (Or.inl ⟨cq_2 c_28, rfl⟩) (Nat.le_of_ble_eq_true rfl) (Nat.le_of_ble_eq_true rfl)
