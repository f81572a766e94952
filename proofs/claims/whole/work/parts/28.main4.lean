
theorem ru_1 {f t lo hi y un : Int32} (h : ¬ f ≤ t) : rOK f t lo hi y un = false := by
  have : t < f := by rw [ilt]; rw [ile] at h; omega
  rw [rOK, decide_eq_true this]; rfl
theorem ru_2 {f t lo hi y un : Int32} (h : bI (iw lo 0 255) = 0) : rOK f t lo hi y un = false := by rw [rOK, bI_eq0 h]; simp
theorem ru_3 {f t lo hi y un : Int32} (h : bI (iw hi lo 255) = 0) : rOK f t lo hi y un = false := by rw [rOK, bI_eq0 h]; simp
theorem ru_4 {f t lo hi y un : Int32} (h : bI (iw y (-10000) 10000) = 0) : rOK f t lo hi y un = false := by rw [rOK, bI_eq0 h]; simp
theorem ru_5 {f t lo hi y un : Int32} (h : bI (iw un y 10000) = 0) : rOK f t lo hi y un = false := by rw [rOK, bI_eq0 h]; simp
theorem ru_0 {f t lo hi y un : Int32} (h : f ≤ t) (h2 : ¬ bI (iw lo 0 255) = 0) (h3 : ¬ bI (iw hi lo 255) = 0) (h4 : ¬ bI (iw y (-10000) 10000) = 0) (h5 : ¬ bI (iw un y 10000) = 0) : rOK f t lo hi y un = true := by
  have : ¬ t < f := by rw [ilt]; rw [ile] at h; omega
  rw [rOK, bI_ne0 h2, bI_ne0 h3, bI_ne0 h4, bI_ne0 h5, decide_eq_false this]; rfl
/-- carving into a shape of m places -/
def cCaS (m : Nat) (k v : Int32) : Int32 := if hs m k.toInt then (if iw v 0 255 then 0 else 2) else 1
theorem ce_1 {m : Nat} {k v : Int32} (h : bI (hs m k.toInt) = 0) : cCaS m k v = 1 := by rw [cCaS, bI_eq0 h]; rfl
theorem ce_2 {m : Nat} {k v : Int32} (h : ¬ bI (hs m k.toInt) = 0) (h1 : bI (iw v 0 255) = 0) : cCaS m k v = 2 := by rw [cCaS, bI_ne0 h, bI_eq0 h1]; rfl
theorem ce_0 {m : Nat} {k v : Int32} (h : ¬ bI (hs m k.toInt) = 0) (h1 : ¬ bI (iw v 0 255) = 0) : cCaS m k v = 0 := by rw [cCaS, bI_ne0 h, bI_ne0 h1]; rfl
theorem iwI {I c : Nat} (h : I < c) (hc : c < 2 ^ 20) : ¬ bI (iw (nI I) 0 (nI c - 1)) = 0 := by
  have e1 : nI c - 1 = nI (c - 1) := by
    rw [show (1 : Int32) = nI 1 from rfl, pk_sub (by omega)]
  have : iw (nI I) 0 (nI c - 1) = true := by
    rw [e1]; simp only [iw, Bool.and_eq_true, decide_eq_true_eq, nI_toInt (show I < 2 ^ 31 by omega), nI_toInt (show c - 1 < 2 ^ 31 by omega), i0]; omega
  rw [this]; decide
theorem pk_nil9 {D : va_G} {H : Heap} : va_P D cls [] H := ba_nil
theorem pk_c {D : va_G} {H : Heap} {q : Nat × va_E} {ws : va_W} (h : va_at D cls q H) (t : va_P D cls ws H) : va_P D cls (q :: ws) H := ba_P.mpr (List.forall_mem_cons.mpr ⟨h, ba_P.mp t⟩)
theorem pk_m {D : va_G} {H : Heap} {q : Nat × va_E} {ws tl : va_W} (h : va_P D cls (ws ++ tl) H) (m : q ∈ tl) : va_at D cls q H := ba_P.mp h q (List.mem_append_right _ m)

set_option maxHeartbeats 4000000 in
set_option maxRecDepth 100000 in
/-- rule -/
theorem c_M_ruleV_ok (l : Launch) (hlt : l.stackTraces = false) (D : va_G) (cI cZ cJ cO : ClassId) (sz e0 mi : Nat) (o r0 l1 l2 l3 bb da ga : Nat) (n : Nat) (d g : Nat → Int32) (h4 : 4 ≤ n) (h64 : n ≤ 64) (x1 : Int32) (ff tt lo hi y9 un : Int32) : vx_Met l y_M_rule (wq y_M_rule c_M_rule 7 (some .int)) ({ frames := 7, cells := 2, slots := 40, locals := 191 }) (gP D (TY cI cZ cJ cO) [(o, .inr (3, [.ref r0, .ref l1, .ref l2, .ref l3, .ref bb])), (r0, .inr (2, [.ref da, .ref ga])), (da, .inl (cI, n, .inl d)), (ga, .inl (cZ, n, .inl g)), (l3, .inr (0, [.int x1, .ref e0, .int 0]))] [.ref o, .int ff, .int tt, .int lo, .int hi, .int y9, .int un] sz e0 mi "RubbingMirrors$Rule" (fun y => False)) (va_Qi (fun (r : Int32) (u : va_W) => cRul n 0 ff tt lo hi y9 un = 0 ∧ r = nI (0 + 1) ∧ ∃ (q ea1 cap1 : Nat) (f1 : Nat → Option Nat), u = [(o, .inr (3, [.ref r0, .ref l1, .ref l2, .ref l3, .ref bb])), (r0, .inr (2, [.ref da, .ref ga])), (da, .inl (cI, n, .inl d)), (ga, .inl (cZ, n, .inl g)), (l3, .inr (0, [.int (x1 + 1), .ref ea1, .int (nI (0 + 1))])), (ea1, .inl (cO, cap1, .inr (.inr (.inr (.inr f1))))), (q, .inr (6, [.int ff, .int tt, .int lo, .int hi, .int y9, .int un]))] ∧ 0 + 1 ≤ cap1 ∧ cap1 = 10 ∧ (∀ i, i < 0 → f1 i = (fun _ => none) i) ∧ f1 0 = some q) (mB D (TY cI cZ cJ cO) (va_A [(o, .inr (3, [.ref r0, .ref l1, .ref l2, .ref l3, .ref bb])), (r0, .inr (2, [.ref da, .ref ga])), (da, .inl (cI, n, .inl d)), (ga, .inl (cZ, n, .inl g)), (l3, .inr (0, [.int x1, .ref e0, .int 0]))] sz)) (va_A [(o, .inr (3, [.ref r0, .ref l1, .ref l2, .ref l3, .ref bb])), (r0, .inr (2, [.ref da, .ref ga])), (da, .inl (cI, n, .inl d)), (ga, .inl (cZ, n, .inl g)), (l3, .inr (0, [.int x1, .ref e0, .int 0]))] sz)) (vx_X (fun (u : va_W) => u = [(o, .inr (3, [.ref r0, .ref l1, .ref l2, .ref l3, .ref bb])), (r0, .inr (2, [.ref da, .ref ga])), (da, .inl (cI, n, .inl d)), (ga, .inl (cZ, n, .inl g)), (l3, .inr (0, [.int x1, .ref e0, .int 0]))]) (xB D (TY cI cZ cJ cO) (va_A [(o, .inr (3, [.ref r0, .ref l1, .ref l2, .ref l3, .ref bb])), (r0, .inr (2, [.ref da, .ref ga])), (da, .inl (cI, n, .inl d)), (ga, .inl (cZ, n, .inl g)), (l3, .inr (0, [.int x1, .ref e0, .int 0]))] sz) (fun E => (cRul n 0 ff tt lo hi y9 un = 1 ∧ E = eI) ∨ (cRul n 0 ff tt lo hi y9 un = 2 ∧ E = eA) ∨ (cRul n 0 ff tt lo hi y9 un = 3 ∧ E = eS))) (va_A [(o, .inr (3, [.ref r0, .ref l1, .ref l2, .ref l3, .ref bb])), (r0, .inr (2, [.ref da, .ref ga])), (da, .inl (cI, n, .inl d)), (ga, .inl (cZ, n, .inl g)), (l3, .inr (0, [.int x1, .ref e0, .int 0]))] sz)) 2 40 (va_A [(o, .inr (3, [.ref r0, .ref l1, .ref l2, .ref l3, .ref bb])), (r0, .inr (2, [.ref da, .ref ga])), (da, .inl (cI, n, .inl d)), (ga, .inl (cZ, n, .inl g)), (l3, .inr (0, [.int x1, .ref e0, .int 0]))] sz) := by
  refine vx_ofW (cc := c_M_rule) (maxL := 7) (ret := (some .int)) (by decide) rfl ?_
  intro p e s m args below meth c s₁ B hml hno hv
  obtain ⟨rfl, hsz, hP, hK, hD0, hN, hU, hV, hsP, hEl⟩ := hv
  have hx := B.exec
  have hb := B.bytes
  have hr := B.returns
  have hg := gt_h (atoms_spec (ws := (wq y_M_rule c_M_rule 7 (some .int))) B.pre)
  have hown : s.vm.findClass "RubbingMirrors" = some m.cls := findClass_of_methodNamed B.named
  have hlocks := B.notSynchronized
  subst hsz
  have hD := hD0.self (sz := s.heap.size)
  generalize hAe : va_A [(o, .inr (3, [.ref r0, .ref l1, .ref l2, .ref l3, .ref bb])), (r0, .inr (2, [.ref da, .ref ga])), (da, .inl (cI, n, .inl d)), (ga, .inl (cZ, n, .inl g)), (l3, .inr (0, [.int x1, .ref e0, .int 0]))] s.heap.size = A at hD hU hV hsP hEl ⊢
  have hA : ∀ q : Nat, s.heap.size ≤ q → A q := fun q h => by rw [← hAe]; exact Or.inr h
  have hS : va_S A s.heap s.heap [] := va_S.rf
  have hl := lv_entry ([.ref o, .int ff, .int tt, .int lo, .int hi, .int y9, .int un]) (n := 7) (Nat.le_of_ble_eq_true rfl)
  rw [lg_entry_eq]
  generalize (lg_sl ([.ref o, .int ff, .int tt, .int lo, .int hi, .int y9, .int un]) ++ List.replicate (7 - (lg_sl ([.ref o, .int ff, .int tt, .int lo, .int hi, .int y9, .int un])).length) Slot.unset).toArray = ls at hl ⊢
  have hl : lv_has ls 7 [(0, .ref o), (1, .int ff), (2, .int tt), (3, .int lo), (4, .int hi), (5, .int y9), (6, .int un)] := hl
  refine lv_aload_n hx hb d_M_rule_0 rfl (lv_at hl 0 rfl) ?_
  refine va_get (D := D) (ci := 3) (v := .ref r0) (C := Q_M) (T := F_M) (N := 5) hx hb hg in_M hown hK hP 0 rfl rfl 0 (by decide) (hg _ g_125) (fun _ h9 => h9) rfl d_M_rule_1 ?_
  refine lv_iload_n hx hb d_M_rule_4 rfl (lv_at hl 1 rfl) ?_
  refine vp_callSi (va_Run.run (va_runV (As := [.int ff]) (rest := []) ⟨hx, hb, hml, hown, hg⟩ (c_R_has_ok l D cI cZ cJ cO r0 da ga n d g (by omega) ff) (cwV 1 hg (gv g_161 g_162 g_163 g_23 g_164) rfl rfl rfl (by decide +kernel) ⟨Nat.le_of_ble_eq_true rfl, Nat.le_of_ble_eq_true rfl⟩) (pV (pk_c (hP 1 (r0, .inr (2, [.ref da, .ref ga])) rfl) (pk_c (hP 2 (da, .inl (cI, n, .inl d)) rfl) (pk_c (hP 3 (ga, .inl (cZ, n, .inl g)) rfl) pk_nil9))) hK hN (va_recv hK (pk_c (hP 1 (r0, .inr (2, [.ref da, .ref ga])) rfl) (pk_c (hP 2 (da, .inl (cI, n, .inl d)) rfl) (pk_c (hP 3 (ga, .inl (cZ, n, .inl g)) rfl) pk_nil9))) (ci := 2) (q0 := 0) rfl rfl)) rfl rfl hl.1 rfl (lv_room (Nat.le_of_ble_eq_true rfl)) d_M_rule_5 ⟨Nat.zero_le _, Nat.zero_le _⟩)) (fun r_1 hr_1 => ?_)
  subst hr_1
  refine lv_if_eq (tgt := 22) hx hb d_M_rule_8 (by decide) (fun c_8 => ?_) (fun c_8 => ?_)
  · exact thrw hx hb hlt hown hg hN x_I st_194 hU hV hS (by rw [hml]; exact hl.1) d_M_rule_22 d_M_rule_25 d_M_rule_26 d_M_rule_28 d_M_rule_31 hno (Nat.le_of_ble_eq_true rfl) (Nat.le_of_ble_eq_true rfl) (Nat.le_of_ble_eq_true rfl) (Nat.le_of_ble_eq_true rfl) hlocks hP hK hD rfl (Or.inl ⟨cu_1 c_8, rfl⟩) (Nat.le_of_ble_eq_true rfl) (Nat.le_of_ble_eq_true rfl)
  · refine lv_aload_n hx hb d_M_rule_11 rfl (lv_at hl 0 rfl) ?_
    refine va_get (D := D) (ci := 3) (v := .ref r0) (C := Q_M) (T := F_M) (N := 5) hx hb hg in_M hown hK hP 0 rfl rfl 0 (by decide) (hg _ g_125) (fun _ h9 => h9) rfl d_M_rule_12 ?_
    refine lv_iload_n hx hb d_M_rule_15 rfl (lv_at hl 2 rfl) ?_
    refine vp_callSi (va_Run.run (va_runV (As := [.int tt]) (rest := []) ⟨hx, hb, hml, hown, hg⟩ (c_R_has_ok l D cI cZ cJ cO r0 da ga n d g (by omega) tt) (cwV 1 hg (gv g_161 g_162 g_163 g_23 g_164) rfl rfl rfl (by decide +kernel) ⟨Nat.le_of_ble_eq_true rfl, Nat.le_of_ble_eq_true rfl⟩) (pV (pk_c (hP 1 (r0, .inr (2, [.ref da, .ref ga])) rfl) (pk_c (hP 2 (da, .inl (cI, n, .inl d)) rfl) (pk_c (hP 3 (ga, .inl (cZ, n, .inl g)) rfl) pk_nil9))) hK hN (va_recv hK (pk_c (hP 1 (r0, .inr (2, [.ref da, .ref ga])) rfl) (pk_c (hP 2 (da, .inl (cI, n, .inl d)) rfl) (pk_c (hP 3 (ga, .inl (cZ, n, .inl g)) rfl) pk_nil9))) (ci := 2) (q0 := 0) rfl rfl)) rfl rfl hl.1 rfl (lv_room (Nat.le_of_ble_eq_true rfl)) d_M_rule_16 ⟨Nat.zero_le _, Nat.zero_le _⟩)) (fun r_2 hr_2 => ?_)
    subst hr_2
    refine lv_if_ne (tgt := 32) hx hb d_M_rule_19 (by decide) (fun c_19 => ?_) (fun c_19 => ?_)
    · refine lv_iload_n hx hb d_M_rule_32 rfl (lv_at hl 2 rfl) ?_
      refine lv_iload_n hx hb d_M_rule_33 rfl (lv_at hl 1 rfl) ?_
      refine lv_icmp_ge (tgt := 47) hx hb d_M_rule_34 (by decide) (fun c_34 => ?_) (fun c_34 => ?_)
      · refine lv_iload_n hx hb d_M_rule_47 rfl (lv_at hl 3 rfl) ?_
        refine lv_iconst (v := 0) hx hb d_M_rule_48 (by decide) ?_
        refine lv_sipush (v := 255) hx hb d_M_rule_49 (by decide) ?_
        refine vp_callSi (va_Run.run (va_runS (As := [.int lo, .int 0, .int 255]) (rest := []) ⟨hx, hb, hml, hown, hg⟩ (c_M_isWithin_ok l D cI cZ cJ cO lo 0 255) (va_cwS 3 hg (gs2 g_233 g_234 g_18 g_235) rfl rfl rfl (by decide +kernel) ⟨Nat.le_of_ble_eq_true rfl, Nat.le_of_ble_eq_true rfl⟩) (pS ba_nil hK hN) rfl rfl hl.1 rfl (lv_room (Nat.le_of_ble_eq_true rfl)) d_M_rule_52 ⟨Nat.zero_le _, Nat.zero_le _⟩)) (fun r_3 hr_3 => ?_)
        subst hr_3
        refine lv_if_eq (tgt := 70) hx hb d_M_rule_55 (by decide) (fun c_55 => ?_) (fun c_55 => ?_)
        · exact thrw hx hb hlt hown hg hN x_A st_198 hU hV hS (by rw [hml]; exact hl.1) d_M_rule_70 d_M_rule_73 d_M_rule_74 d_M_rule_76 d_M_rule_79 hno (Nat.le_of_ble_eq_true rfl) (Nat.le_of_ble_eq_true rfl) (Nat.le_of_ble_eq_true rfl) (Nat.le_of_ble_eq_true rfl) hlocks hP hK hD rfl (Or.inr (Or.inl ⟨cu_w c_8 c_19 (ru_2 c_55), rfl⟩)) (Nat.le_of_ble_eq_true rfl) (Nat.le_of_ble_eq_true rfl)
        · refine lv_iload hx hb d_M_rule_58 (lv_at hl 4 rfl) ?_
          refine lv_iload_n hx hb d_M_rule_60 rfl (lv_at hl 3 rfl) ?_
          refine lv_sipush (v := 255) hx hb d_M_rule_61 (by decide) ?_
          refine vp_callSi (va_Run.run (va_runS (As := [.int hi, .int lo, .int 255]) (rest := []) ⟨hx, hb, hml, hown, hg⟩ (c_M_isWithin_ok l D cI cZ cJ cO hi lo 255) (va_cwS 3 hg (gs2 g_233 g_234 g_18 g_235) rfl rfl rfl (by decide +kernel) ⟨Nat.le_of_ble_eq_true rfl, Nat.le_of_ble_eq_true rfl⟩) (pS ba_nil hK hN) rfl rfl hl.1 rfl (lv_room (Nat.le_of_ble_eq_true rfl)) d_M_rule_64 ⟨Nat.zero_le _, Nat.zero_le _⟩)) (fun r_4 hr_4 => ?_)
          subst hr_4
          refine lv_if_ne (tgt := 80) hx hb d_M_rule_67 (by decide) (fun c_67 => ?_) (fun c_67 => ?_)
          · refine lv_iload hx hb d_M_rule_80 (lv_at hl 5 rfl) ?_
            refine lv_sipush (v := (-10000)) hx hb d_M_rule_82 (by decide) ?_
            refine lv_sipush (v := 10000) hx hb d_M_rule_85 (by decide) ?_
            refine vp_callSi (va_Run.run (va_runS (As := [.int y9, .int (-10000), .int 10000]) (rest := []) ⟨hx, hb, hml, hown, hg⟩ (c_M_isWithin_ok l D cI cZ cJ cO y9 (-10000) 10000) (va_cwS 3 hg (gs2 g_233 g_234 g_18 g_235) rfl rfl rfl (by decide +kernel) ⟨Nat.le_of_ble_eq_true rfl, Nat.le_of_ble_eq_true rfl⟩) (pS ba_nil hK hN) rfl rfl hl.1 rfl (lv_room (Nat.le_of_ble_eq_true rfl)) d_M_rule_88 ⟨Nat.zero_le _, Nat.zero_le _⟩)) (fun r_5 hr_5 => ?_)
            subst hr_5
            refine lv_if_eq (tgt := 107) hx hb d_M_rule_91 (by decide) (fun c_91 => ?_) (fun c_91 => ?_)
            · exact thrw hx hb hlt hown hg hN x_A st_200 hU hV hS (by rw [hml]; exact hl.1) d_M_rule_107 d_M_rule_110 d_M_rule_111 d_M_rule_113 d_M_rule_116 hno (Nat.le_of_ble_eq_true rfl) (Nat.le_of_ble_eq_true rfl) (Nat.le_of_ble_eq_true rfl) (Nat.le_of_ble_eq_true rfl) hlocks hP hK hD rfl (Or.inr (Or.inl ⟨cu_w c_8 c_19 (ru_4 c_91), rfl⟩)) (Nat.le_of_ble_eq_true rfl) (Nat.le_of_ble_eq_true rfl)
            · refine lv_iload hx hb d_M_rule_94 (lv_at hl 6 rfl) ?_
              refine lv_iload hx hb d_M_rule_96 (lv_at hl 5 rfl) ?_
              refine lv_sipush (v := 10000) hx hb d_M_rule_98 (by decide) ?_
              refine vp_callSi (va_Run.run (va_runS (As := [.int un, .int y9, .int 10000]) (rest := []) ⟨hx, hb, hml, hown, hg⟩ (c_M_isWithin_ok l D cI cZ cJ cO un y9 10000) (va_cwS 3 hg (gs2 g_233 g_234 g_18 g_235) rfl rfl rfl (by decide +kernel) ⟨Nat.le_of_ble_eq_true rfl, Nat.le_of_ble_eq_true rfl⟩) (pS ba_nil hK hN) rfl rfl hl.1 rfl (lv_room (Nat.le_of_ble_eq_true rfl)) d_M_rule_101 ⟨Nat.zero_le _, Nat.zero_le _⟩)) (fun r_6 hr_6 => ?_)
              subst hr_6
              refine lv_if_ne (tgt := 117) hx hb d_M_rule_104 (by decide) (fun c_104 => ?_) (fun c_104 => ?_)
              · refine lv_aload_n hx hb d_M_rule_117 rfl (lv_at hl 0 rfl) ?_
                refine va_get (D := D) (ci := 3) (v := .ref l3) (C := Q_M) (T := F_M) (N := 5) hx hb hg in_M hown hK hP 0 rfl rfl 3 (by decide) (hg _ g_128) (fun _ h9 => h9) rfl d_M_rule_118 ?_
                refine vp_callSi (va_Run.run (va_runV (As := []) (rest := []) ⟨hx, hb, hml, hown, hg⟩ (c_A_size_ok l D cI cZ cJ cO l3 x1 0 e0) (cwV 0 hg (gv g_378 g_379 g_380 g_21 g_381) rfl rfl rfl (by decide +kernel) ⟨Nat.le_of_ble_eq_true rfl, Nat.le_of_ble_eq_true rfl⟩) (pV (pk_c (hP 4 (l3, .inr (0, [.int x1, .ref e0, .int 0])) rfl) pk_nil9) hK hN (va_recv hK (pk_c (hP 4 (l3, .inr (0, [.int x1, .ref e0, .int 0])) rfl) pk_nil9) (ci := 0) (q0 := 0) rfl rfl)) rfl rfl hl.1 rfl (lv_room (Nat.le_of_ble_eq_true rfl)) d_M_rule_121 ⟨Nat.zero_le _, Nat.zero_le _⟩)) (fun r_7 hr_7 => ?_)
                subst hr_7
                refine lv_bipush (v := 8) hx hb d_M_rule_124 (by decide) ?_
                refine lv_icmp_lt (tgt := 139) hx hb d_M_rule_126 (by decide) (fun c_126 => ?_) (fun c_126 => ?_)
                · refine lv_aload_n hx hb d_M_rule_139 rfl (lv_at hl 0 rfl) ?_
                  refine va_get (D := D) (ci := 3) (v := .ref l3) (C := Q_M) (T := F_M) (N := 5) hx hb hg in_M hown hK hP 0 rfl rfl 3 (by decide) (hg _ g_128) (fun _ h9 => h9) rfl d_M_rule_140 ?_
                  refine va_new (ci := 6) (fs := [.int 0, .int 0, .int 0, .int 0, .int 0, .int 0]) (C := Q_U) (T := F_U) (N := 6) hx hb hg in_U tq_U tq_U_ok hown (hg _ g_591) (hg _ g_592) (hg _ g_39) hK hP hD hS hA rfl (fun j hj => by rcases (show j = 0 ∨ j = 1 ∨ j = 2 ∨ j = 3 ∨ j = 4 ∨ j = 5 by omega) with rfl | rfl | rfl | rfl | rfl | rfl <;> rfl) (show 0 + 1 ≤ 2 by omega) (show 0 + 6 ≤ 40 by omega) d_M_rule_143 (fun q_143 H hP hD hS => ?_)
                  refine W.widen (k := 1) (n := 6) (by omega) (by omega) ?_
                  have hP : va_P D cls [(o, .inr (3, [.ref r0, .ref l1, .ref l2, .ref l3, .ref bb])), (r0, .inr (2, [.ref da, .ref ga])), (da, .inl (cI, n, .inl d)), (ga, .inl (cZ, n, .inl g)), (l3, .inr (0, [.int x1, .ref e0, .int 0])), (q_143, .inr (6, [.int 0, .int 0, .int 0, .int 0, .int 0, .int 0]))] H := hP
                  have hD : va_D A [(o, .inr (3, [.ref r0, .ref l1, .ref l2, .ref l3, .ref bb])), (r0, .inr (2, [.ref da, .ref ga])), (da, .inl (cI, n, .inl d)), (ga, .inl (cZ, n, .inl g)), (l3, .inr (0, [.int x1, .ref e0, .int 0])), (q_143, .inr (6, [.int 0, .int 0, .int 0, .int 0, .int 0, .int 0]))] := hD
                  refine lv_dup hx hb d_M_rule_146 rfl ?_
                  refine lv_iload_n hx hb d_M_rule_147 rfl (lv_at hl 1 rfl) ?_
                  refine lv_iload_n hx hb d_M_rule_148 rfl (lv_at hl 2 rfl) ?_
                  refine lv_iload_n hx hb d_M_rule_149 rfl (lv_at hl 3 rfl) ?_
                  refine lv_iload hx hb d_M_rule_150 (lv_at hl 4 rfl) ?_
                  refine lv_iload hx hb d_M_rule_152 (lv_at hl 5 rfl) ?_
                  refine lv_iload hx hb d_M_rule_154 (lv_at hl 6 rfl) ?_
                  have hP := hP.sub (ws' := [(q_143, .inr (6, [.int 0, .int 0, .int 0, .int 0, .int 0, .int 0]))] ++ [(o, .inr (3, [.ref r0, .ref l1, .ref l2, .ref l3, .ref bb])), (r0, .inr (2, [.ref da, .ref ga])), (da, .inl (cI, n, .inl d)), (ga, .inl (cZ, n, .inl g)), (l3, .inr (0, [.int x1, .ref e0, .int 0]))]) [5, 0, 1, 2, 3, 4] rfl
                  have hD := hD.sub (ws' := [(q_143, .inr (6, [.int 0, .int 0, .int 0, .int 0, .int 0, .int 0]))] ++ [(o, .inr (3, [.ref r0, .ref l1, .ref l2, .ref l3, .ref bb])), (r0, .inr (2, [.ref da, .ref ga])), (da, .inl (cI, n, .inl d)), (ga, .inl (cZ, n, .inl g)), (l3, .inr (0, [.int x1, .ref e0, .int 0]))]) [5, 0, 1, 2, 3, 4] (by decide) rfl
                  refine mcallv (wc := [(q_143, .inr (6, [.int 0, .int 0, .int 0, .int 0, .int 0, .int 0]))]) (wr := [(o, .inr (3, [.ref r0, .ref l1, .ref l2, .ref l3, .ref bb])), (r0, .inr (2, [.ref da, .ref ga])), (da, .inl (cI, n, .inl d)), (ga, .inl (cZ, n, .inl g)), (l3, .inr (0, [.int x1, .ref e0, .int 0]))]) (va_runI (As := [.int ff, .int tt, .int lo, .int hi, .int y9, .int un]) (rest := [.ref q_143, .ref l3]) ⟨hx, hb, hml, hown, hg⟩ (c_U_init_ok l D cI cZ cJ cO H.size q_143 ff tt lo hi y9 un) (cwI 6 hg (gq g_595) rfl rfl rfl (hg _ g_39) (hg _ g_593) (hg _ g_594) rfl (by decide +kernel) ⟨Nat.le_of_ble_eq_true rfl, Nat.le_of_ble_eq_true rfl⟩) (mS (As := .ref q_143 :: [.int ff, .int tt, .int lo, .int hi, .int y9, .int un]) (ba_Pl hP) hK hN (ba_Dl hD)) rfl rfl hl.1 rfl (lv_room (Nat.le_of_ble_eq_true rfl)) d_M_rule_156 ⟨Nat.le_of_ble_eq_true rfl, Nat.le_of_ble_eq_true rfl⟩) hP hD hS hA (fun u_8 H locs hu_8 hP hD hS => ?_)
                  subst hu_8
                  have hP : va_P D cls [(q_143, .inr (6, [.int ff, .int tt, .int lo, .int hi, .int y9, .int un])), (o, .inr (3, [.ref r0, .ref l1, .ref l2, .ref l3, .ref bb])), (r0, .inr (2, [.ref da, .ref ga])), (da, .inl (cI, n, .inl d)), (ga, .inl (cZ, n, .inl g)), (l3, .inr (0, [.int x1, .ref e0, .int 0]))] H := hP
                  have hD : va_D A [(q_143, .inr (6, [.int ff, .int tt, .int lo, .int hi, .int y9, .int un])), (o, .inr (3, [.ref r0, .ref l1, .ref l2, .ref l3, .ref bb])), (r0, .inr (2, [.ref da, .ref ga])), (da, .inl (cI, n, .inl d)), (ga, .inl (cZ, n, .inl g)), (l3, .inr (0, [.int x1, .ref e0, .int 0]))] := hD
                  have hP := hP.sub (ws' := [(l3, .inr (0, [.int x1, .ref e0, .int 0]))] ++ [(q_143, .inr (6, [.int ff, .int tt, .int lo, .int hi, .int y9, .int un])), (o, .inr (3, [.ref r0, .ref l1, .ref l2, .ref l3, .ref bb])), (r0, .inr (2, [.ref da, .ref ga])), (da, .inl (cI, n, .inl d)), (ga, .inl (cZ, n, .inl g))]) [5, 0, 1, 2, 3, 4] rfl
                  have hD := hD.sub (ws' := [(l3, .inr (0, [.int x1, .ref e0, .int 0]))] ++ [(q_143, .inr (6, [.int ff, .int tt, .int lo, .int hi, .int y9, .int un])), (o, .inr (3, [.ref r0, .ref l1, .ref l2, .ref l3, .ref bb])), (r0, .inr (2, [.ref da, .ref ga])), (da, .inl (cI, n, .inl d)), (ga, .inl (cZ, n, .inl g))]) [5, 0, 1, 2, 3, 4] (by decide) rfl
                  refine mcalli (wc := [(l3, .inr (0, [.int x1, .ref e0, .int 0]))]) (wr := [(q_143, .inr (6, [.int ff, .int tt, .int lo, .int hi, .int y9, .int un])), (o, .inr (3, [.ref r0, .ref l1, .ref l2, .ref l3, .ref bb])), (r0, .inr (2, [.ref da, .ref ga])), (da, .inl (cI, n, .inl d)), (ga, .inl (cZ, n, .inl g))]) (va_runV (As := [.ref q_143]) (rest := []) ⟨hx, hb, hml, hown, hg⟩ (c_A_addV_ok l D cI cZ cJ cO H.size e0 mi "RubbingMirrors$Rule" nw_30 (fun y => y = q_143 ∨ False) l3 x1 q_143 (Or.inl rfl)) (cwV 1 hg (gv g_394 g_395 g_396 g_21 g_397) rfl rfl rfl (by decide +kernel) ⟨Nat.le_of_ble_eq_true rfl, Nat.le_of_ble_eq_true rfl⟩) ⟨lp_blind, va_recv hK (ba_Pl hP) (ci := 0) (q0 := 0) rfl rfl, fun U hU hW => ⟨rfl, lPre2 hP hD hK hN hS hA hsP (fun y hy => by rcases hy with rfl | hy; exact ⟨va_recv hK (ba_Pr hP) (ci := 6) (q0 := 0) rfl rfl, notA hP hD (List.mem_of_getElem? (i := 0) rfl)⟩; exact hy.elim) U hU hW⟩⟩ rfl rfl hl.1 rfl (lv_room (Nat.le_of_ble_eq_true rfl)) d_M_rule_159 ⟨Nat.le_of_ble_eq_true rfl, Nat.le_of_ble_eq_true rfl⟩) hP hD hS hA (fun r_11 u_10 H locs hu_10 hP hD hS => ?_)
                  obtain ⟨rfl, ea1, cap1, f1, rfl, hcp1, hcp2, hf1, hf2⟩ := hu_10
                  have hP : va_P D cls [(l3, .inr (0, [.int (x1 + 1), .ref ea1, .int (nI (0 + 1))])), (ea1, .inl (cO, cap1, .inr (.inr (.inr (.inr f1))))), (q_143, .inr (6, [.int ff, .int tt, .int lo, .int hi, .int y9, .int un])), (o, .inr (3, [.ref r0, .ref l1, .ref l2, .ref l3, .ref bb])), (r0, .inr (2, [.ref da, .ref ga])), (da, .inl (cI, n, .inl d)), (ga, .inl (cZ, n, .inl g))] H := hP
                  have hD : va_D A [(l3, .inr (0, [.int (x1 + 1), .ref ea1, .int (nI (0 + 1))])), (ea1, .inl (cO, cap1, .inr (.inr (.inr (.inr f1))))), (q_143, .inr (6, [.int ff, .int tt, .int lo, .int hi, .int y9, .int un])), (o, .inr (3, [.ref r0, .ref l1, .ref l2, .ref l3, .ref bb])), (r0, .inr (2, [.ref da, .ref ga])), (da, .inl (cI, n, .inl d)), (ga, .inl (cZ, n, .inl g))] := hD
                  refine W.widen (k := 2) (n := 28) (by omega) (by omega) ?_
                  refine lv_pop hx hb d_M_rule_162 rfl ?_
                  refine lv_aload_n hx hb d_M_rule_163 rfl (lv_at hl 0 rfl) ?_
                  refine va_get (D := D) (ci := 3) (v := .ref l3) (C := Q_M) (T := F_M) (N := 5) hx hb hg in_M hown hK hP 3 rfl rfl 3 (by decide) (hg _ g_128) (fun _ h9 => h9) rfl d_M_rule_164 ?_
                  refine vp_callSi (va_Run.run (va_runV (As := []) (rest := []) ⟨hx, hb, hml, hown, hg⟩ (c_A_size_ok l D cI cZ cJ cO l3 (x1 + 1) (nI (0 + 1)) ea1) (cwV 0 hg (gv g_378 g_379 g_380 g_21 g_381) rfl rfl rfl (by decide +kernel) ⟨Nat.le_of_ble_eq_true rfl, Nat.le_of_ble_eq_true rfl⟩) (pV (pk_c (hP 0 (l3, .inr (0, [.int (x1 + 1), .ref ea1, .int (nI (0 + 1))])) rfl) pk_nil9) hK hN (va_recv hK (pk_c (hP 0 (l3, .inr (0, [.int (x1 + 1), .ref ea1, .int (nI (0 + 1))])) rfl) pk_nil9) (ci := 0) (q0 := 0) rfl rfl)) rfl rfl hl.1 rfl (lv_room (Nat.le_of_ble_eq_true rfl)) d_M_rule_167 ⟨Nat.le_of_ble_eq_true rfl, Nat.le_of_ble_eq_true rfl⟩)) (fun r_12 hr_12 => ?_)
                  subst hr_12
                  have hP := hP.sub (ws' := [(o, .inr (3, [.ref r0, .ref l1, .ref l2, .ref l3, .ref bb])), (r0, .inr (2, [.ref da, .ref ga])), (da, .inl (cI, n, .inl d)), (ga, .inl (cZ, n, .inl g)), (l3, .inr (0, [.int (x1 + 1), .ref ea1, .int (nI (0 + 1))])), (ea1, .inl (cO, cap1, .inr (.inr (.inr (.inr f1))))), (q_143, .inr (6, [.int ff, .int tt, .int lo, .int hi, .int y9, .int un]))]) [3, 4, 5, 6, 0, 1, 2] rfl
                  have hD := hD.sub (ws' := [(o, .inr (3, [.ref r0, .ref l1, .ref l2, .ref l3, .ref bb])), (r0, .inr (2, [.ref da, .ref ga])), (da, .inl (cI, n, .inl d)), (ga, .inl (cZ, n, .inl g)), (l3, .inr (0, [.int (x1 + 1), .ref ea1, .int (nI (0 + 1))])), (ea1, .inl (cO, cap1, .inr (.inr (.inr (.inr f1))))), (q_143, .inr (6, [.int ff, .int tt, .int lo, .int hi, .int y9, .int un]))]) [3, 4, 5, 6, 0, 1, 2] (by decide) rfl
                  refine vx_ret ?_
                  refine W.widen (k := 2) (n := 40) (by omega) (by omega) ?_
                  exact W.iret hx hb hr (fun t9 ht hW => ⟨⟨_, [(o, .inr (3, [.ref r0, .ref l1, .ref l2, .ref l3, .ref bb])), (r0, .inr (2, [.ref da, .ref ga])), (da, .inl (cI, n, .inl d)), (ga, .inl (cZ, n, .inl g)), (l3, .inr (0, [.int (x1 + 1), .ref ea1, .int (nI (0 + 1))])), (ea1, .inl (cO, cap1, .inr (.inr (.inr (.inr f1))))), (q_143, .inr (6, [.int ff, .int tt, .int lo, .int hi, .int y9, .int un]))], rfl, ⟨cu_0 c_8 c_19 (ru_0 c_34 c_55 c_67 c_91 c_104) (by decide), rfl, q_143, ea1, cap1, f1, rfl, hcp1, hcp2, hf1, hf2⟩, by rw [ht]; exact hP, va_K.moved hW.alike hK, hD⟩, hS.F ht⟩) hS.2.2 d_M_rule_170
                · exact absurd c_126 (by decide)
              · exact thrw hx hb hlt hown hg hN x_A st_200 hU hV hS (by rw [hml]; exact hl.1) d_M_rule_107 d_M_rule_110 d_M_rule_111 d_M_rule_113 d_M_rule_116 hno (Nat.le_of_ble_eq_true rfl) (Nat.le_of_ble_eq_true rfl) (Nat.le_of_ble_eq_true rfl) (Nat.le_of_ble_eq_true rfl) hlocks hP hK hD rfl (Or.inr (Or.inl ⟨cu_w c_8 c_19 (ru_5 c_104), rfl⟩)) (Nat.le_of_ble_eq_true rfl) (Nat.le_of_ble_eq_true rfl)
          · exact thrw hx hb hlt hown hg hN x_A st_198 hU hV hS (by rw [hml]; exact hl.1) d_M_rule_70 d_M_rule_73 d_M_rule_74 d_M_rule_76 d_M_rule_79 hno (Nat.le_of_ble_eq_true rfl) (Nat.le_of_ble_eq_true rfl) (Nat.le_of_ble_eq_true rfl) (Nat.le_of_ble_eq_true rfl) hlocks hP hK hD rfl (Or.inr (Or.inl ⟨cu_w c_8 c_19 (ru_3 c_67), rfl⟩)) (Nat.le_of_ble_eq_true rfl) (Nat.le_of_ble_eq_true rfl)
      · exact thrw hx hb hlt hown hg hN x_A st_196 hU hV hS (by rw [hml]; exact hl.1) d_M_rule_37 d_M_rule_40 d_M_rule_41 d_M_rule_43 d_M_rule_46 hno (Nat.le_of_ble_eq_true rfl) (Nat.le_of_ble_eq_true rfl) (Nat.le_of_ble_eq_true rfl) (Nat.le_of_ble_eq_true rfl) hlocks hP hK hD rfl (Or.inr (Or.inl ⟨cu_w c_8 c_19 (ru_1 c_34), rfl⟩)) (Nat.le_of_ble_eq_true rfl) (Nat.le_of_ble_eq_true rfl)
    · exact thrw hx hb hlt hown hg hN x_I st_194 hU hV hS (by rw [hml]; exact hl.1) d_M_rule_22 d_M_rule_25 d_M_rule_26 d_M_rule_28 d_M_rule_31 hno (Nat.le_of_ble_eq_true rfl) (Nat.le_of_ble_eq_true rfl) (Nat.le_of_ble_eq_true rfl) (Nat.le_of_ble_eq_true rfl) hlocks hP hK hD rfl (Or.inl ⟨cu_2 c_19, rfl⟩) (Nat.le_of_ble_eq_true rfl) (Nat.le_of_ble_eq_true rfl)

set_option maxHeartbeats 4000000 in
set_option maxRecDepth 100000 in
/-- rule -/
theorem c_M_ruleN_ok (l : Launch) (hlt : l.stackTraces = false) (D : va_G) (cI cZ cJ cO : ClassId) (sz e0 mi : Nat) (o r0 l1 l2 l3 bb da ga : Nat) (n : Nat) (d g : Nat → Int32) (h4 : 4 ≤ n) (h64 : n ≤ 64) (x1 : Int32) (ea c9 n1 : Nat) (f : Nat → Option Nat) (hc9 : c9 ≤ 8) (hcn : c9 < n1) (hn1 : n1 ≤ 22) (ff tt lo hi y9 un : Int32) : vx_Met l y_M_rule (wq y_M_rule c_M_rule 7 (some .int)) ({ frames := 7, cells := 2, slots := 40, locals := 191 }) (gP D (TY cI cZ cJ cO) [(o, .inr (3, [.ref r0, .ref l1, .ref l2, .ref l3, .ref bb])), (r0, .inr (2, [.ref da, .ref ga])), (da, .inl (cI, n, .inl d)), (ga, .inl (cZ, n, .inl g)), (l3, .inr (0, [.int x1, .ref ea, .int (nI c9)])), (ea, .inl (cO, n1, .inr (.inr (.inr (.inr f)))))] [.ref o, .int ff, .int tt, .int lo, .int hi, .int y9, .int un] sz e0 mi "RubbingMirrors$Rule" (fun y => False)) (va_Qi (fun (r : Int32) (u : va_W) => cRul n c9 ff tt lo hi y9 un = 0 ∧ r = nI (c9 + 1) ∧ ∃ (q ea1 cap1 : Nat) (f1 : Nat → Option Nat), u = [(o, .inr (3, [.ref r0, .ref l1, .ref l2, .ref l3, .ref bb])), (r0, .inr (2, [.ref da, .ref ga])), (da, .inl (cI, n, .inl d)), (ga, .inl (cZ, n, .inl g)), (l3, .inr (0, [.int (x1 + 1), .ref ea1, .int (nI (c9 + 1))])), (ea1, .inl (cO, cap1, .inr (.inr (.inr (.inr f1))))), (q, .inr (6, [.int ff, .int tt, .int lo, .int hi, .int y9, .int un]))] ∧ c9 + 1 ≤ cap1 ∧ cap1 = n1 ∧ (∀ i, i < c9 → f1 i = f i) ∧ f1 c9 = some q) (mB D (TY cI cZ cJ cO) (va_A [(o, .inr (3, [.ref r0, .ref l1, .ref l2, .ref l3, .ref bb])), (r0, .inr (2, [.ref da, .ref ga])), (da, .inl (cI, n, .inl d)), (ga, .inl (cZ, n, .inl g)), (l3, .inr (0, [.int x1, .ref ea, .int (nI c9)])), (ea, .inl (cO, n1, .inr (.inr (.inr (.inr f)))))] sz)) (va_A [(o, .inr (3, [.ref r0, .ref l1, .ref l2, .ref l3, .ref bb])), (r0, .inr (2, [.ref da, .ref ga])), (da, .inl (cI, n, .inl d)), (ga, .inl (cZ, n, .inl g)), (l3, .inr (0, [.int x1, .ref ea, .int (nI c9)])), (ea, .inl (cO, n1, .inr (.inr (.inr (.inr f)))))] sz)) (vx_X (fun (u : va_W) => u = [(o, .inr (3, [.ref r0, .ref l1, .ref l2, .ref l3, .ref bb])), (r0, .inr (2, [.ref da, .ref ga])), (da, .inl (cI, n, .inl d)), (ga, .inl (cZ, n, .inl g)), (l3, .inr (0, [.int x1, .ref ea, .int (nI c9)])), (ea, .inl (cO, n1, .inr (.inr (.inr (.inr f)))))]) (xB D (TY cI cZ cJ cO) (va_A [(o, .inr (3, [.ref r0, .ref l1, .ref l2, .ref l3, .ref bb])), (r0, .inr (2, [.ref da, .ref ga])), (da, .inl (cI, n, .inl d)), (ga, .inl (cZ, n, .inl g)), (l3, .inr (0, [.int x1, .ref ea, .int (nI c9)])), (ea, .inl (cO, n1, .inr (.inr (.inr (.inr f)))))] sz) (fun E => (cRul n c9 ff tt lo hi y9 un = 1 ∧ E = eI) ∨ (cRul n c9 ff tt lo hi y9 un = 2 ∧ E = eA) ∨ (cRul n c9 ff tt lo hi y9 un = 3 ∧ E = eS))) (va_A [(o, .inr (3, [.ref r0, .ref l1, .ref l2, .ref l3, .ref bb])), (r0, .inr (2, [.ref da, .ref ga])), (da, .inl (cI, n, .inl d)), (ga, .inl (cZ, n, .inl g)), (l3, .inr (0, [.int x1, .ref ea, .int (nI c9)])), (ea, .inl (cO, n1, .inr (.inr (.inr (.inr f)))))] sz)) 2 40 (va_A [(o, .inr (3, [.ref r0, .ref l1, .ref l2, .ref l3, .ref bb])), (r0, .inr (2, [.ref da, .ref ga])), (da, .inl (cI, n, .inl d)), (ga, .inl (cZ, n, .inl g)), (l3, .inr (0, [.int x1, .ref ea, .int (nI c9)])), (ea, .inl (cO, n1, .inr (.inr (.inr (.inr f)))))] sz) := by
  refine vx_ofW (cc := c_M_rule) (maxL := 7) (ret := (some .int)) (by decide) rfl ?_
  intro p e s m args below meth c s₁ B hml hno hv
  obtain ⟨rfl, hsz, hP, hK, hD0, hN, hU, hV, hsP, hEl⟩ := hv
  have hx := B.exec
  have hb := B.bytes
  have hr := B.returns
  have hg := gt_h (atoms_spec (ws := (wq y_M_rule c_M_rule 7 (some .int))) B.pre)
  have hown : s.vm.findClass "RubbingMirrors" = some m.cls := findClass_of_methodNamed B.named
  have hlocks := B.notSynchronized
  subst hsz
  have hD := hD0.self (sz := s.heap.size)
  generalize hAe : va_A [(o, .inr (3, [.ref r0, .ref l1, .ref l2, .ref l3, .ref bb])), (r0, .inr (2, [.ref da, .ref ga])), (da, .inl (cI, n, .inl d)), (ga, .inl (cZ, n, .inl g)), (l3, .inr (0, [.int x1, .ref ea, .int (nI c9)])), (ea, .inl (cO, n1, .inr (.inr (.inr (.inr f)))))] s.heap.size = A at hD hU hV hsP hEl ⊢
  have hA : ∀ q : Nat, s.heap.size ≤ q → A q := fun q h => by rw [← hAe]; exact Or.inr h
  have hS : va_S A s.heap s.heap [] := va_S.rf
  have hl := lv_entry ([.ref o, .int ff, .int tt, .int lo, .int hi, .int y9, .int un]) (n := 7) (Nat.le_of_ble_eq_true rfl)
  rw [lg_entry_eq]
  generalize (lg_sl ([.ref o, .int ff, .int tt, .int lo, .int hi, .int y9, .int un]) ++ List.replicate (7 - (lg_sl ([.ref o, .int ff, .int tt, .int lo, .int hi, .int y9, .int un])).length) Slot.unset).toArray = ls at hl ⊢
  have hl : lv_has ls 7 [(0, .ref o), (1, .int ff), (2, .int tt), (3, .int lo), (4, .int hi), (5, .int y9), (6, .int un)] := hl
  refine lv_aload_n hx hb d_M_rule_0 rfl (lv_at hl 0 rfl) ?_
  refine va_get (D := D) (ci := 3) (v := .ref r0) (C := Q_M) (T := F_M) (N := 5) hx hb hg in_M hown hK hP 0 rfl rfl 0 (by decide) (hg _ g_125) (fun _ h9 => h9) rfl d_M_rule_1 ?_
  refine lv_iload_n hx hb d_M_rule_4 rfl (lv_at hl 1 rfl) ?_
  refine vp_callSi (va_Run.run (va_runV (As := [.int ff]) (rest := []) ⟨hx, hb, hml, hown, hg⟩ (c_R_has_ok l D cI cZ cJ cO r0 da ga n d g (by omega) ff) (cwV 1 hg (gv g_161 g_162 g_163 g_23 g_164) rfl rfl rfl (by decide +kernel) ⟨Nat.le_of_ble_eq_true rfl, Nat.le_of_ble_eq_true rfl⟩) (pV (pk_c (hP 1 (r0, .inr (2, [.ref da, .ref ga])) rfl) (pk_c (hP 2 (da, .inl (cI, n, .inl d)) rfl) (pk_c (hP 3 (ga, .inl (cZ, n, .inl g)) rfl) pk_nil9))) hK hN (va_recv hK (pk_c (hP 1 (r0, .inr (2, [.ref da, .ref ga])) rfl) (pk_c (hP 2 (da, .inl (cI, n, .inl d)) rfl) (pk_c (hP 3 (ga, .inl (cZ, n, .inl g)) rfl) pk_nil9))) (ci := 2) (q0 := 0) rfl rfl)) rfl rfl hl.1 rfl (lv_room (Nat.le_of_ble_eq_true rfl)) d_M_rule_5 ⟨Nat.zero_le _, Nat.zero_le _⟩)) (fun r_1 hr_1 => ?_)
  subst hr_1
  refine lv_if_eq (tgt := 22) hx hb d_M_rule_8 (by decide) (fun c_8 => ?_) (fun c_8 => ?_)
  · exact thrw hx hb hlt hown hg hN x_I st_194 hU hV hS (by rw [hml]; exact hl.1) d_M_rule_22 d_M_rule_25 d_M_rule_26 d_M_rule_28 d_M_rule_31 hno (Nat.le_of_ble_eq_true rfl) (Nat.le_of_ble_eq_true rfl) (Nat.le_of_ble_eq_true rfl) (Nat.le_of_ble_eq_true rfl) hlocks hP hK hD rfl (Or.inl ⟨cu_1 c_8, rfl⟩) (Nat.le_of_ble_eq_true rfl) (Nat.le_of_ble_eq_true rfl)
  · refine lv_aload_n hx hb d_M_rule_11 rfl (lv_at hl 0 rfl) ?_
    refine va_get (D := D) (ci := 3) (v := .ref r0) (C := Q_M) (T := F_M) (N := 5) hx hb hg in_M hown hK hP 0 rfl rfl 0 (by decide) (hg _ g_125) (fun _ h9 => h9) rfl d_M_rule_12 ?_
    refine lv_iload_n hx hb d_M_rule_15 rfl (lv_at hl 2 rfl) ?_
    refine vp_callSi (va_Run.run (va_runV (As := [.int tt]) (rest := []) ⟨hx, hb, hml, hown, hg⟩ (c_R_has_ok l D cI cZ cJ cO r0 da ga n d g (by omega) tt) (cwV 1 hg (gv g_161 g_162 g_163 g_23 g_164) rfl rfl rfl (by decide +kernel) ⟨Nat.le_of_ble_eq_true rfl, Nat.le_of_ble_eq_true rfl⟩) (pV (pk_c (hP 1 (r0, .inr (2, [.ref da, .ref ga])) rfl) (pk_c (hP 2 (da, .inl (cI, n, .inl d)) rfl) (pk_c (hP 3 (ga, .inl (cZ, n, .inl g)) rfl) pk_nil9))) hK hN (va_recv hK (pk_c (hP 1 (r0, .inr (2, [.ref da, .ref ga])) rfl) (pk_c (hP 2 (da, .inl (cI, n, .inl d)) rfl) (pk_c (hP 3 (ga, .inl (cZ, n, .inl g)) rfl) pk_nil9))) (ci := 2) (q0 := 0) rfl rfl)) rfl rfl hl.1 rfl (lv_room (Nat.le_of_ble_eq_true rfl)) d_M_rule_16 ⟨Nat.zero_le _, Nat.zero_le _⟩)) (fun r_2 hr_2 => ?_)
    subst hr_2
    refine lv_if_ne (tgt := 32) hx hb d_M_rule_19 (by decide) (fun c_19 => ?_) (fun c_19 => ?_)
    · refine lv_iload_n hx hb d_M_rule_32 rfl (lv_at hl 2 rfl) ?_
      refine lv_iload_n hx hb d_M_rule_33 rfl (lv_at hl 1 rfl) ?_
      refine lv_icmp_ge (tgt := 47) hx hb d_M_rule_34 (by decide) (fun c_34 => ?_) (fun c_34 => ?_)
      · refine lv_iload_n hx hb d_M_rule_47 rfl (lv_at hl 3 rfl) ?_
        refine lv_iconst (v := 0) hx hb d_M_rule_48 (by decide) ?_
        refine lv_sipush (v := 255) hx hb d_M_rule_49 (by decide) ?_
        refine vp_callSi (va_Run.run (va_runS (As := [.int lo, .int 0, .int 255]) (rest := []) ⟨hx, hb, hml, hown, hg⟩ (c_M_isWithin_ok l D cI cZ cJ cO lo 0 255) (va_cwS 3 hg (gs2 g_233 g_234 g_18 g_235) rfl rfl rfl (by decide +kernel) ⟨Nat.le_of_ble_eq_true rfl, Nat.le_of_ble_eq_true rfl⟩) (pS ba_nil hK hN) rfl rfl hl.1 rfl (lv_room (Nat.le_of_ble_eq_true rfl)) d_M_rule_52 ⟨Nat.zero_le _, Nat.zero_le _⟩)) (fun r_3 hr_3 => ?_)
        subst hr_3
        refine lv_if_eq (tgt := 70) hx hb d_M_rule_55 (by decide) (fun c_55 => ?_) (fun c_55 => ?_)
        · exact thrw hx hb hlt hown hg hN x_A st_198 hU hV hS (by rw [hml]; exact hl.1) d_M_rule_70 d_M_rule_73 d_M_rule_74 d_M_rule_76 d_M_rule_79 hno (Nat.le_of_ble_eq_true rfl) (Nat.le_of_ble_eq_true rfl) (Nat.le_of_ble_eq_true rfl) (Nat.le_of_ble_eq_true rfl) hlocks hP hK hD rfl (Or.inr (Or.inl ⟨cu_w c_8 c_19 (ru_2 c_55), rfl⟩)) (Nat.le_of_ble_eq_true rfl) (Nat.le_of_ble_eq_true rfl)
        · refine lv_iload hx hb d_M_rule_58 (lv_at hl 4 rfl) ?_
          refine lv_iload_n hx hb d_M_rule_60 rfl (lv_at hl 3 rfl) ?_
          refine lv_sipush (v := 255) hx hb d_M_rule_61 (by decide) ?_
          refine vp_callSi (va_Run.run (va_runS (As := [.int hi, .int lo, .int 255]) (rest := []) ⟨hx, hb, hml, hown, hg⟩ (c_M_isWithin_ok l D cI cZ cJ cO hi lo 255) (va_cwS 3 hg (gs2 g_233 g_234 g_18 g_235) rfl rfl rfl (by decide +kernel) ⟨Nat.le_of_ble_eq_true rfl, Nat.le_of_ble_eq_true rfl⟩) (pS ba_nil hK hN) rfl rfl hl.1 rfl (lv_room (Nat.le_of_ble_eq_true rfl)) d_M_rule_64 ⟨Nat.zero_le _, Nat.zero_le _⟩)) (fun r_4 hr_4 => ?_)
          subst hr_4
          refine lv_if_ne (tgt := 80) hx hb d_M_rule_67 (by decide) (fun c_67 => ?_) (fun c_67 => ?_)
          · refine lv_iload hx hb d_M_rule_80 (lv_at hl 5 rfl) ?_
            refine lv_sipush (v := (-10000)) hx hb d_M_rule_82 (by decide) ?_
            refine lv_sipush (v := 10000) hx hb d_M_rule_85 (by decide) ?_
            refine vp_callSi (va_Run.run (va_runS (As := [.int y9, .int (-10000), .int 10000]) (rest := []) ⟨hx, hb, hml, hown, hg⟩ (c_M_isWithin_ok l D cI cZ cJ cO y9 (-10000) 10000) (va_cwS 3 hg (gs2 g_233 g_234 g_18 g_235) rfl rfl rfl (by decide +kernel) ⟨Nat.le_of_ble_eq_true rfl, Nat.le_of_ble_eq_true rfl⟩) (pS ba_nil hK hN) rfl rfl hl.1 rfl (lv_room (Nat.le_of_ble_eq_true rfl)) d_M_rule_88 ⟨Nat.zero_le _, Nat.zero_le _⟩)) (fun r_5 hr_5 => ?_)
            subst hr_5
            refine lv_if_eq (tgt := 107) hx hb d_M_rule_91 (by decide) (fun c_91 => ?_) (fun c_91 => ?_)
            · exact thrw hx hb hlt hown hg hN x_A st_200 hU hV hS (by rw [hml]; exact hl.1) d_M_rule_107 d_M_rule_110 d_M_rule_111 d_M_rule_113 d_M_rule_116 hno (Nat.le_of_ble_eq_true rfl) (Nat.le_of_ble_eq_true rfl) (Nat.le_of_ble_eq_true rfl) (Nat.le_of_ble_eq_true rfl) hlocks hP hK hD rfl (Or.inr (Or.inl ⟨cu_w c_8 c_19 (ru_4 c_91), rfl⟩)) (Nat.le_of_ble_eq_true rfl) (Nat.le_of_ble_eq_true rfl)
            · refine lv_iload hx hb d_M_rule_94 (lv_at hl 6 rfl) ?_
              refine lv_iload hx hb d_M_rule_96 (lv_at hl 5 rfl) ?_
              refine lv_sipush (v := 10000) hx hb d_M_rule_98 (by decide) ?_
              refine vp_callSi (va_Run.run (va_runS (As := [.int un, .int y9, .int 10000]) (rest := []) ⟨hx, hb, hml, hown, hg⟩ (c_M_isWithin_ok l D cI cZ cJ cO un y9 10000) (va_cwS 3 hg (gs2 g_233 g_234 g_18 g_235) rfl rfl rfl (by decide +kernel) ⟨Nat.le_of_ble_eq_true rfl, Nat.le_of_ble_eq_true rfl⟩) (pS ba_nil hK hN) rfl rfl hl.1 rfl (lv_room (Nat.le_of_ble_eq_true rfl)) d_M_rule_101 ⟨Nat.zero_le _, Nat.zero_le _⟩)) (fun r_6 hr_6 => ?_)
              subst hr_6
              refine lv_if_ne (tgt := 117) hx hb d_M_rule_104 (by decide) (fun c_104 => ?_) (fun c_104 => ?_)
              · refine lv_aload_n hx hb d_M_rule_117 rfl (lv_at hl 0 rfl) ?_
                refine va_get (D := D) (ci := 3) (v := .ref l3) (C := Q_M) (T := F_M) (N := 5) hx hb hg in_M hown hK hP 0 rfl rfl 3 (by decide) (hg _ g_128) (fun _ h9 => h9) rfl d_M_rule_118 ?_
                refine vp_callSi (va_Run.run (va_runV (As := []) (rest := []) ⟨hx, hb, hml, hown, hg⟩ (c_A_size_ok l D cI cZ cJ cO l3 x1 (nI c9) ea) (cwV 0 hg (gv g_378 g_379 g_380 g_21 g_381) rfl rfl rfl (by decide +kernel) ⟨Nat.le_of_ble_eq_true rfl, Nat.le_of_ble_eq_true rfl⟩) (pV (pk_c (hP 4 (l3, .inr (0, [.int x1, .ref ea, .int (nI c9)])) rfl) pk_nil9) hK hN (va_recv hK (pk_c (hP 4 (l3, .inr (0, [.int x1, .ref ea, .int (nI c9)])) rfl) pk_nil9) (ci := 0) (q0 := 0) rfl rfl)) rfl rfl hl.1 rfl (lv_room (Nat.le_of_ble_eq_true rfl)) d_M_rule_121 ⟨Nat.zero_le _, Nat.zero_le _⟩)) (fun r_7 hr_7 => ?_)
                subst hr_7
                refine lv_bipush (v := 8) hx hb d_M_rule_124 (by decide) ?_
                refine lv_icmp_lt (tgt := 139) hx hb d_M_rule_126 (by decide) (fun c_126 => ?_) (fun c_126 => ?_)
                · refine lv_aload_n hx hb d_M_rule_139 rfl (lv_at hl 0 rfl) ?_
                  refine va_get (D := D) (ci := 3) (v := .ref l3) (C := Q_M) (T := F_M) (N := 5) hx hb hg in_M hown hK hP 0 rfl rfl 3 (by decide) (hg _ g_128) (fun _ h9 => h9) rfl d_M_rule_140 ?_
                  refine va_new (ci := 6) (fs := [.int 0, .int 0, .int 0, .int 0, .int 0, .int 0]) (C := Q_U) (T := F_U) (N := 6) hx hb hg in_U tq_U tq_U_ok hown (hg _ g_591) (hg _ g_592) (hg _ g_39) hK hP hD hS hA rfl (fun j hj => by rcases (show j = 0 ∨ j = 1 ∨ j = 2 ∨ j = 3 ∨ j = 4 ∨ j = 5 by omega) with rfl | rfl | rfl | rfl | rfl | rfl <;> rfl) (show 0 + 1 ≤ 2 by omega) (show 0 + 6 ≤ 40 by omega) d_M_rule_143 (fun q_143 H hP hD hS => ?_)
                  refine W.widen (k := 1) (n := 6) (by omega) (by omega) ?_
                  have hP : va_P D cls [(o, .inr (3, [.ref r0, .ref l1, .ref l2, .ref l3, .ref bb])), (r0, .inr (2, [.ref da, .ref ga])), (da, .inl (cI, n, .inl d)), (ga, .inl (cZ, n, .inl g)), (l3, .inr (0, [.int x1, .ref ea, .int (nI c9)])), (ea, .inl (cO, n1, .inr (.inr (.inr (.inr f))))), (q_143, .inr (6, [.int 0, .int 0, .int 0, .int 0, .int 0, .int 0]))] H := hP
                  have hD : va_D A [(o, .inr (3, [.ref r0, .ref l1, .ref l2, .ref l3, .ref bb])), (r0, .inr (2, [.ref da, .ref ga])), (da, .inl (cI, n, .inl d)), (ga, .inl (cZ, n, .inl g)), (l3, .inr (0, [.int x1, .ref ea, .int (nI c9)])), (ea, .inl (cO, n1, .inr (.inr (.inr (.inr f))))), (q_143, .inr (6, [.int 0, .int 0, .int 0, .int 0, .int 0, .int 0]))] := hD
                  refine lv_dup hx hb d_M_rule_146 rfl ?_
                  refine lv_iload_n hx hb d_M_rule_147 rfl (lv_at hl 1 rfl) ?_
                  refine lv_iload_n hx hb d_M_rule_148 rfl (lv_at hl 2 rfl) ?_
                  refine lv_iload_n hx hb d_M_rule_149 rfl (lv_at hl 3 rfl) ?_
                  refine lv_iload hx hb d_M_rule_150 (lv_at hl 4 rfl) ?_
                  refine lv_iload hx hb d_M_rule_152 (lv_at hl 5 rfl) ?_
                  refine lv_iload hx hb d_M_rule_154 (lv_at hl 6 rfl) ?_
                  have hP := hP.sub (ws' := [(q_143, .inr (6, [.int 0, .int 0, .int 0, .int 0, .int 0, .int 0]))] ++ [(o, .inr (3, [.ref r0, .ref l1, .ref l2, .ref l3, .ref bb])), (r0, .inr (2, [.ref da, .ref ga])), (da, .inl (cI, n, .inl d)), (ga, .inl (cZ, n, .inl g)), (l3, .inr (0, [.int x1, .ref ea, .int (nI c9)])), (ea, .inl (cO, n1, .inr (.inr (.inr (.inr f)))))]) [6, 0, 1, 2, 3, 4, 5] rfl
                  have hD := hD.sub (ws' := [(q_143, .inr (6, [.int 0, .int 0, .int 0, .int 0, .int 0, .int 0]))] ++ [(o, .inr (3, [.ref r0, .ref l1, .ref l2, .ref l3, .ref bb])), (r0, .inr (2, [.ref da, .ref ga])), (da, .inl (cI, n, .inl d)), (ga, .inl (cZ, n, .inl g)), (l3, .inr (0, [.int x1, .ref ea, .int (nI c9)])), (ea, .inl (cO, n1, .inr (.inr (.inr (.inr f)))))]) [6, 0, 1, 2, 3, 4, 5] (by decide) rfl
                  refine mcallv (wc := [(q_143, .inr (6, [.int 0, .int 0, .int 0, .int 0, .int 0, .int 0]))]) (wr := [(o, .inr (3, [.ref r0, .ref l1, .ref l2, .ref l3, .ref bb])), (r0, .inr (2, [.ref da, .ref ga])), (da, .inl (cI, n, .inl d)), (ga, .inl (cZ, n, .inl g)), (l3, .inr (0, [.int x1, .ref ea, .int (nI c9)])), (ea, .inl (cO, n1, .inr (.inr (.inr (.inr f)))))]) (va_runI (As := [.int ff, .int tt, .int lo, .int hi, .int y9, .int un]) (rest := [.ref q_143, .ref l3]) ⟨hx, hb, hml, hown, hg⟩ (c_U_init_ok l D cI cZ cJ cO H.size q_143 ff tt lo hi y9 un) (cwI 6 hg (gq g_595) rfl rfl rfl (hg _ g_39) (hg _ g_593) (hg _ g_594) rfl (by decide +kernel) ⟨Nat.le_of_ble_eq_true rfl, Nat.le_of_ble_eq_true rfl⟩) (mS (As := .ref q_143 :: [.int ff, .int tt, .int lo, .int hi, .int y9, .int un]) (ba_Pl hP) hK hN (ba_Dl hD)) rfl rfl hl.1 rfl (lv_room (Nat.le_of_ble_eq_true rfl)) d_M_rule_156 ⟨Nat.le_of_ble_eq_true rfl, Nat.le_of_ble_eq_true rfl⟩) hP hD hS hA (fun u_8 H locs hu_8 hP hD hS => ?_)
                  subst hu_8
                  have hP : va_P D cls [(q_143, .inr (6, [.int ff, .int tt, .int lo, .int hi, .int y9, .int un])), (o, .inr (3, [.ref r0, .ref l1, .ref l2, .ref l3, .ref bb])), (r0, .inr (2, [.ref da, .ref ga])), (da, .inl (cI, n, .inl d)), (ga, .inl (cZ, n, .inl g)), (l3, .inr (0, [.int x1, .ref ea, .int (nI c9)])), (ea, .inl (cO, n1, .inr (.inr (.inr (.inr f)))))] H := hP
                  have hD : va_D A [(q_143, .inr (6, [.int ff, .int tt, .int lo, .int hi, .int y9, .int un])), (o, .inr (3, [.ref r0, .ref l1, .ref l2, .ref l3, .ref bb])), (r0, .inr (2, [.ref da, .ref ga])), (da, .inl (cI, n, .inl d)), (ga, .inl (cZ, n, .inl g)), (l3, .inr (0, [.int x1, .ref ea, .int (nI c9)])), (ea, .inl (cO, n1, .inr (.inr (.inr (.inr f)))))] := hD
                  have hP := hP.sub (ws' := [(l3, .inr (0, [.int x1, .ref ea, .int (nI c9)])), (ea, .inl (cO, n1, .inr (.inr (.inr (.inr f)))))] ++ [(q_143, .inr (6, [.int ff, .int tt, .int lo, .int hi, .int y9, .int un])), (o, .inr (3, [.ref r0, .ref l1, .ref l2, .ref l3, .ref bb])), (r0, .inr (2, [.ref da, .ref ga])), (da, .inl (cI, n, .inl d)), (ga, .inl (cZ, n, .inl g))]) [5, 6, 0, 1, 2, 3, 4] rfl
                  have hD := hD.sub (ws' := [(l3, .inr (0, [.int x1, .ref ea, .int (nI c9)])), (ea, .inl (cO, n1, .inr (.inr (.inr (.inr f)))))] ++ [(q_143, .inr (6, [.int ff, .int tt, .int lo, .int hi, .int y9, .int un])), (o, .inr (3, [.ref r0, .ref l1, .ref l2, .ref l3, .ref bb])), (r0, .inr (2, [.ref da, .ref ga])), (da, .inl (cI, n, .inl d)), (ga, .inl (cZ, n, .inl g))]) [5, 6, 0, 1, 2, 3, 4] (by decide) rfl
                  refine mcalli (wc := [(l3, .inr (0, [.int x1, .ref ea, .int (nI c9)])), (ea, .inl (cO, n1, .inr (.inr (.inr (.inr f)))))]) (wr := [(q_143, .inr (6, [.int ff, .int tt, .int lo, .int hi, .int y9, .int un])), (o, .inr (3, [.ref r0, .ref l1, .ref l2, .ref l3, .ref bb])), (r0, .inr (2, [.ref da, .ref ga])), (da, .inl (cI, n, .inl d)), (ga, .inl (cZ, n, .inl g))]) (va_runV (As := [.ref q_143]) (rest := []) ⟨hx, hb, hml, hown, hg⟩ (c_A_addN_ok l D cI cZ cJ cO H.size e0 mi "RubbingMirrors$Rule" nw_30 (fun y => y = q_143 ∨ False) l3 x1 ea c9 n1 f (by omega) (by omega) q_143 (Or.inl rfl)) (cwV 1 hg (gv g_394 g_395 g_396 g_21 g_397) rfl rfl rfl (by decide +kernel) ⟨Nat.le_of_ble_eq_true rfl, Nat.le_of_ble_eq_true rfl⟩) ⟨lp_blind, va_recv hK (ba_Pl hP) (ci := 0) (q0 := 0) rfl rfl, fun U hU hW => ⟨rfl, lPre2 hP hD hK hN hS hA hsP (fun y hy => by rcases hy with rfl | hy; exact ⟨va_recv hK (ba_Pr hP) (ci := 6) (q0 := 0) rfl rfl, notA hP hD (List.mem_of_getElem? (i := 0) rfl)⟩; exact hy.elim) U hU hW⟩⟩ rfl rfl hl.1 rfl (lv_room (Nat.le_of_ble_eq_true rfl)) d_M_rule_159 ⟨Nat.le_of_ble_eq_true rfl, Nat.le_of_ble_eq_true rfl⟩) hP hD hS hA (fun r_11 u_10 H locs hu_10 hP hD hS => ?_)
                  obtain ⟨rfl, ea1, cap1, f1, rfl, hcp1, hcp2, hf1, hf2⟩ := hu_10
                  have hP : va_P D cls [(l3, .inr (0, [.int (x1 + 1), .ref ea1, .int (nI (c9 + 1))])), (ea1, .inl (cO, cap1, .inr (.inr (.inr (.inr f1))))), (q_143, .inr (6, [.int ff, .int tt, .int lo, .int hi, .int y9, .int un])), (o, .inr (3, [.ref r0, .ref l1, .ref l2, .ref l3, .ref bb])), (r0, .inr (2, [.ref da, .ref ga])), (da, .inl (cI, n, .inl d)), (ga, .inl (cZ, n, .inl g))] H := hP
                  have hD : va_D A [(l3, .inr (0, [.int (x1 + 1), .ref ea1, .int (nI (c9 + 1))])), (ea1, .inl (cO, cap1, .inr (.inr (.inr (.inr f1))))), (q_143, .inr (6, [.int ff, .int tt, .int lo, .int hi, .int y9, .int un])), (o, .inr (3, [.ref r0, .ref l1, .ref l2, .ref l3, .ref bb])), (r0, .inr (2, [.ref da, .ref ga])), (da, .inl (cI, n, .inl d)), (ga, .inl (cZ, n, .inl g))] := hD
                  refine W.widen (k := 2) (n := 28) (by omega) (by omega) ?_
                  refine lv_pop hx hb d_M_rule_162 rfl ?_
                  refine lv_aload_n hx hb d_M_rule_163 rfl (lv_at hl 0 rfl) ?_
                  refine va_get (D := D) (ci := 3) (v := .ref l3) (C := Q_M) (T := F_M) (N := 5) hx hb hg in_M hown hK hP 3 rfl rfl 3 (by decide) (hg _ g_128) (fun _ h9 => h9) rfl d_M_rule_164 ?_
                  refine vp_callSi (va_Run.run (va_runV (As := []) (rest := []) ⟨hx, hb, hml, hown, hg⟩ (c_A_size_ok l D cI cZ cJ cO l3 (x1 + 1) (nI (c9 + 1)) ea1) (cwV 0 hg (gv g_378 g_379 g_380 g_21 g_381) rfl rfl rfl (by decide +kernel) ⟨Nat.le_of_ble_eq_true rfl, Nat.le_of_ble_eq_true rfl⟩) (pV (pk_c (hP 0 (l3, .inr (0, [.int (x1 + 1), .ref ea1, .int (nI (c9 + 1))])) rfl) pk_nil9) hK hN (va_recv hK (pk_c (hP 0 (l3, .inr (0, [.int (x1 + 1), .ref ea1, .int (nI (c9 + 1))])) rfl) pk_nil9) (ci := 0) (q0 := 0) rfl rfl)) rfl rfl hl.1 rfl (lv_room (Nat.le_of_ble_eq_true rfl)) d_M_rule_167 ⟨Nat.le_of_ble_eq_true rfl, Nat.le_of_ble_eq_true rfl⟩)) (fun r_12 hr_12 => ?_)
                  subst hr_12
                  have hP := hP.sub (ws' := [(o, .inr (3, [.ref r0, .ref l1, .ref l2, .ref l3, .ref bb])), (r0, .inr (2, [.ref da, .ref ga])), (da, .inl (cI, n, .inl d)), (ga, .inl (cZ, n, .inl g)), (l3, .inr (0, [.int (x1 + 1), .ref ea1, .int (nI (c9 + 1))])), (ea1, .inl (cO, cap1, .inr (.inr (.inr (.inr f1))))), (q_143, .inr (6, [.int ff, .int tt, .int lo, .int hi, .int y9, .int un]))]) [3, 4, 5, 6, 0, 1, 2] rfl
                  have hD := hD.sub (ws' := [(o, .inr (3, [.ref r0, .ref l1, .ref l2, .ref l3, .ref bb])), (r0, .inr (2, [.ref da, .ref ga])), (da, .inl (cI, n, .inl d)), (ga, .inl (cZ, n, .inl g)), (l3, .inr (0, [.int (x1 + 1), .ref ea1, .int (nI (c9 + 1))])), (ea1, .inl (cO, cap1, .inr (.inr (.inr (.inr f1))))), (q_143, .inr (6, [.int ff, .int tt, .int lo, .int hi, .int y9, .int un]))]) [3, 4, 5, 6, 0, 1, 2] (by decide) rfl
                  refine vx_ret ?_
                  refine W.widen (k := 2) (n := 40) (by omega) (by omega) ?_
                  exact W.iret hx hb hr (fun t9 ht hW => ⟨⟨_, [(o, .inr (3, [.ref r0, .ref l1, .ref l2, .ref l3, .ref bb])), (r0, .inr (2, [.ref da, .ref ga])), (da, .inl (cI, n, .inl d)), (ga, .inl (cZ, n, .inl g)), (l3, .inr (0, [.int (x1 + 1), .ref ea1, .int (nI (c9 + 1))])), (ea1, .inl (cO, cap1, .inr (.inr (.inr (.inr f1))))), (q_143, .inr (6, [.int ff, .int tt, .int lo, .int hi, .int y9, .int un]))], rfl, ⟨cu_0 c_8 c_19 (ru_0 c_34 c_55 c_67 c_91 c_104) (ns8d c_126), rfl, q_143, ea1, cap1, f1, rfl, hcp1, hcp2, hf1, hf2⟩, by rw [ht]; exact hP, va_K.moved hW.alike hK, hD⟩, hS.F ht⟩) hS.2.2 d_M_rule_170
                · exact thrw hx hb hlt hown hg hN x_S st_202 hU hV hS (by rw [hml]; exact hl.1) d_M_rule_129 d_M_rule_132 d_M_rule_133 d_M_rule_135 d_M_rule_138 hno (Nat.le_of_ble_eq_true rfl) (Nat.le_of_ble_eq_true rfl) (Nat.le_of_ble_eq_true rfl) (Nat.le_of_ble_eq_true rfl) hlocks hP hK hD rfl (Or.inr (Or.inr ⟨cu_8 c_8 c_19 (ru_0 c_34 c_55 c_67 c_91 c_104) (ns8c hc9 c_126), rfl⟩)) (Nat.le_of_ble_eq_true rfl) (Nat.le_of_ble_eq_true rfl)
              · exact thrw hx hb hlt hown hg hN x_A st_200 hU hV hS (by rw [hml]; exact hl.1) d_M_rule_107 d_M_rule_110 d_M_rule_111 d_M_rule_113 d_M_rule_116 hno (Nat.le_of_ble_eq_true rfl) (Nat.le_of_ble_eq_true rfl) (Nat.le_of_ble_eq_true rfl) (Nat.le_of_ble_eq_true rfl) hlocks hP hK hD rfl (Or.inr (Or.inl ⟨cu_w c_8 c_19 (ru_5 c_104), rfl⟩)) (Nat.le_of_ble_eq_true rfl) (Nat.le_of_ble_eq_true rfl)
          · exact thrw hx hb hlt hown hg hN x_A st_198 hU hV hS (by rw [hml]; exact hl.1) d_M_rule_70 d_M_rule_73 d_M_rule_74 d_M_rule_76 d_M_rule_79 hno (Nat.le_of_ble_eq_true rfl) (Nat.le_of_ble_eq_true rfl) (Nat.le_of_ble_eq_true rfl) (Nat.le_of_ble_eq_true rfl) hlocks hP hK hD rfl (Or.inr (Or.inl ⟨cu_w c_8 c_19 (ru_3 c_67), rfl⟩)) (Nat.le_of_ble_eq_true rfl) (Nat.le_of_ble_eq_true rfl)
      · exact thrw hx hb hlt hown hg hN x_A st_196 hU hV hS (by rw [hml]; exact hl.1) d_M_rule_37 d_M_rule_40 d_M_rule_41 d_M_rule_43 d_M_rule_46 hno (Nat.le_of_ble_eq_true rfl) (Nat.le_of_ble_eq_true rfl) (Nat.le_of_ble_eq_true rfl) (Nat.le_of_ble_eq_true rfl) hlocks hP hK hD rfl (Or.inr (Or.inl ⟨cu_w c_8 c_19 (ru_1 c_34), rfl⟩)) (Nat.le_of_ble_eq_true rfl) (Nat.le_of_ble_eq_true rfl)
    · exact thrw hx hb hlt hown hg hN x_I st_194 hU hV hS (by rw [hml]; exact hl.1) d_M_rule_22 d_M_rule_25 d_M_rule_26 d_M_rule_28 d_M_rule_31 hno (Nat.le_of_ble_eq_true rfl) (Nat.le_of_ble_eq_true rfl) (Nat.le_of_ble_eq_true rfl) (Nat.le_of_ble_eq_true rfl) hlocks hP hK hD rfl (Or.inl ⟨cu_2 c_19, rfl⟩) (Nat.le_of_ble_eq_true rfl) (Nat.le_of_ble_eq_true rfl)

set_option maxHeartbeats 4000000 in
set_option maxRecDepth 100000 in
/-- carve, no such shape -/
theorem c_M_carveX_ok (l : Launch) (hlt : l.stackTraces = false) (D : va_G) (cI cZ cJ cO : ClassId) (sz : Nat) (o r0 l1 l2 l3 bb : Nat) (x1 : Int32) (ea c9 : Nat) (s9 k9 v9 : Int32) (hX : bI (iw s9 0 (nI c9 - 1)) = 0) : vx_Met l y_M_carve (wq y_M_carve c_M_carve 5 none) ({ frames := 6, cells := 1, slots := 6, locals := 100 }) (tP D (TY cI cZ cJ cO) [(o, .inr (3, [.ref r0, .ref l1, .ref l2, .ref l3, .ref bb])), (l1, .inr (0, [.int x1, .ref ea, .int (nI c9)]))] [.ref o, .int s9, .int k9, .int v9] sz) (va_Qv (fun (u : va_W) => False) (mB D (TY cI cZ cJ cO) (va_A [(o, .inr (3, [.ref r0, .ref l1, .ref l2, .ref l3, .ref bb])), (l1, .inr (0, [.int x1, .ref ea, .int (nI c9)]))] sz)) (va_A [(o, .inr (3, [.ref r0, .ref l1, .ref l2, .ref l3, .ref bb])), (l1, .inr (0, [.int x1, .ref ea, .int (nI c9)]))] sz)) (vx_X (fun (u : va_W) => u = [(o, .inr (3, [.ref r0, .ref l1, .ref l2, .ref l3, .ref bb])), (l1, .inr (0, [.int x1, .ref ea, .int (nI c9)]))]) (xB D (TY cI cZ cJ cO) (va_A [(o, .inr (3, [.ref r0, .ref l1, .ref l2, .ref l3, .ref bb])), (l1, .inr (0, [.int x1, .ref ea, .int (nI c9)]))] sz) (fun E => E = eI)) (va_A [(o, .inr (3, [.ref r0, .ref l1, .ref l2, .ref l3, .ref bb])), (l1, .inr (0, [.int x1, .ref ea, .int (nI c9)]))] sz)) 1 6 (va_A [(o, .inr (3, [.ref r0, .ref l1, .ref l2, .ref l3, .ref bb])), (l1, .inr (0, [.int x1, .ref ea, .int (nI c9)]))] sz) := by
  refine vx_ofW (cc := c_M_carve) (maxL := 5) (ret := none) (by decide) rfl ?_
  intro p e s m args below meth c s₁ B hml hno hv
  obtain ⟨rfl, hsz, hP, hK, hD0, hN, hU, hV⟩ := hv
  have hx := B.exec
  have hb := B.bytes
  have hr := B.returns
  have hg := gt_h (atoms_spec (ws := (wq y_M_carve c_M_carve 5 none)) B.pre)
  have hown : s.vm.findClass "RubbingMirrors" = some m.cls := findClass_of_methodNamed B.named
  have hlocks := B.notSynchronized
  subst hsz
  have hD := hD0.self (sz := s.heap.size)
  generalize hAe : va_A [(o, .inr (3, [.ref r0, .ref l1, .ref l2, .ref l3, .ref bb])), (l1, .inr (0, [.int x1, .ref ea, .int (nI c9)]))] s.heap.size = A at hD hU hV ⊢
  have hA : ∀ q : Nat, s.heap.size ≤ q → A q := fun q h => by rw [← hAe]; exact Or.inr h
  have hS : va_S A s.heap s.heap [] := va_S.rf
  have hl := lv_entry ([.ref o, .int s9, .int k9, .int v9]) (n := 5) (Nat.le_of_ble_eq_true rfl)
  rw [lg_entry_eq]
  generalize (lg_sl ([.ref o, .int s9, .int k9, .int v9]) ++ List.replicate (5 - (lg_sl ([.ref o, .int s9, .int k9, .int v9])).length) Slot.unset).toArray = ls at hl ⊢
  have hl : lv_has ls 5 [(0, .ref o), (1, .int s9), (2, .int k9), (3, .int v9)] := hl
  refine lv_iload_n hx hb d_M_carve_0 rfl (lv_at hl 1 rfl) ?_
  refine lv_iconst (v := 0) hx hb d_M_carve_1 (by decide) ?_
  refine lv_aload_n hx hb d_M_carve_2 rfl (lv_at hl 0 rfl) ?_
  refine va_get (D := D) (ci := 3) (v := .ref l1) (C := Q_M) (T := F_M) (N := 5) hx hb hg in_M hown hK hP 0 rfl rfl 1 (by decide) (hg _ g_126) (fun _ h9 => h9) rfl d_M_carve_3 ?_
  refine vp_callSi (va_Run.run (va_runV (As := []) (rest := [.int 0, .int s9]) ⟨hx, hb, hml, hown, hg⟩ (c_A_size_ok l D cI cZ cJ cO l1 x1 (nI c9) ea) (cwV 0 hg (gv g_378 g_379 g_380 g_21 g_381) rfl rfl rfl (by decide +kernel) ⟨Nat.le_of_ble_eq_true rfl, Nat.le_of_ble_eq_true rfl⟩) (pV (pk_c (hP 1 (l1, .inr (0, [.int x1, .ref ea, .int (nI c9)])) rfl) pk_nil9) hK hN (va_recv hK (pk_c (hP 1 (l1, .inr (0, [.int x1, .ref ea, .int (nI c9)])) rfl) pk_nil9) (ci := 0) (q0 := 0) rfl rfl)) rfl rfl hl.1 rfl (lv_room (Nat.le_of_ble_eq_true rfl)) d_M_carve_6 ⟨Nat.zero_le _, Nat.zero_le _⟩)) (fun r_1 hr_1 => ?_)
  subst hr_1
  refine lv_iconst (v := 1) hx hb d_M_carve_9 (by decide) ?_
  refine lv_isub hx hb d_M_carve_10 ?_
  refine vp_callSi (va_Run.run (va_runS (As := [.int s9, .int 0, .int ((nI c9) - 1)]) (rest := []) ⟨hx, hb, hml, hown, hg⟩ (c_M_isWithin_ok l D cI cZ cJ cO s9 0 ((nI c9) - 1)) (va_cwS 3 hg (gs2 g_233 g_234 g_18 g_235) rfl rfl rfl (by decide +kernel) ⟨Nat.le_of_ble_eq_true rfl, Nat.le_of_ble_eq_true rfl⟩) (pS ba_nil hK hN) rfl rfl hl.1 rfl (lv_room (Nat.le_of_ble_eq_true rfl)) d_M_carve_11 ⟨Nat.zero_le _, Nat.zero_le _⟩)) (fun r_2 hr_2 => ?_)
  subst hr_2
  refine lv_if_ne (tgt := 27) hx hb d_M_carve_14 (by decide) (fun c_14 => ?_) (fun c_14 => ?_)
  · exact absurd hX c_14
  · exact thrw hx hb hlt hown hg hN x_I st_139 hU hV hS (by rw [hml]; exact hl.1) d_M_carve_17 d_M_carve_20 d_M_carve_21 d_M_carve_23 d_M_carve_26 hno (Nat.le_of_ble_eq_true rfl) (Nat.le_of_ble_eq_true rfl) (Nat.le_of_ble_eq_true rfl) (Nat.le_of_ble_eq_true rfl) hlocks hP hK hD rfl rfl (Nat.le_of_ble_eq_true rfl) (Nat.le_of_ble_eq_true rfl)

set_option maxHeartbeats 4000000 in
set_option maxRecDepth 100000 in
/-- carve, of a shape -/
theorem c_M_carveS_ok (l : Launch) (hlt : l.stackTraces = false) (D : va_G) (cI cZ cJ cO : ClassId) (sz : Nat) (o r0 l1 l2 l3 bb : Nat) (x1 : Int32) (ea c9 n1 : Nat) (f : Nat → Option Nat) (I q sa m9 : Nat) (cc : Nat → Int32) (hI : I < c9) (hcn : c9 ≤ n1) (hn1 : n1 ≤ 22) (hfI : f I = some q) (hm9 : m9 ≤ 16) (k9 v9 : Int32) : vx_Met l y_M_carve (wq y_M_carve c_M_carve 5 none) ({ frames := 6, cells := 1, slots := 6, locals := 100 }) (tP D (TY cI cZ cJ cO) [(o, .inr (3, [.ref r0, .ref l1, .ref l2, .ref l3, .ref bb])), (l1, .inr (0, [.int x1, .ref ea, .int (nI c9)])), (ea, .inl (cO, n1, .inr (.inr (.inr (.inr f))))), (q, .inr (4, [.ref sa])), (sa, .inl (cI, m9, .inl cc))] [.ref o, .int (nI I), .int k9, .int v9] sz) (va_Qv (fun (u : va_W) => cCaS m9 k9 v9 = 0 ∧ u = [(o, .inr (3, [.ref r0, .ref l1, .ref l2, .ref l3, .ref bb])), (l1, .inr (0, [.int x1, .ref ea, .int (nI c9)])), (ea, .inl (cO, n1, .inr (.inr (.inr (.inr f))))), (q, .inr (4, [.ref sa])), (sa, .inl (cI, m9, .inl (upd cc k9.toNatClampNeg v9)))]) (mB D (TY cI cZ cJ cO) (va_A [(o, .inr (3, [.ref r0, .ref l1, .ref l2, .ref l3, .ref bb])), (l1, .inr (0, [.int x1, .ref ea, .int (nI c9)])), (ea, .inl (cO, n1, .inr (.inr (.inr (.inr f))))), (q, .inr (4, [.ref sa])), (sa, .inl (cI, m9, .inl cc))] sz)) (va_A [(o, .inr (3, [.ref r0, .ref l1, .ref l2, .ref l3, .ref bb])), (l1, .inr (0, [.int x1, .ref ea, .int (nI c9)])), (ea, .inl (cO, n1, .inr (.inr (.inr (.inr f))))), (q, .inr (4, [.ref sa])), (sa, .inl (cI, m9, .inl cc))] sz)) (vx_X (fun (u : va_W) => u = [(o, .inr (3, [.ref r0, .ref l1, .ref l2, .ref l3, .ref bb])), (l1, .inr (0, [.int x1, .ref ea, .int (nI c9)])), (ea, .inl (cO, n1, .inr (.inr (.inr (.inr f))))), (q, .inr (4, [.ref sa])), (sa, .inl (cI, m9, .inl cc))]) (xB D (TY cI cZ cJ cO) (va_A [(o, .inr (3, [.ref r0, .ref l1, .ref l2, .ref l3, .ref bb])), (l1, .inr (0, [.int x1, .ref ea, .int (nI c9)])), (ea, .inl (cO, n1, .inr (.inr (.inr (.inr f))))), (q, .inr (4, [.ref sa])), (sa, .inl (cI, m9, .inl cc))] sz) (fun E => (cCaS m9 k9 v9 = 1 ∧ E = eI) ∨ (cCaS m9 k9 v9 = 2 ∧ E = eA))) (va_A [(o, .inr (3, [.ref r0, .ref l1, .ref l2, .ref l3, .ref bb])), (l1, .inr (0, [.int x1, .ref ea, .int (nI c9)])), (ea, .inl (cO, n1, .inr (.inr (.inr (.inr f))))), (q, .inr (4, [.ref sa])), (sa, .inl (cI, m9, .inl cc))] sz)) 1 6 (va_A [(o, .inr (3, [.ref r0, .ref l1, .ref l2, .ref l3, .ref bb])), (l1, .inr (0, [.int x1, .ref ea, .int (nI c9)])), (ea, .inl (cO, n1, .inr (.inr (.inr (.inr f))))), (q, .inr (4, [.ref sa])), (sa, .inl (cI, m9, .inl cc))] sz) := by
  refine vx_ofW (cc := c_M_carve) (maxL := 5) (ret := none) (by decide) rfl ?_
  intro p e s m args below meth c s₁ B hml hno hv
  obtain ⟨rfl, hsz, hP, hK, hD0, hN, hU, hV⟩ := hv
  have hx := B.exec
  have hb := B.bytes
  have hr := B.returns
  have hg := gt_h (atoms_spec (ws := (wq y_M_carve c_M_carve 5 none)) B.pre)
  have hown : s.vm.findClass "RubbingMirrors" = some m.cls := findClass_of_methodNamed B.named
  have hlocks := B.notSynchronized
  subst hsz
  have hD := hD0.self (sz := s.heap.size)
  generalize hAe : va_A [(o, .inr (3, [.ref r0, .ref l1, .ref l2, .ref l3, .ref bb])), (l1, .inr (0, [.int x1, .ref ea, .int (nI c9)])), (ea, .inl (cO, n1, .inr (.inr (.inr (.inr f))))), (q, .inr (4, [.ref sa])), (sa, .inl (cI, m9, .inl cc))] s.heap.size = A at hD hU hV ⊢
  have hA : ∀ q : Nat, s.heap.size ≤ q → A q := fun q h => by rw [← hAe]; exact Or.inr h
  have hS : va_S A s.heap s.heap [] := va_S.rf
  have hl := lv_entry ([.ref o, .int (nI I), .int k9, .int v9]) (n := 5) (Nat.le_of_ble_eq_true rfl)
  rw [lg_entry_eq]
  generalize (lg_sl ([.ref o, .int (nI I), .int k9, .int v9]) ++ List.replicate (5 - (lg_sl ([.ref o, .int (nI I), .int k9, .int v9])).length) Slot.unset).toArray = ls at hl ⊢
  have hl : lv_has ls 5 [(0, .ref o), (1, .int (nI I)), (2, .int k9), (3, .int v9)] := hl
  refine lv_iload_n hx hb d_M_carve_0 rfl (lv_at hl 1 rfl) ?_
  refine lv_iconst (v := 0) hx hb d_M_carve_1 (by decide) ?_
  refine lv_aload_n hx hb d_M_carve_2 rfl (lv_at hl 0 rfl) ?_
  refine va_get (D := D) (ci := 3) (v := .ref l1) (C := Q_M) (T := F_M) (N := 5) hx hb hg in_M hown hK hP 0 rfl rfl 1 (by decide) (hg _ g_126) (fun _ h9 => h9) rfl d_M_carve_3 ?_
  refine vp_callSi (va_Run.run (va_runV (As := []) (rest := [.int 0, .int (nI I)]) ⟨hx, hb, hml, hown, hg⟩ (c_A_size_ok l D cI cZ cJ cO l1 x1 (nI c9) ea) (cwV 0 hg (gv g_378 g_379 g_380 g_21 g_381) rfl rfl rfl (by decide +kernel) ⟨Nat.le_of_ble_eq_true rfl, Nat.le_of_ble_eq_true rfl⟩) (pV (pk_c (hP 1 (l1, .inr (0, [.int x1, .ref ea, .int (nI c9)])) rfl) pk_nil9) hK hN (va_recv hK (pk_c (hP 1 (l1, .inr (0, [.int x1, .ref ea, .int (nI c9)])) rfl) pk_nil9) (ci := 0) (q0 := 0) rfl rfl)) rfl rfl hl.1 rfl (lv_room (Nat.le_of_ble_eq_true rfl)) d_M_carve_6 ⟨Nat.zero_le _, Nat.zero_le _⟩)) (fun r_1 hr_1 => ?_)
  subst hr_1
  refine lv_iconst (v := 1) hx hb d_M_carve_9 (by decide) ?_
  refine lv_isub hx hb d_M_carve_10 ?_
  refine vp_callSi (va_Run.run (va_runS (As := [.int (nI I), .int 0, .int ((nI c9) - 1)]) (rest := []) ⟨hx, hb, hml, hown, hg⟩ (c_M_isWithin_ok l D cI cZ cJ cO (nI I) 0 ((nI c9) - 1)) (va_cwS 3 hg (gs2 g_233 g_234 g_18 g_235) rfl rfl rfl (by decide +kernel) ⟨Nat.le_of_ble_eq_true rfl, Nat.le_of_ble_eq_true rfl⟩) (pS ba_nil hK hN) rfl rfl hl.1 rfl (lv_room (Nat.le_of_ble_eq_true rfl)) d_M_carve_11 ⟨Nat.zero_le _, Nat.zero_le _⟩)) (fun r_2 hr_2 => ?_)
  subst hr_2
  refine lv_if_ne (tgt := 27) hx hb d_M_carve_14 (by decide) (fun c_14 => ?_) (fun c_14 => ?_)
  · refine lv_aload_n hx hb d_M_carve_27 rfl (lv_at hl 0 rfl) ?_
    refine va_get (D := D) (ci := 3) (v := .ref l1) (C := Q_M) (T := F_M) (N := 5) hx hb hg in_M hown hK hP 0 rfl rfl 1 (by decide) (hg _ g_126) (fun _ h9 => h9) rfl d_M_carve_28 ?_
    refine lv_iload_n hx hb d_M_carve_31 rfl (lv_at hl 1 rfl) ?_
    refine va_csq (va_Run.run (va_runV (As := [.int (nI I)]) (rest := []) ⟨hx, hb, hml, hown, hg⟩ (c_A_get_ok l D cI cZ cJ cO l1 x1 ea c9 n1 f I hI hcn (by omega)) (cwV 1 hg (gv g_456 g_457 g_458 g_21 g_459) rfl rfl rfl (by decide +kernel) ⟨Nat.le_of_ble_eq_true rfl, Nat.le_of_ble_eq_true rfl⟩) (pV (pk_c (hP 1 (l1, .inr (0, [.int x1, .ref ea, .int (nI c9)])) rfl) (pk_c (hP 2 (ea, .inl (cO, n1, .inr (.inr (.inr (.inr f))))) rfl) pk_nil9)) hK hN (va_recv hK (pk_c (hP 1 (l1, .inr (0, [.int x1, .ref ea, .int (nI c9)])) rfl) (pk_c (hP 2 (ea, .inl (cO, n1, .inr (.inr (.inr (.inr f))))) rfl) pk_nil9)) (ci := 0) (q0 := 0) rfl rfl)) rfl rfl hl.1 rfl (lv_room (Nat.le_of_ble_eq_true rfl)) d_M_carve_32 ⟨Nat.zero_le _, Nat.zero_le _⟩)) (fun r_3 hr_3 => ?_)
    subst hr_3
    rw [hfI]
    refine W.eq (g2 := F0 m 35 ls [.ref q]) rfl ?_
    refine va_castY (C := Q_S) hx hb hown (hg _ g_383) (hN.1 _ nw_20) (va_recv hK hP (ci := 4) (q0 := 3) rfl rfl) d_M_carve_35 ?_
    refine lv_astore (lv' := [(4, .ref q), (0, .ref o), (1, .int (nI I)), (2, .int k9), (3, .int v9)]) hx hb d_M_carve_38 hl (by decide) rfl (fun ls hl => ?_)
    refine lv_aload hx hb d_M_carve_40 (lv_at hl 0 rfl) ?_
    refine lv_iload_n hx hb d_M_carve_42 rfl (lv_at hl 3 rfl) ?_
    refine vp_callSi (va_Run.run (va_runV (As := [.int k9]) (rest := []) ⟨hx, hb, hml, hown, hg⟩ (c_S_has_ok l D cI cZ cJ cO q sa m9 cc (by omega) k9) (cwV 1 hg (gv g_470 g_471 g_472 g_33 g_473) rfl rfl rfl (by decide +kernel) ⟨Nat.le_of_ble_eq_true rfl, Nat.le_of_ble_eq_true rfl⟩) (pV (pk_c (hP 3 (q, .inr (4, [.ref sa])) rfl) (pk_c (hP 4 (sa, .inl (cI, m9, .inl cc)) rfl) pk_nil9)) hK hN (va_recv hK (pk_c (hP 3 (q, .inr (4, [.ref sa])) rfl) (pk_c (hP 4 (sa, .inl (cI, m9, .inl cc)) rfl) pk_nil9)) (ci := 4) (q0 := 0) rfl rfl)) rfl rfl hl.1 rfl (lv_room (Nat.le_of_ble_eq_true rfl)) d_M_carve_43 ⟨Nat.zero_le _, Nat.zero_le _⟩)) (fun r_4 hr_4 => ?_)
    subst hr_4
    refine lv_if_ne (tgt := 59) hx hb d_M_carve_46 (by decide) (fun c_46 => ?_) (fun c_46 => ?_)
    · refine lv_iload_n hx hb d_M_carve_59 rfl (lv_at hl 4 rfl) ?_
      refine lv_iconst (v := 0) hx hb d_M_carve_60 (by decide) ?_
      refine lv_sipush (v := 255) hx hb d_M_carve_61 (by decide) ?_
      refine vp_callSi (va_Run.run (va_runS (As := [.int v9, .int 0, .int 255]) (rest := []) ⟨hx, hb, hml, hown, hg⟩ (c_M_isWithin_ok l D cI cZ cJ cO v9 0 255) (va_cwS 3 hg (gs2 g_233 g_234 g_18 g_235) rfl rfl rfl (by decide +kernel) ⟨Nat.le_of_ble_eq_true rfl, Nat.le_of_ble_eq_true rfl⟩) (pS ba_nil hK hN) rfl rfl hl.1 rfl (lv_room (Nat.le_of_ble_eq_true rfl)) d_M_carve_64 ⟨Nat.zero_le _, Nat.zero_le _⟩)) (fun r_5 hr_5 => ?_)
      subst hr_5
      refine lv_if_ne (tgt := 80) hx hb d_M_carve_67 (by decide) (fun c_67 => ?_) (fun c_67 => ?_)
      · refine lv_aload hx hb d_M_carve_80 (lv_at hl 0 rfl) ?_
        refine lv_iload_n hx hb d_M_carve_82 rfl (lv_at hl 3 rfl) ?_
        refine lv_iload_n hx hb d_M_carve_83 rfl (lv_at hl 4 rfl) ?_
        have hP := hP.sub (ws' := [(q, .inr (4, [.ref sa])), (sa, .inl (cI, m9, .inl cc))] ++ [(o, .inr (3, [.ref r0, .ref l1, .ref l2, .ref l3, .ref bb])), (l1, .inr (0, [.int x1, .ref ea, .int (nI c9)])), (ea, .inl (cO, n1, .inr (.inr (.inr (.inr f)))))]) [3, 4, 0, 1, 2] rfl
        have hD := hD.sub (ws' := [(q, .inr (4, [.ref sa])), (sa, .inl (cI, m9, .inl cc))] ++ [(o, .inr (3, [.ref r0, .ref l1, .ref l2, .ref l3, .ref bb])), (l1, .inr (0, [.int x1, .ref ea, .int (nI c9)])), (ea, .inl (cO, n1, .inr (.inr (.inr (.inr f)))))]) [3, 4, 0, 1, 2] (by decide) rfl
        refine mcallv (wc := [(q, .inr (4, [.ref sa])), (sa, .inl (cI, m9, .inl cc))]) (wr := [(o, .inr (3, [.ref r0, .ref l1, .ref l2, .ref l3, .ref bb])), (l1, .inr (0, [.int x1, .ref ea, .int (nI c9)])), (ea, .inl (cO, n1, .inr (.inr (.inr (.inr f)))))]) (va_runV (As := [.int k9, .int v9]) (rest := []) ⟨hx, hb, hml, hown, hg⟩ (c_S_put_ok l D cI cZ cJ cO s.heap.size q sa m9 cc (by omega) k9 v9 (bI_ne0 c_46)) (cwV 2 hg (gv g_476 g_477 g_478 g_33 g_479) rfl rfl rfl (by decide +kernel) ⟨Nat.le_of_ble_eq_true rfl, Nat.le_of_ble_eq_true rfl⟩) (mV (ba_Pl hP) hK hN (ba_Dl hD) (va_recv hK (ba_Pl hP) (ci := 4) (q0 := 0) rfl rfl)) rfl rfl hl.1 rfl (lv_room (Nat.le_of_ble_eq_true rfl)) d_M_carve_84 ⟨Nat.le_of_ble_eq_true rfl, Nat.le_of_ble_eq_true rfl⟩) hP hD hS hA (fun u_6 H locs hu_6 hP hD hS => ?_)
        subst hu_6
        have hP : va_P D cls [(q, .inr (4, [.ref sa])), (sa, .inl (cI, m9, .inl (upd cc k9.toNatClampNeg v9))), (o, .inr (3, [.ref r0, .ref l1, .ref l2, .ref l3, .ref bb])), (l1, .inr (0, [.int x1, .ref ea, .int (nI c9)])), (ea, .inl (cO, n1, .inr (.inr (.inr (.inr f)))))] H := hP
        have hD : va_D A [(q, .inr (4, [.ref sa])), (sa, .inl (cI, m9, .inl (upd cc k9.toNatClampNeg v9))), (o, .inr (3, [.ref r0, .ref l1, .ref l2, .ref l3, .ref bb])), (l1, .inr (0, [.int x1, .ref ea, .int (nI c9)])), (ea, .inl (cO, n1, .inr (.inr (.inr (.inr f)))))] := hD
        refine vx_ret ?_
        have hP := hP.sub (ws' := [(o, .inr (3, [.ref r0, .ref l1, .ref l2, .ref l3, .ref bb])), (l1, .inr (0, [.int x1, .ref ea, .int (nI c9)])), (ea, .inl (cO, n1, .inr (.inr (.inr (.inr f))))), (q, .inr (4, [.ref sa])), (sa, .inl (cI, m9, .inl (upd cc k9.toNatClampNeg v9)))]) [2, 3, 4, 0, 1] rfl
        have hD := hD.sub (ws' := [(o, .inr (3, [.ref r0, .ref l1, .ref l2, .ref l3, .ref bb])), (l1, .inr (0, [.int x1, .ref ea, .int (nI c9)])), (ea, .inl (cO, n1, .inr (.inr (.inr (.inr f))))), (q, .inr (4, [.ref sa])), (sa, .inl (cI, m9, .inl (upd cc k9.toNatClampNeg v9)))]) [2, 3, 4, 0, 1] (by decide) rfl
        refine W.widen (k := 1) (n := 6) (by omega) (by omega) ?_
        exact W.vret hx hb hr (fun t9 ht hW => ⟨⟨[(o, .inr (3, [.ref r0, .ref l1, .ref l2, .ref l3, .ref bb])), (l1, .inr (0, [.int x1, .ref ea, .int (nI c9)])), (ea, .inl (cO, n1, .inr (.inr (.inr (.inr f))))), (q, .inr (4, [.ref sa])), (sa, .inl (cI, m9, .inl (upd cc k9.toNatClampNeg v9)))], rfl, ⟨ce_0 c_46 c_67, rfl⟩, by rw [ht]; exact hP, va_K.moved hW.alike hK, hD⟩, hS.F ht⟩) hS.2.2 d_M_carve_87
      · exact thrw hx hb hlt hown hg hN x_A st_148 hU hV hS (by rw [hml]; exact hl.1) d_M_carve_70 d_M_carve_73 d_M_carve_74 d_M_carve_76 d_M_carve_79 hno (Nat.le_of_ble_eq_true rfl) (Nat.le_of_ble_eq_true rfl) (Nat.le_of_ble_eq_true rfl) (Nat.le_of_ble_eq_true rfl) hlocks hP hK hD rfl (Or.inr ⟨ce_2 c_46 c_67, rfl⟩) (Nat.le_of_ble_eq_true rfl) (Nat.le_of_ble_eq_true rfl)
    · exact thrw hx hb hlt hown hg hN x_I st_146 hU hV hS (by rw [hml]; exact hl.1) d_M_carve_49 d_M_carve_52 d_M_carve_53 d_M_carve_55 d_M_carve_58 hno (Nat.le_of_ble_eq_true rfl) (Nat.le_of_ble_eq_true rfl) (Nat.le_of_ble_eq_true rfl) (Nat.le_of_ble_eq_true rfl) hlocks hP hK hD rfl (Or.inl ⟨ce_1 c_46, rfl⟩) (Nat.le_of_ble_eq_true rfl) (Nat.le_of_ble_eq_true rfl)
  · exact absurd c_14 (iwI hI (by omega))
