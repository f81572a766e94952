
theorem arr_cg {cA : ClassId} {n : Nat} {f f' : Nat → Int32} (e : ∀ j, j < n → f j = f' j) : vp_cell cA (n, .inl f) = vp_cell cA (n, .inl f') := by
  rw [vp_cell_i, vp_cell_i, arrV, arrV]
  congr 2
  funext j
  rw [e j.val j.isLt]
/-- an array's contents may be told otherwise, place by place the same -/
theorem ba_cg {D : va_G} {cl : List vw_C} {w1 w2 : va_W} {H : Heap} {q : Nat} {cA : ClassId} {n : Nat} {f f' : Nat → Int32} (e : ∀ j, j < n → f j = f' j) (h : va_P D cl (w1 ++ (q, .inl (cA, n, .inl f)) :: w2) H) : va_P D cl (w1 ++ (q, .inl (cA, n, .inl f')) :: w2) H := by
  refine ba_P.mpr fun z hz => ?_
  rcases List.mem_append.mp hz with hz | hz
  · exact ba_P.mp h z (List.mem_append_left _ hz)
  · rcases List.mem_cons.mp hz with hz | hz
    · subst hz
      have := ba_P.mp h (q, .inl (cA, n, .inl f)) (List.mem_append_right _ List.mem_cons_self)
      show H[q]? = some (vp_cell cA (n, .inl f'))
      rw [← arr_cg e]; exact this
    · exact ba_P.mp h z (List.mem_append_right _ (List.mem_cons_of_mem _ hz))
theorem ba_cgD {A : Nat → Prop} {w1 w2 : va_W} {q : Nat} {x x' : va_E} (h : va_D A (w1 ++ (q, x) :: w2)) : va_D A (w1 ++ (q, x') :: w2) := by
  obtain ⟨h1, h2⟩ := ba_D.mp h
  refine ba_D.mpr ⟨by rw [List.map_append, List.map_cons] at h1 ⊢; exact h1, fun z hz => ?_⟩
  rcases List.mem_append.mp hz with hz | hz
  · exact h2 z (List.mem_append_left _ hz)
  · rcases List.mem_cons.mp hz with hz | hz
    · subst hz; exact h2 (q, x) (List.mem_append_right _ List.mem_cons_self)
    · exact h2 z (List.mem_append_right _ (List.mem_cons_of_mem _ hz))
/-- one place of FILLED -/
def fs (n : Nat) (S a : Int) (j : Nat) (t : (Nat → Int32) × (Nat → Int32) × Nat) : (Nat → Int32) × (Nat → Int32) × Nat :=
  if t.1 j = -1 then (if hs n (src n t.1 t.2.1 j S a) then (upd t.1 j (t.1 (src n t.1 t.2.1 j S a).toNat), upd t.2.1 j 1, t.2.2 + 1) else t) else t
/-- FILLED, the first j places -/
def fl (n : Nat) (S a : Int) (d g : Nat → Int32) : Nat → (Nat → Int32) × (Nat → Int32) × Nat
  | 0 => (d, g, 0)
  | j + 1 => fs n S a j (fl n S a d g j)
theorem fs_1 {n : Nat} {S a : Int} {j : Nat} {d g : Nat → Int32} {c : Nat} (hj : j < 2 ^ 20) (h : ¬ d (nI j).toNatClampNeg = -1) : fs n S a j (d, g, c) = (d, g, c) := by
  rw [nI_clamp (by omega)] at h
  rw [fs, if_neg h]
theorem fs_2 {n : Nat} {S a : Int} {j : Nat} {d g : Nat → Int32} {c : Nat} {r : Int32} (hj : j < 2 ^ 20) (h : d (nI j).toNatClampNeg = -1) (hr : r.toInt = src n d g j S a) (h2 : bI (hs n r.toInt) = 0) : fs n S a j (d, g, c) = (d, g, c) := by
  rw [nI_clamp (by omega)] at h
  rw [hr] at h2
  rw [fs, if_pos h, if_neg (by rw [bI_eq0 h2]; decide)]
theorem fs_3 {n : Nat} {S a : Int} {j : Nat} {d g : Nat → Int32} {c : Nat} {r : Int32} (hj : j < 2 ^ 20) (h : d (nI j).toNatClampNeg = -1) (hr : r.toInt = src n d g j S a) (h2 : ¬ bI (hs n r.toInt) = 0) : fs n S a j (d, g, c) = (upd d j (d r.toNatClampNeg), upd g j 1, c + 1) := by
  rw [nI_clamp (by omega)] at h
  rw [hr] at h2
  rw [fs, if_pos h, if_pos (bI_ne0 h2)]
  show (upd d j (d (src n d g j S a).toNat), upd g j 1, c + 1) = _
  rw [← hr]; rfl
theorem gj_out {n j : Nat} (hn : n < 2 ^ 20) (h : j ≤ n) (c : nI n ≤ nI j) : j = n := by
  have := (nI_leI (by omega) (by omega)).mp c
  omega
theorem gj_in {n j : Nat} (hn : n < 2 ^ 20) (h : j ≤ n) (c : ¬ nI n ≤ nI j) : j < n := by
  rcases Nat.lt_or_ge j n with q | q
  · exact q
  · exact absurd (nI_le q (by omega)) c
theorem gj_v {n j : Nat} (hn : n < 2 ^ 20) (h : j ≤ n) (c : ¬ nI n ≤ nI j) : vp_in (nI j) n := vp_in_nI (gj_in hn h c) (by omega)
/-- one place of forgetting -/
def lg (j : Nat) (t : (Nat → Int32) × (Nat → Int32) × Nat) : (Nat → Int32) × (Nat → Int32) × Nat := if t.2.1 j = 0 then t else (upd t.1 j (-1), upd t.2.1 j 0, t.2.2 + 1)
def lgs (d g : Nat → Int32) : Nat → (Nat → Int32) × (Nat → Int32) × Nat
  | 0 => (d, g, 0)
  | j + 1 => lg j (lgs d g j)
theorem lg_1 {j : Nat} {d g : Nat → Int32} {c : Nat} (hj : j < 2 ^ 20) (h : g (nI j).toNatClampNeg = 0) : lg j (d, g, c) = (d, g, c) := by
  rw [nI_clamp (by omega)] at h
  rw [lg, if_pos h]
theorem lg_2 {j : Nat} {d g : Nat → Int32} {c : Nat} (hj : j < 2 ^ 20) (h : ¬ g (nI j).toNatClampNeg = 0) : lg j (d, g, c) = (upd d j (-1), upd g j 0, c + 1) := by
  rw [nI_clamp (by omega)] at h
  rw [lg, if_neg h]
theorem not_hs_m1 {n : Nat} (h : ¬ bI (hs n (-1 : Int32).toInt) = 0) : False := h (by rw [show hs n (-1 : Int32).toInt = false by rw [im1]; simp [hs]]; rfl)

set_option maxHeartbeats 4000000 in
set_option maxRecDepth 100000 in
/-- Row.put(k, v) at a place -/
theorem c_R_put_ok (l : Launch) (D : va_G) (cI cZ cJ cO : ClassId) (sz : Nat) (h0 da ga : Nat) (n : Nat) (d g : Nat → Int32) (hn : n < 2 ^ 31) (k v : Int32) (hk : hs n k.toInt = true) : Met l y_R_put (wq y_R_put c_R_put 3 none) ({ frames := 1, cells := 0, slots := 0, locals := 21 }) (mP D (TY cI cZ cJ cO) [(h0, .inr (2, [.ref da, .ref ga])), (da, .inl (cI, n, .inl d)), (ga, .inl (cZ, n, .inl g))] [.ref h0, .int k, .int v] sz) (va_Qv (fun (u : va_W) => u = [(h0, .inr (2, [.ref da, .ref ga])), (da, .inl (cI, n, .inl (upd d k.toNatClampNeg v))), (ga, .inl (cZ, n, .inl (upd g k.toNatClampNeg 0)))]) (mB D (TY cI cZ cJ cO) (va_A [(h0, .inr (2, [.ref da, .ref ga])), (da, .inl (cI, n, .inl d)), (ga, .inl (cZ, n, .inl g))] sz)) (va_A [(h0, .inr (2, [.ref da, .ref ga])), (da, .inl (cI, n, .inl d)), (ga, .inl (cZ, n, .inl g))] sz)) 0 0 (va_A [(h0, .inr (2, [.ref da, .ref ga])), (da, .inl (cI, n, .inl d)), (ga, .inl (cZ, n, .inl g))] sz) := by
  refine Met.ofW (cc := c_R_put) (maxL := 3) (ret := none) (by decide) rfl ?_
  intro p e s m args below meth c s₁ B hml hv
  obtain ⟨rfl, hsz, hP, hK, hD0, hN⟩ := hv
  have hx := B.exec
  have hb := B.bytes
  have hr := B.returns
  have hg := gt_h (atoms_spec (ws := (wq y_R_put c_R_put 3 none)) B.pre)
  have hown : s.vm.findClass "RubbingMirrors$Row" = some m.cls := findClass_of_methodNamed B.named
  have hlocks := B.notSynchronized
  subst hsz
  have hD := hD0.self (sz := s.heap.size)
  generalize hAe : va_A [(h0, .inr (2, [.ref da, .ref ga])), (da, .inl (cI, n, .inl d)), (ga, .inl (cZ, n, .inl g))] s.heap.size = A at hD ⊢
  have hA : ∀ q : Nat, s.heap.size ≤ q → A q := fun q h => by rw [← hAe]; exact Or.inr h
  have hS : va_S A s.heap s.heap [] := va_S.rf
  have hl := lv_entry ([.ref h0, .int k, .int v]) (n := 3) (Nat.le_of_ble_eq_true rfl)
  rw [lg_entry_eq]
  generalize (lg_sl ([.ref h0, .int k, .int v]) ++ List.replicate (3 - (lg_sl ([.ref h0, .int k, .int v])).length) Slot.unset).toArray = ls at hl ⊢
  have hl : lv_has ls 3 [(0, .ref h0), (1, .int k), (2, .int v)] := hl
  refine lv_aload_n hx hb d_R_put_0 rfl (lv_at hl 0 rfl) ?_
  refine lv_iload_n hx hb d_R_put_1 rfl (lv_at hl 1 rfl) ?_
  refine vp_callSi (va_Run.run (va_runV (As := [.int k]) (rest := []) ⟨hx, hb, hml, hown, hg⟩ (c_R_has_ok l D cI cZ cJ cO h0 da ga n d g hn k) (cwV 1 hg (gv g_256 g_162 g_163 g_23 g_164) rfl rfl rfl (by decide +kernel) ⟨Nat.le_of_ble_eq_true rfl, Nat.le_of_ble_eq_true rfl⟩) (pV hP hK hN (va_recv hK hP (ci := 2) (q0 := 0) rfl rfl)) rfl rfl hl.1 rfl (lv_room (Nat.le_of_ble_eq_true rfl)) d_R_put_2 ⟨Nat.zero_le _, Nat.zero_le _⟩)) (fun r_1 hr_1 => ?_)
  subst hr_1
  refine lv_if_eq (tgt := 22) hx hb d_R_put_5 (by decide) (fun c_5 => ?_) (fun c_5 => ?_)
  · exact absurd (bI_eq0 c_5) (by rw [hk]; decide)
  · refine lv_aload_n hx hb d_R_put_8 rfl (lv_at hl 0 rfl) ?_
    refine va_get (D := D) (ci := 2) (v := .ref da) (C := Q_R) (T := F_R) (N := 2) hx hb hg in_R hown hK hP 0 rfl rfl 0 (by decide) (hg _ g_116) (fun _ h9 => h9) rfl d_R_put_9 ?_
    refine lv_iload_n hx hb d_R_put_12 rfl (lv_at hl 1 rfl) ?_
    refine lv_iload_n hx hb d_R_put_13 rfl (lv_at hl 2 rfl) ?_
    refine va_iast hx hb hK hP hD hS 1 0 rfl rfl (hs_in hk) d_R_put_14 (fun H locs hP hD hS => ?_)
    have hP : va_P D cls [(h0, .inr (2, [.ref da, .ref ga])), (da, .inl (cI, n, .inl (upd d k.toNatClampNeg v))), (ga, .inl (cZ, n, .inl g))] H := hP
    have hD : va_D A [(h0, .inr (2, [.ref da, .ref ga])), (da, .inl (cI, n, .inl (upd d k.toNatClampNeg v))), (ga, .inl (cZ, n, .inl g))] := hD
    refine lv_aload_n hx hb d_R_put_15 rfl (lv_at hl 0 rfl) ?_
    refine va_get (D := D) (ci := 2) (v := .ref ga) (C := Q_R) (T := F_R) (N := 2) hx hb hg in_R hown hK hP 0 rfl rfl 1 (by decide) (hg _ g_117) (fun _ h9 => h9) rfl d_R_put_16 ?_
    refine lv_iload_n hx hb d_R_put_19 rfl (lv_at hl 1 rfl) ?_
    refine lv_iconst (v := 0) hx hb d_R_put_20 (by decide) ?_
    refine va_zast hx hb hK hP hD hS 2 1 rfl rfl (hs_in hk) d_R_put_21 (fun H locs hP hD hS => ?_)
    have hP : va_P D cls [(h0, .inr (2, [.ref da, .ref ga])), (da, .inl (cI, n, .inl (upd d k.toNatClampNeg v))), (ga, .inl (cZ, n, .inl (upd g k.toNatClampNeg 0)))] H := hP
    have hD : va_D A [(h0, .inr (2, [.ref da, .ref ga])), (da, .inl (cI, n, .inl (upd d k.toNatClampNeg v))), (ga, .inl (cZ, n, .inl (upd g k.toNatClampNeg 0)))] := hD
    exact W.vret hx hb hr (fun t9 ht hW => ⟨⟨[(h0, .inr (2, [.ref da, .ref ga])), (da, .inl (cI, n, .inl (upd d k.toNatClampNeg v))), (ga, .inl (cZ, n, .inl (upd g k.toNatClampNeg 0)))], rfl, rfl, by rw [ht]; exact hP, va_K.moved hW.alike hK, hD⟩, hS.F ht⟩) hS.2.2 d_R_put_22

set_option maxHeartbeats 4000000 in
set_option maxRecDepth 100000 in
/-- Row.guessLost(step, a) -/
theorem c_R_guessLost_ok (l : Launch) (D : va_G) (cI cZ cJ cO : ClassId) (sz : Nat) (h0 da ga : Nat) (n : Nat) (d g : Nat → Int32) (hn : n < 2 ^ 20) (S : Nat) (a : Int32) (hS9 : S < 2 ^ 20) (ha1 : -1 ≤ a.toInt) (ha2 : a.toInt < 2 ^ 20) : Met l y_R_guessLost (wq y_R_guessLost c_R_guessLost 6 (some .int)) ({ frames := 3, cells := 0, slots := 0, locals := 66 }) (mP D (TY cI cZ cJ cO) [(h0, .inr (2, [.ref da, .ref ga])), (da, .inl (cI, n, .inl d)), (ga, .inl (cZ, n, .inl g))] [.ref h0, .int (nI S), .int a] sz) (va_Qi (fun (r : Int32) (u : va_W) => r = nI (fl n S a.toInt d g n).2.2 ∧ u = [(h0, .inr (2, [.ref da, .ref ga])), (da, .inl (cI, n, .inl ((fl n S a.toInt d g n).1))), (ga, .inl (cZ, n, .inl ((fl n S a.toInt d g n).2.1)))]) (mB D (TY cI cZ cJ cO) (va_A [(h0, .inr (2, [.ref da, .ref ga])), (da, .inl (cI, n, .inl d)), (ga, .inl (cZ, n, .inl g))] sz)) (va_A [(h0, .inr (2, [.ref da, .ref ga])), (da, .inl (cI, n, .inl d)), (ga, .inl (cZ, n, .inl g))] sz)) 0 0 (va_A [(h0, .inr (2, [.ref da, .ref ga])), (da, .inl (cI, n, .inl d)), (ga, .inl (cZ, n, .inl g))] sz) := by
  refine Met.ofW (cc := c_R_guessLost) (maxL := 6) (ret := (some .int)) (by decide) rfl ?_
  intro p e s m args below meth c s₁ B hml hv
  obtain ⟨rfl, hsz, hP, hK, hD0, hN⟩ := hv
  have hx := B.exec
  have hb := B.bytes
  have hr := B.returns
  have hg := gt_h (atoms_spec (ws := (wq y_R_guessLost c_R_guessLost 6 (some .int))) B.pre)
  have hown : s.vm.findClass "RubbingMirrors$Row" = some m.cls := findClass_of_methodNamed B.named
  have hlocks := B.notSynchronized
  subst hsz
  have hD := hD0.self (sz := s.heap.size)
  generalize hAe : va_A [(h0, .inr (2, [.ref da, .ref ga])), (da, .inl (cI, n, .inl d)), (ga, .inl (cZ, n, .inl g))] s.heap.size = A at hD ⊢
  have hA : ∀ q : Nat, s.heap.size ≤ q → A q := fun q h => by rw [← hAe]; exact Or.inr h
  have hS : va_S A s.heap s.heap [] := va_S.rf
  have hl := lv_entry ([.ref h0, .int (nI S), .int a]) (n := 6) (Nat.le_of_ble_eq_true rfl)
  rw [lg_entry_eq]
  generalize (lg_sl ([.ref h0, .int (nI S), .int a]) ++ List.replicate (6 - (lg_sl ([.ref h0, .int (nI S), .int a])).length) Slot.unset).toArray = ls at hl ⊢
  have hl : lv_has ls 6 [(0, .ref h0), (1, .int (nI S)), (2, .int a)] := hl
  refine lv_iconst (v := 0) hx hb d_R_guessLost_0 (by decide) ?_
  refine lv_istore_n (lv' := [(3, .int 0), (0, .ref h0), (1, .int (nI S)), (2, .int a)]) hx hb d_R_guessLost_1 rfl hl (by decide) rfl (fun ls hl => ?_)
  refine lv_iconst (v := 0) hx hb d_R_guessLost_2 (by decide) ?_
  refine lv_istore (lv' := [(4, .int 0), (3, .int 0), (0, .ref h0), (1, .int (nI S)), (2, .int a)]) hx hb d_R_guessLost_3 hl (by decide) rfl (fun ls hl => ?_)
  have loop_5 : ∀ (f5 : Nat) (j : Nat) (d1 g1 : Nat → Int32) (c1 : Nat) (x3 : Int32) (x4 : Int32) (H : Heap) (locs : List Loc) (ls : Array Slot), (j ≤ n ∧ n < j + f5 ∧ x3 = nI c1 ∧ x4 = nI j ∧ (d1, g1, c1) = fl n S a.toInt d g j) → va_P D cls [(h0, .inr (2, [.ref da, .ref ga])), (da, .inl (cI, n, .inl d1)), (ga, .inl (cZ, n, .inl g1))] H → va_D A [(h0, .inr (2, [.ref da, .ref ga])), (da, .inl (cI, n, .inl d1)), (ga, .inl (cZ, n, .inl g1))] → va_S A s.heap H locs → lv_has ls 6 [(0, .ref h0), (1, .int (nI S)), (2, .int a), (3, .int x3), (4, .int x4)] → W p l e (headSpec (wq y_R_guessLost c_R_guessLost 6 (some .int)) ({ frames := 3, cells := 0, slots := 0, locals := 66 })).room s m ([.ref h0, .int (nI S), .int a] : List Value).toArray below meth c H locs 0 0 (MQ below (va_Qi (fun (r : Int32) (u : va_W) => r = nI (fl n S a.toInt d g n).2.2 ∧ u = [(h0, .inr (2, [.ref da, .ref ga])), (da, .inl (cI, n, .inl ((fl n S a.toInt d g n).1))), (ga, .inl (cZ, n, .inl ((fl n S a.toInt d g n).2.1)))]) (mB D (TY cI cZ cJ cO) A) A) ([.ref h0, .int (nI S), .int a] : List Value).toArray s 0 0 A) (F0 m 5 ls []) := by
    intro f5
    induction f5 with
    | zero =>
      intro j d1 g1 c1 x3 x4 H locs ls hI hP hD hS hl
      obtain ⟨hj1, hj2, rfl, rfl, hq⟩ := hI
      omega
    | succ f5 ih5 =>
      intro j d1 g1 c1 x3 x4 H locs ls hI hP hD hS hl
      obtain ⟨hj1, hj2, rfl, rfl, hq⟩ := hI
      refine lv_iload hx hb d_R_guessLost_5 (lv_at hl 4 rfl) ?_
      refine lv_aload_n hx hb d_R_guessLost_7 rfl (lv_at hl 0 rfl) ?_
      refine va_get (D := D) (ci := 2) (v := .ref da) (C := Q_R) (T := F_R) (N := 2) hx hb hg in_R hown hK hP 0 rfl rfl 0 (by decide) (hg _ g_116) (fun _ h9 => h9) rfl d_R_guessLost_8 ?_
      refine va_alen (v := nI n) hx hb hK hP 1 0 rfl rfl rfl d_R_guessLost_11 ?_
      refine lv_icmp_ge (tgt := 80) hx hb d_R_guessLost_12 (by decide) (fun c_12 => ?_) (fun c_12 => ?_)
      · refine lv_iload_n hx hb d_R_guessLost_80 rfl (lv_at hl 3 rfl) ?_
        exact W.iret hx hb hr (fun t9 ht hW => ⟨⟨_, [(h0, .inr (2, [.ref da, .ref ga])), (da, .inl (cI, n, .inl d1)), (ga, .inl (cZ, n, .inl g1))], rfl, (by rw [gj_out hn hj1 c_12] at hq; rw [← hq]; exact ⟨rfl, rfl⟩), by rw [ht]; exact hP, va_K.moved hW.alike hK, hD⟩, hS.F ht⟩) hS.2.2 d_R_guessLost_81
      · refine lv_aload_n hx hb d_R_guessLost_15 rfl (lv_at hl 0 rfl) ?_
        refine va_get (D := D) (ci := 2) (v := .ref da) (C := Q_R) (T := F_R) (N := 2) hx hb hg in_R hown hK hP 0 rfl rfl 0 (by decide) (hg _ g_116) (fun _ h9 => h9) rfl d_R_guessLost_16 ?_
        refine lv_iload hx hb d_R_guessLost_19 (lv_at hl 4 rfl) ?_
        refine va_iald hx hb hK hP 1 0 rfl rfl (gj_v hn hj1 c_12) d_R_guessLost_21 ?_
        refine lv_iconst (v := (-1)) hx hb d_R_guessLost_22 (by decide) ?_
        refine lv_icmp_ne (tgt := 37) hx hb d_R_guessLost_23 (by decide) (fun c_23 => ?_) (fun c_23 => ?_)
        · refine lv_iconst (v := (-1)) hx hb d_R_guessLost_37 (by decide) ?_
          refine lv_istore (lv' := [(5, .int (-1)), (0, .ref h0), (1, .int (nI S)), (2, .int a), (3, .int (nI c1)), (4, .int (nI j))]) hx hb d_R_guessLost_38 hl (by decide) rfl (fun ls hl => ?_)
          refine lv_aload_n hx hb d_R_guessLost_40 rfl (lv_at hl 1 rfl) ?_
          refine lv_iload hx hb d_R_guessLost_41 (lv_at hl 0 rfl) ?_
          refine vp_callSi (va_Run.run (va_runV (As := [.int (-1)]) (rest := []) ⟨hx, hb, hml, hown, hg⟩ (c_R_has_ok l D cI cZ cJ cO h0 da ga n d1 g1 (by omega) (-1)) (cwV 1 hg (gv g_256 g_162 g_163 g_23 g_164) rfl rfl rfl (by decide +kernel) ⟨Nat.le_of_ble_eq_true rfl, Nat.le_of_ble_eq_true rfl⟩) (pV hP hK hN (va_recv hK hP (ci := 2) (q0 := 0) rfl rfl)) rfl rfl hl.1 rfl (lv_room (Nat.le_of_ble_eq_true rfl)) d_R_guessLost_43 ⟨Nat.zero_le _, Nat.zero_le _⟩)) (fun r_1 hr_1 => ?_)
          subst hr_1
          refine lv_if_eq (tgt := 74) hx hb d_R_guessLost_46 (by decide) (fun c_46 => ?_) (fun c_46 => ?_)
          · refine lv_iinc (v := (nI j) + 1) (lv' := [(4, .int ((nI j) + 1)), (5, .int (-1)), (0, .ref h0), (1, .int (nI S)), (2, .int a), (3, .int (nI c1))]) hx hb d_R_guessLost_74 hl (k := 5) rfl rfl (by decide) rfl (fun ls hl => ?_)
            refine lv_goto (tgt := 5) hx hb d_R_guessLost_77 (by decide) ?_
            exact ih5 (j + 1) d1 g1 c1 (nI c1) ((nI j) + 1) _ _ ls (⟨by have := gj_in hn hj1 c_12; omega, by omega, rfl, nI_1 j, by rw [fl, ← hq]; exact (fs_1 (by omega) c_23).symm⟩) hP hD hS (lv_sub hl [2, 3, 4, 5, 0] rfl)
          · exact (not_hs_m1 c_46).elim
        · refine lv_aload_n hx hb d_R_guessLost_26 rfl (lv_at hl 0 rfl) ?_
          refine lv_iload hx hb d_R_guessLost_27 (lv_at hl 4 rfl) ?_
          refine lv_iload_n hx hb d_R_guessLost_29 rfl (lv_at hl 1 rfl) ?_
          refine lv_iload_n hx hb d_R_guessLost_30 rfl (lv_at hl 2 rfl) ?_
          refine vp_callSi (va_Run.run (va_runV (As := [.int (nI j), .int (nI S), .int a]) (rest := []) ⟨hx, hb, hml, hown, hg⟩ (c_R_sourceFor_ok l D cI cZ cJ cO h0 da ga n d1 g1 hn j S a (by omega) hS9 ha1 ha2) (cwV 3 hg (gv g_366 g_368 g_3 g_23 g_369) rfl rfl rfl (by decide +kernel) ⟨Nat.le_of_ble_eq_true rfl, Nat.le_of_ble_eq_true rfl⟩) (pV hP hK hN (va_recv hK hP (ci := 2) (q0 := 0) rfl rfl)) rfl rfl hl.1 rfl (lv_room (Nat.le_of_ble_eq_true rfl)) d_R_guessLost_31 ⟨Nat.zero_le _, Nat.zero_le _⟩)) (fun r_2 hr_2 => ?_)
          refine lv_goto (tgt := 38) hx hb d_R_guessLost_34 (by decide) ?_
          refine lv_istore (lv' := [(5, .int r_2), (0, .ref h0), (1, .int (nI S)), (2, .int a), (3, .int (nI c1)), (4, .int (nI j))]) hx hb d_R_guessLost_38 hl (by decide) rfl (fun ls hl => ?_)
          refine lv_aload_n hx hb d_R_guessLost_40 rfl (lv_at hl 1 rfl) ?_
          refine lv_iload hx hb d_R_guessLost_41 (lv_at hl 0 rfl) ?_
          refine vp_callSi (va_Run.run (va_runV (As := [.int r_2]) (rest := []) ⟨hx, hb, hml, hown, hg⟩ (c_R_has_ok l D cI cZ cJ cO h0 da ga n d1 g1 (by omega) r_2) (cwV 1 hg (gv g_256 g_162 g_163 g_23 g_164) rfl rfl rfl (by decide +kernel) ⟨Nat.le_of_ble_eq_true rfl, Nat.le_of_ble_eq_true rfl⟩) (pV hP hK hN (va_recv hK hP (ci := 2) (q0 := 0) rfl rfl)) rfl rfl hl.1 rfl (lv_room (Nat.le_of_ble_eq_true rfl)) d_R_guessLost_43 ⟨Nat.zero_le _, Nat.zero_le _⟩)) (fun r_3 hr_3 => ?_)
          subst hr_3
          refine lv_if_eq (tgt := 74) hx hb d_R_guessLost_46 (by decide) (fun c_46 => ?_) (fun c_46 => ?_)
          · refine lv_iinc (v := (nI j) + 1) (lv' := [(4, .int ((nI j) + 1)), (5, .int r_2), (0, .ref h0), (1, .int (nI S)), (2, .int a), (3, .int (nI c1))]) hx hb d_R_guessLost_74 hl (k := 5) rfl rfl (by decide) rfl (fun ls hl => ?_)
            refine lv_goto (tgt := 5) hx hb d_R_guessLost_77 (by decide) ?_
            exact ih5 (j + 1) d1 g1 c1 (nI c1) ((nI j) + 1) _ _ ls (⟨by have := gj_in hn hj1 c_12; omega, by omega, rfl, nI_1 j, by rw [fl, ← hq]; exact (fs_2 (by omega) c_23 hr_2 c_46).symm⟩) hP hD hS (lv_sub hl [2, 3, 4, 5, 0] rfl)
          · refine lv_aload_n hx hb d_R_guessLost_49 rfl (lv_at hl 1 rfl) ?_
            refine va_get (D := D) (ci := 2) (v := .ref da) (C := Q_R) (T := F_R) (N := 2) hx hb hg in_R hown hK hP 0 rfl rfl 0 (by decide) (hg _ g_116) (fun _ h9 => h9) rfl d_R_guessLost_50 ?_
            refine lv_iload hx hb d_R_guessLost_53 (lv_at hl 5 rfl) ?_
            refine lv_aload_n hx hb d_R_guessLost_55 rfl (lv_at hl 1 rfl) ?_
            refine va_get (D := D) (ci := 2) (v := .ref da) (C := Q_R) (T := F_R) (N := 2) hx hb hg in_R hown hK hP 0 rfl rfl 0 (by decide) (hg _ g_116) (fun _ h9 => h9) rfl d_R_guessLost_56 ?_
            refine lv_iload hx hb d_R_guessLost_59 (lv_at hl 0 rfl) ?_
            refine va_iald hx hb hK hP 1 0 rfl rfl (hs_in (bI_ne0 c_46)) d_R_guessLost_61 ?_
            refine va_iast hx hb hK hP hD hS 1 0 rfl rfl (gj_v hn hj1 c_12) d_R_guessLost_62 (fun H locs hP hD hS => ?_)
            rw [nI_clamp (show j < 2 ^ 31 by omega)] at hP hD
            have hP : va_P D cls [(h0, .inr (2, [.ref da, .ref ga])), (da, .inl (cI, n, .inl (upd d1 j (d1 r_2.toNatClampNeg)))), (ga, .inl (cZ, n, .inl g1))] H := hP
            have hD : va_D A [(h0, .inr (2, [.ref da, .ref ga])), (da, .inl (cI, n, .inl (upd d1 j (d1 r_2.toNatClampNeg)))), (ga, .inl (cZ, n, .inl g1))] := hD
            refine lv_aload_n hx hb d_R_guessLost_63 rfl (lv_at hl 1 rfl) ?_
            refine va_get (D := D) (ci := 2) (v := .ref ga) (C := Q_R) (T := F_R) (N := 2) hx hb hg in_R hown hK hP 0 rfl rfl 1 (by decide) (hg _ g_117) (fun _ h9 => h9) rfl d_R_guessLost_64 ?_
            refine lv_iload hx hb d_R_guessLost_67 (lv_at hl 5 rfl) ?_
            refine lv_iconst (v := 1) hx hb d_R_guessLost_69 (by decide) ?_
            refine va_zast hx hb hK hP hD hS 2 1 rfl rfl (gj_v hn hj1 c_12) d_R_guessLost_70 (fun H locs hP hD hS => ?_)
            rw [nI_clamp (show j < 2 ^ 31 by omega)] at hP hD
            have hP : va_P D cls [(h0, .inr (2, [.ref da, .ref ga])), (da, .inl (cI, n, .inl (upd d1 j (d1 r_2.toNatClampNeg)))), (ga, .inl (cZ, n, .inl (upd g1 j 1)))] H := hP
            have hD : va_D A [(h0, .inr (2, [.ref da, .ref ga])), (da, .inl (cI, n, .inl (upd d1 j (d1 r_2.toNatClampNeg)))), (ga, .inl (cZ, n, .inl (upd g1 j 1)))] := hD
            refine lv_iinc (v := (nI c1) + 1) (lv' := [(3, .int ((nI c1) + 1)), (5, .int r_2), (0, .ref h0), (1, .int (nI S)), (2, .int a), (4, .int (nI j))]) hx hb d_R_guessLost_71 hl (k := 4) rfl rfl (by decide) rfl (fun ls hl => ?_)
            refine lv_iinc (v := (nI j) + 1) (lv' := [(4, .int ((nI j) + 1)), (3, .int ((nI c1) + 1)), (5, .int r_2), (0, .ref h0), (1, .int (nI S)), (2, .int a)]) hx hb d_R_guessLost_74 hl (k := 5) rfl rfl (by decide) rfl (fun ls hl => ?_)
            refine lv_goto (tgt := 5) hx hb d_R_guessLost_77 (by decide) ?_
            exact ih5 (j + 1) (upd d1 j (d1 r_2.toNatClampNeg)) (upd g1 j 1) (c1 + 1) ((nI c1) + 1) ((nI j) + 1) _ _ ls (⟨by have := gj_in hn hj1 c_12; omega, by omega, nI_1 c1, nI_1 j, by rw [fl, ← hq]; exact (fs_3 (by omega) c_23 hr_2 c_46).symm⟩) hP hD hS (lv_sub hl [3, 4, 5, 1, 0] rfl)
  exact loop_5 (n + 1) 0 d g 0 0 0 _ _ ls (⟨by omega, by omega, rfl, rfl, rfl⟩) hP hD hS (lv_sub hl [2, 3, 4, 1, 0] rfl)

set_option maxHeartbeats 4000000 in
set_option maxRecDepth 100000 in
/-- Row.loseGuesses() -/
theorem c_R_loseGuesses_ok (l : Launch) (D : va_G) (cI cZ cJ cO : ClassId) (sz : Nat) (h0 da ga : Nat) (n : Nat) (d g : Nat → Int32) (hn : n < 2 ^ 20) : Met l y_R_loseGuesses (wq y_R_loseGuesses c_R_loseGuesses 3 (some .int)) ({ frames := 0, cells := 0, slots := 0, locals := 0 }) (mP D (TY cI cZ cJ cO) [(h0, .inr (2, [.ref da, .ref ga])), (da, .inl (cI, n, .inl d)), (ga, .inl (cZ, n, .inl g))] [.ref h0] sz) (va_Qi (fun (r : Int32) (u : va_W) => r = nI (lgs d g n).2.2 ∧ u = [(h0, .inr (2, [.ref da, .ref ga])), (da, .inl (cI, n, .inl ((lgs d g n).1))), (ga, .inl (cZ, n, .inl ((lgs d g n).2.1)))]) (mB D (TY cI cZ cJ cO) (va_A [(h0, .inr (2, [.ref da, .ref ga])), (da, .inl (cI, n, .inl d)), (ga, .inl (cZ, n, .inl g))] sz)) (va_A [(h0, .inr (2, [.ref da, .ref ga])), (da, .inl (cI, n, .inl d)), (ga, .inl (cZ, n, .inl g))] sz)) 0 0 (va_A [(h0, .inr (2, [.ref da, .ref ga])), (da, .inl (cI, n, .inl d)), (ga, .inl (cZ, n, .inl g))] sz) := by
  refine Met.ofW (cc := c_R_loseGuesses) (maxL := 3) (ret := (some .int)) (by decide) rfl ?_
  intro p e s m args below meth c s₁ B hml hv
  obtain ⟨rfl, hsz, hP, hK, hD0, hN⟩ := hv
  have hx := B.exec
  have hb := B.bytes
  have hr := B.returns
  have hg := gt_h (atoms_spec (ws := (wq y_R_loseGuesses c_R_loseGuesses 3 (some .int))) B.pre)
  have hown : s.vm.findClass "RubbingMirrors$Row" = some m.cls := findClass_of_methodNamed B.named
  have hlocks := B.notSynchronized
  subst hsz
  have hD := hD0.self (sz := s.heap.size)
  generalize hAe : va_A [(h0, .inr (2, [.ref da, .ref ga])), (da, .inl (cI, n, .inl d)), (ga, .inl (cZ, n, .inl g))] s.heap.size = A at hD ⊢
  have hA : ∀ q : Nat, s.heap.size ≤ q → A q := fun q h => by rw [← hAe]; exact Or.inr h
  have hS : va_S A s.heap s.heap [] := va_S.rf
  have hl := lv_entry ([.ref h0]) (n := 3) (Nat.le_of_ble_eq_true rfl)
  rw [lg_entry_eq]
  generalize (lg_sl ([.ref h0]) ++ List.replicate (3 - (lg_sl ([.ref h0])).length) Slot.unset).toArray = ls at hl ⊢
  have hl : lv_has ls 3 [(0, .ref h0)] := hl
  refine lv_iconst (v := 0) hx hb d_R_loseGuesses_0 (by decide) ?_
  refine lv_istore_n (lv' := [(1, .int 0), (0, .ref h0)]) hx hb d_R_loseGuesses_1 rfl hl (by decide) rfl (fun ls hl => ?_)
  refine lv_iconst (v := 0) hx hb d_R_loseGuesses_2 (by decide) ?_
  refine lv_istore_n (lv' := [(2, .int 0), (1, .int 0), (0, .ref h0)]) hx hb d_R_loseGuesses_3 rfl hl (by decide) rfl (fun ls hl => ?_)
  have loop_4 : ∀ (f4 : Nat) (j : Nat) (d1 g1 : Nat → Int32) (c1 : Nat) (x1 : Int32) (x2 : Int32) (H : Heap) (locs : List Loc) (ls : Array Slot), (j ≤ n ∧ n < j + f4 ∧ x1 = nI c1 ∧ x2 = nI j ∧ (d1, g1, c1) = lgs d g j) → va_P D cls [(h0, .inr (2, [.ref da, .ref ga])), (da, .inl (cI, n, .inl d1)), (ga, .inl (cZ, n, .inl g1))] H → va_D A [(h0, .inr (2, [.ref da, .ref ga])), (da, .inl (cI, n, .inl d1)), (ga, .inl (cZ, n, .inl g1))] → va_S A s.heap H locs → lv_has ls 3 [(0, .ref h0), (1, .int x1), (2, .int x2)] → W p l e (headSpec (wq y_R_loseGuesses c_R_loseGuesses 3 (some .int)) ({ frames := 0, cells := 0, slots := 0, locals := 0 })).room s m ([.ref h0] : List Value).toArray below meth c H locs 0 0 (MQ below (va_Qi (fun (r : Int32) (u : va_W) => r = nI (lgs d g n).2.2 ∧ u = [(h0, .inr (2, [.ref da, .ref ga])), (da, .inl (cI, n, .inl ((lgs d g n).1))), (ga, .inl (cZ, n, .inl ((lgs d g n).2.1)))]) (mB D (TY cI cZ cJ cO) A) A) ([.ref h0] : List Value).toArray s 0 0 A) (F0 m 4 ls []) := by
    intro f4
    induction f4 with
    | zero =>
      intro j d1 g1 c1 x1 x2 H locs ls hI hP hD hS hl
      obtain ⟨hj1, hj2, rfl, rfl, hq⟩ := hI
      omega
    | succ f4 ih4 =>
      intro j d1 g1 c1 x1 x2 H locs ls hI hP hD hS hl
      obtain ⟨hj1, hj2, rfl, rfl, hq⟩ := hI
      refine lv_iload_n hx hb d_R_loseGuesses_4 rfl (lv_at hl 2 rfl) ?_
      refine lv_aload_n hx hb d_R_loseGuesses_5 rfl (lv_at hl 0 rfl) ?_
      refine va_get (D := D) (ci := 2) (v := .ref da) (C := Q_R) (T := F_R) (N := 2) hx hb hg in_R hown hK hP 0 rfl rfl 0 (by decide) (hg _ g_116) (fun _ h9 => h9) rfl d_R_loseGuesses_6 ?_
      refine va_alen (v := nI n) hx hb hK hP 1 0 rfl rfl rfl d_R_loseGuesses_9 ?_
      refine lv_icmp_ge (tgt := 45) hx hb d_R_loseGuesses_10 (by decide) (fun c_10 => ?_) (fun c_10 => ?_)
      · refine lv_iload_n hx hb d_R_loseGuesses_45 rfl (lv_at hl 1 rfl) ?_
        exact W.iret hx hb hr (fun t9 ht hW => ⟨⟨_, [(h0, .inr (2, [.ref da, .ref ga])), (da, .inl (cI, n, .inl d1)), (ga, .inl (cZ, n, .inl g1))], rfl, (by rw [gj_out hn hj1 c_10] at hq; rw [← hq]; exact ⟨rfl, rfl⟩), by rw [ht]; exact hP, va_K.moved hW.alike hK, hD⟩, hS.F ht⟩) hS.2.2 d_R_loseGuesses_46
      · refine lv_aload_n hx hb d_R_loseGuesses_13 rfl (lv_at hl 0 rfl) ?_
        refine va_get (D := D) (ci := 2) (v := .ref ga) (C := Q_R) (T := F_R) (N := 2) hx hb hg in_R hown hK hP 0 rfl rfl 1 (by decide) (hg _ g_117) (fun _ h9 => h9) rfl d_R_loseGuesses_14 ?_
        refine lv_iload_n hx hb d_R_loseGuesses_17 rfl (lv_at hl 2 rfl) ?_
        refine va_zald hx hb hK hP 2 1 rfl rfl (gj_v hn hj1 c_10) d_R_loseGuesses_18 ?_
        refine lv_if_eq (tgt := 39) hx hb d_R_loseGuesses_19 (by decide) (fun c_19 => ?_) (fun c_19 => ?_)
        · refine lv_iinc (v := (nI j) + 1) (lv' := [(2, .int ((nI j) + 1)), (0, .ref h0), (1, .int (nI c1))]) hx hb d_R_loseGuesses_39 hl (k := 2) rfl rfl (by decide) rfl (fun ls hl => ?_)
          refine lv_goto (tgt := 4) hx hb d_R_loseGuesses_42 (by decide) ?_
          exact ih4 (j + 1) d1 g1 c1 (nI c1) ((nI j) + 1) _ _ ls (⟨by have := gj_in hn hj1 c_10; omega, by omega, rfl, nI_1 j, by rw [lgs, ← hq]; exact (lg_1 (by omega) c_19).symm⟩) hP hD hS (lv_sub hl [1, 2, 0] rfl)
        · refine lv_aload_n hx hb d_R_loseGuesses_22 rfl (lv_at hl 0 rfl) ?_
          refine va_get (D := D) (ci := 2) (v := .ref da) (C := Q_R) (T := F_R) (N := 2) hx hb hg in_R hown hK hP 0 rfl rfl 0 (by decide) (hg _ g_116) (fun _ h9 => h9) rfl d_R_loseGuesses_23 ?_
          refine lv_iload_n hx hb d_R_loseGuesses_26 rfl (lv_at hl 2 rfl) ?_
          refine lv_iconst (v := (-1)) hx hb d_R_loseGuesses_27 (by decide) ?_
          refine va_iast hx hb hK hP hD hS 1 0 rfl rfl (gj_v hn hj1 c_10) d_R_loseGuesses_28 (fun H locs hP hD hS => ?_)
          rw [nI_clamp (show j < 2 ^ 31 by omega)] at hP hD
          have hP : va_P D cls [(h0, .inr (2, [.ref da, .ref ga])), (da, .inl (cI, n, .inl (upd d1 j (-1)))), (ga, .inl (cZ, n, .inl g1))] H := hP
          have hD : va_D A [(h0, .inr (2, [.ref da, .ref ga])), (da, .inl (cI, n, .inl (upd d1 j (-1)))), (ga, .inl (cZ, n, .inl g1))] := hD
          refine lv_aload_n hx hb d_R_loseGuesses_29 rfl (lv_at hl 0 rfl) ?_
          refine va_get (D := D) (ci := 2) (v := .ref ga) (C := Q_R) (T := F_R) (N := 2) hx hb hg in_R hown hK hP 0 rfl rfl 1 (by decide) (hg _ g_117) (fun _ h9 => h9) rfl d_R_loseGuesses_30 ?_
          refine lv_iload_n hx hb d_R_loseGuesses_33 rfl (lv_at hl 2 rfl) ?_
          refine lv_iconst (v := 0) hx hb d_R_loseGuesses_34 (by decide) ?_
          refine va_zast hx hb hK hP hD hS 2 1 rfl rfl (gj_v hn hj1 c_10) d_R_loseGuesses_35 (fun H locs hP hD hS => ?_)
          rw [nI_clamp (show j < 2 ^ 31 by omega)] at hP hD
          have hP : va_P D cls [(h0, .inr (2, [.ref da, .ref ga])), (da, .inl (cI, n, .inl (upd d1 j (-1)))), (ga, .inl (cZ, n, .inl (upd g1 j 0)))] H := hP
          have hD : va_D A [(h0, .inr (2, [.ref da, .ref ga])), (da, .inl (cI, n, .inl (upd d1 j (-1)))), (ga, .inl (cZ, n, .inl (upd g1 j 0)))] := hD
          refine lv_iinc (v := (nI c1) + 1) (lv' := [(1, .int ((nI c1) + 1)), (0, .ref h0), (2, .int (nI j))]) hx hb d_R_loseGuesses_36 hl (k := 1) rfl rfl (by decide) rfl (fun ls hl => ?_)
          refine lv_iinc (v := (nI j) + 1) (lv' := [(2, .int ((nI j) + 1)), (1, .int ((nI c1) + 1)), (0, .ref h0)]) hx hb d_R_loseGuesses_39 hl (k := 2) rfl rfl (by decide) rfl (fun ls hl => ?_)
          refine lv_goto (tgt := 4) hx hb d_R_loseGuesses_42 (by decide) ?_
          exact ih4 (j + 1) (upd d1 j (-1)) (upd g1 j 0) (c1 + 1) ((nI c1) + 1) ((nI j) + 1) _ _ ls (⟨by have := gj_in hn hj1 c_10; omega, by omega, nI_1 c1, nI_1 j, by rw [lgs, ← hq]; exact (lg_2 (by omega) c_19).symm⟩) hP hD hS (lv_sub hl [2, 1, 0] rfl)
  exact loop_4 (n + 1) 0 d g 0 0 0 _ _ ls (⟨by omega, by omega, rfl, rfl, rfl⟩) hP hD hS (lv_sub hl [2, 1, 0] rfl)

set_option maxHeartbeats 4000000 in
set_option maxRecDepth 100000 in
/-- Arrays.fill of ints -/
theorem c_AR_fill_ok (l : Launch) (D : va_G) (cI cZ cJ cO : ClassId) (sz : Nat) (q n : Nat) (f : Nat → Int32) (hn : n < 2 ^ 20) (v : Int32) : Met l y_AR_fill (wq y_AR_fill c_AR_fill 4 none) ({ frames := 0, cells := 0, slots := 0, locals := 0 }) (mP D (TY cI cZ cJ cO) [(q, .inl (cI, n, .inl f))] [.ref q, .int v] sz) (va_Qv (fun (u : va_W) => u = [(q, .inl (cI, n, .inl (fun _ => v)))]) (mB D (TY cI cZ cJ cO) (va_A [(q, .inl (cI, n, .inl f))] sz)) (va_A [(q, .inl (cI, n, .inl f))] sz)) 0 0 (va_A [(q, .inl (cI, n, .inl f))] sz) := by
  refine Met.ofW (cc := c_AR_fill) (maxL := 4) (ret := none) (by decide) rfl ?_
  intro p e s m args below meth c s₁ B hml hv
  obtain ⟨rfl, hsz, hP, hK, hD0, hN⟩ := hv
  have hx := B.exec
  have hb := B.bytes
  have hr := B.returns
  have hg := gt_h (atoms_spec (ws := (wq y_AR_fill c_AR_fill 4 none)) B.pre)
  have hown : s.vm.findClass "java/util/Arrays" = some m.cls := findClass_of_methodNamed B.named
  have hlocks := B.notSynchronized
  subst hsz
  have hD := hD0.self (sz := s.heap.size)
  generalize hAe : va_A [(q, .inl (cI, n, .inl f))] s.heap.size = A at hD ⊢
  have hA : ∀ q : Nat, s.heap.size ≤ q → A q := fun q h => by rw [← hAe]; exact Or.inr h
  have hS : va_S A s.heap s.heap [] := va_S.rf
  have hl := lv_entry ([.ref q, .int v]) (n := 4) (Nat.le_of_ble_eq_true rfl)
  rw [lg_entry_eq]
  generalize (lg_sl ([.ref q, .int v]) ++ List.replicate (4 - (lg_sl ([.ref q, .int v])).length) Slot.unset).toArray = ls at hl ⊢
  have hl : lv_has ls 4 [(0, .ref q), (1, .int v)] := hl
  refine lv_iconst (v := 0) hx hb d_AR_fill_0 (by decide) ?_
  refine lv_istore_n (lv' := [(2, .int 0), (0, .ref q), (1, .int v)]) hx hb d_AR_fill_1 rfl hl (by decide) rfl (fun ls hl => ?_)
  refine lv_aload_n hx hb d_AR_fill_2 rfl (lv_at hl 1 rfl) ?_
  refine va_alen (v := nI n) hx hb hK hP 0 0 rfl rfl rfl d_AR_fill_3 ?_
  refine lv_istore_n (lv' := [(3, .int (nI n)), (2, .int 0), (0, .ref q), (1, .int v)]) hx hb d_AR_fill_4 rfl hl (by decide) rfl (fun ls hl => ?_)
  have loop_5 : ∀ (f5 : Nat) (j : Nat) (f1 : Nat → Int32) (x2 : Int32) (H : Heap) (locs : List Loc) (ls : Array Slot), (j ≤ n ∧ n < j + f5 ∧ x2 = nI j ∧ (∀ i, i < j → f1 i = v)) → va_P D cls [(q, .inl (cI, n, .inl f1))] H → va_D A [(q, .inl (cI, n, .inl f1))] → va_S A s.heap H locs → lv_has ls 4 [(0, .ref q), (1, .int v), (3, .int (nI n)), (2, .int x2)] → W p l e (headSpec (wq y_AR_fill c_AR_fill 4 none) ({ frames := 0, cells := 0, slots := 0, locals := 0 })).room s m ([.ref q, .int v] : List Value).toArray below meth c H locs 0 0 (MQ below (va_Qv (fun (u : va_W) => u = [(q, .inl (cI, n, .inl (fun _ => v)))]) (mB D (TY cI cZ cJ cO) A) A) ([.ref q, .int v] : List Value).toArray s 0 0 A) (F0 m 5 ls []) := by
    intro f5
    induction f5 with
    | zero =>
      intro j f1 x2 H locs ls hI hP hD hS hl
      obtain ⟨hj1, hj2, rfl, hq⟩ := hI
      omega
    | succ f5 ih5 =>
      intro j f1 x2 H locs ls hI hP hD hS hl
      obtain ⟨hj1, hj2, rfl, hq⟩ := hI
      refine lv_iload_n hx hb d_AR_fill_5 rfl (lv_at hl 3 rfl) ?_
      refine lv_iload_n hx hb d_AR_fill_6 rfl (lv_at hl 2 rfl) ?_
      refine lv_icmp_ge (tgt := 20) hx hb d_AR_fill_7 (by decide) (fun c_7 => ?_) (fun c_7 => ?_)
      · have hP := ba_cg (w1 := []) (w2 := []) (f' := fun _ => v) (fun i hi => hq i (by rw [gj_out hn hj1 c_7]; exact hi)) hP
        have hD := ba_cgD (w1 := []) (w2 := []) (x' := .inl (cI, n, .inl (fun _ => v))) hD
        exact W.vret hx hb hr (fun t9 ht hW => ⟨⟨[(q, .inl (cI, n, .inl (fun _ => v)))], rfl, rfl, by rw [ht]; exact hP, va_K.moved hW.alike hK, hD⟩, hS.F ht⟩) hS.2.2 d_AR_fill_20
      · refine lv_aload_n hx hb d_AR_fill_10 rfl (lv_at hl 0 rfl) ?_
        refine lv_iload_n hx hb d_AR_fill_11 rfl (lv_at hl 3 rfl) ?_
        refine lv_iload_n hx hb d_AR_fill_12 rfl (lv_at hl 1 rfl) ?_
        refine va_iast hx hb hK hP hD hS 0 0 rfl rfl (gj_v hn hj1 c_7) d_AR_fill_13 (fun H locs hP hD hS => ?_)
        rw [nI_clamp (show j < 2 ^ 31 by omega)] at hP hD
        have hP : va_P D cls [(q, .inl (cI, n, .inl (upd f1 j v)))] H := hP
        have hD : va_D A [(q, .inl (cI, n, .inl (upd f1 j v)))] := hD
        refine lv_iinc (v := (nI j) + 1) (lv' := [(2, .int ((nI j) + 1)), (0, .ref q), (1, .int v), (3, .int (nI n))]) hx hb d_AR_fill_14 hl (k := 3) rfl rfl (by decide) rfl (fun ls hl => ?_)
        refine lv_goto (tgt := 5) hx hb d_AR_fill_17 (by decide) ?_
        exact ih5 (j + 1) (upd f1 j v) ((nI j) + 1) _ _ ls (⟨by have := gj_in hn hj1 c_7; omega, by omega, nI_1 j, fun i hi => by by_cases e : i = j <;> simp [upd, e] <;> exact hq i (by omega)⟩) hP hD hS (lv_sub hl [1, 2, 3, 0] rfl)
  exact loop_5 (n + 1) 0 f 0 _ _ ls (⟨by omega, by omega, rfl, fun i hi => absurd hi (Nat.not_lt_zero i)⟩) hP hD hS (lv_sub hl [2, 3, 0, 1] rfl)
