
/-- a start of a method that may throw: a writer's, and the two statics of Throwable that its making reads -/
def tP (D : va_G) (tys : List (ClassId × FieldType)) (ws : va_W) (av : List Value) (sz : Nat) : Array Value → State → Prop := va_Pc av (fun U => U.heap.size = sz ∧ va_P D cls ws U.heap ∧ va_K D cls tys U ∧ va_D (fun _ => True) ws ∧ nW U ∧ vx_Zq Bundle.tN "UNASSIGNED_STACK" Bundle.steD (va_A ws sz) U U.heap ∧ vx_Zq Bundle.tN "SUPPRESSED_SENTINEL" Bundle.listD (va_A ws sz) U U.heap)
theorem tp_blind {D : va_G} {tys : List (ClassId × FieldType)} {ws : va_W} {av : List Value} {sz : Nat} : FrameBlind (tP D tys ws av sz) := fun a U g mk q => by
  obtain ⟨q0, q1, qP, qK, qD, qN, qU, qV⟩ := q
  exact ⟨q0, q1, qP, va_K.moved (u := U) (U := U.calling g mk a) (Vm.Alike.refl U.vm) qK, qD, nW.same (s := U) (U := U.calling g mk a) rfl qN, vx_Zq.moved (u := U) (U := U.calling g mk a) (Vm.Alike.refl U.vm) qU, vx_Zq.moved (u := U) (U := U.calling g mk a) (Vm.Alike.refl U.vm) qV⟩
/-- its end by a throw of E: the cells u -/
def xB (D : va_G) (tys : List (ClassId × FieldType)) (A : Nat → Prop) (xe : String → Prop) (E : String) (u : va_W) (t : State) : Prop := xe E ∧ mB D tys A u t
theorem nw_use {w : Cond} {args : Array Value} {s : State} (hw : w ∈ NWL) (h : nW s) : w.before args s = true := by
  have hk := List.all_eq_true.mp nwk_all w hw
  have h1 := h.1 w hw
  cases w with
  | fieldLinkNest a i b n d h9 => exact h1.use rfl
  | methodLinkNest a i x h9 => exact h1.use rfl
  | castable a b => exact h1.use rfl
  | declares x => exact h1.use rfl
  | _ => cases hk
abbrev XNM : List String := ["java/lang/RuntimeException", "java/lang/Exception"]
/-- what the tables say of an exception that the class makes -/
def xok (ik ic : Nat) (X : String) : Prop := (Bundle.fit X = true ∧ ∀ n ∈ XNM, Bundle.fit n = true) ∧ Cond.classLink "RubbingMirrors" ik X ∈ GT ∧ Cond.initialized X ∈ GT ∧ (∀ w ∈ vx_atS "RubbingMirrors" ic X XNM, w ∈ GT ∨ w ∈ NWL) ∧ ∀ w ∈ Cond.classLink "RubbingMirrors" ik X :: Cond.initialized X :: vx_atS "RubbingMirrors" ic X XNM, vx_ot w = true

theorem x_I : xok 51 55 "java/lang/IndexOutOfBoundsException" := ⟨⟨by decide +kernel, by decide +kernel⟩, g_165, g_30, by decide +kernel, by decide +kernel⟩
theorem x_A : xok 62 66 "java/lang/IllegalArgumentException" := ⟨⟨by decide +kernel, by decide +kernel⟩, g_236, g_31, by decide +kernel, by decide +kernel⟩
theorem x_S : xok 87 91 "java/lang/IllegalStateException" := ⟨⟨by decide +kernel, by decide +kernel⟩, g_317, g_32, by decide +kernel, by decide +kernel⟩

section THR
variable {p : Program} {l : Launch} {e : Env} {R : Room} {s : State} {m : MethodId} {args : Array Value} {below : List Frame} {meth : Method} {c : Code} {H : Heap} {locs : List Loc} {cells slots : Nat}
theorem thrw {cc : ByteArray} {pc ik ic is mc ms : Nat} {X text : String} {A : Nat → Prop} {ls : Array Slot} {rest : List Value} {Qc : Array Value → State → Outcome → State → Prop} {D : va_G} {tys : List (ClassId × FieldType)} {ws : va_W} {px : va_W → Prop} {xe : String → Prop}
    (hx : p.tables.exec = Jvm.exec) (hb : c.code = cc) (hlt : l.stackTraces = false) (hown : s.vm.findClass "RubbingMirrors" = some m.cls) (hg : ∀ w ∈ GT, w.before args s = true) (hN : nW s) (hX : xok ik ic X) (hst : (is, text) ∈ STL)
    (hU : vx_Zq Bundle.tN "UNASSIGNED_STACK" Bundle.steD A s s.heap) (hV : vx_Zq Bundle.tN "SUPPRESSED_SENTINEL" Bundle.listD A s s.heap) (hS : va_S A s.heap H locs) (hsize : ls.size = c.maxLocals)
    (d0 : decode cc pc = .ok (.new ik, 3)) (d3 : decode cc (pc + 3) = .ok (.dup, 1)) (d4 : decode cc (pc + 4) = .ok (.ldc is, 2)) (d6 : decode cc (pc + 6) = .ok (.invokespecial ic, 3)) (d9 : decode cc (pc + 9) = .ok (.athrow, 1))
    (hno : ∀ x ∈ c.exceptionTable.toList, False) (hRf : 6 ≤ R.frames) (hRl : (rest.map fun v => v.category).sum + 82 ≤ R.locals) (hRc : cells + 1 ≤ R.cells) (hRs : slots + 6 ≤ R.slots) (hlocks : meth.locks = false)
    (hP : va_P D cls ws H) (hK : va_K D cls tys s) (hD : va_D A ws) (hpx : px ws) (hxe : xe X) (hc : cells + 1 ≤ mc) (hs : slots + 6 ≤ ms) :
    W p l e R s m args below meth c H locs cells slots (vx_MQ below Qc (vx_X px (xB D tys A xe) A) args s mc ms A) (F0 m pc ls rest) := by
  obtain ⟨⟨hf1, hf2⟩, hk, hi, hat, hgd⟩ := hX
  obtain ⟨sa, hstr⟩ := hN.2.1 _ hst
  refine vx_throwS (sa := sa) hx hb hlt hown hf1 hf2 (hg _ hk) (hg _ hi) hstr (fun w hw => (hat w hw).elim (hg w) (fun h => nw_use h hN)) hgd hU hV hS hsize d0 d3 d4 d6 d9 (fun x hx => (hno x hx).elim) hRf hRl hRc hRs hlocks ?_ hS.2.2 hc hs
  intro t hal hz hk9
  exact ⟨ws, hpx, ⟨hxe, hP.kept (fun k q hq => hk9 q.1 (hP k q hq).lt), va_K.moved hal hK, hD⟩, Nat.le_trans hS.1 hz, fun q h1 h2 => (hk9 q (Nat.lt_of_lt_of_le h1 hS.1)).trans (hS.2.1 q h1 h2)⟩
end THR
abbrev eI : String := "java/lang/IndexOutOfBoundsException"
abbrev eA : String := "java/lang/IllegalArgumentException"
abbrev eS : String := "java/lang/IllegalStateException"

set_option maxHeartbeats 4000000 in
set_option maxRecDepth 100000 in
/-- depth(k, v) -/
theorem c_M_depth_ok (l : Launch) (hlt : l.stackTraces = false) (D : va_G) (cI cZ cJ cO : ClassId) (sz : Nat) (o r0 l1 l2 l3 bb da ga : Nat) (n : Nat) (d g : Nat → Int32) (h4 : 4 ≤ n) (h64 : n ≤ 64) (k v : Int32) : vx_Met l y_M_depth (wq y_M_depth c_M_depth 3 none) ({ frames := 6, cells := 1, slots := 6, locals := 100 }) (tP D (TY cI cZ cJ cO) [(o, .inr (3, [.ref r0, .ref l1, .ref l2, .ref l3, .ref bb])), (r0, .inr (2, [.ref da, .ref ga])), (da, .inl (cI, n, .inl d)), (ga, .inl (cZ, n, .inl g))] [.ref o, .int k, .int v] sz) (va_Qv (fun (u : va_W) => cDep n k v = 0 ∧ u = [(o, .inr (3, [.ref r0, .ref l1, .ref l2, .ref l3, .ref bb])), (r0, .inr (2, [.ref da, .ref ga])), (da, .inl (cI, n, .inl (upd d k.toNatClampNeg v))), (ga, .inl (cZ, n, .inl (upd g k.toNatClampNeg 0)))]) (mB D (TY cI cZ cJ cO) (va_A [(o, .inr (3, [.ref r0, .ref l1, .ref l2, .ref l3, .ref bb])), (r0, .inr (2, [.ref da, .ref ga])), (da, .inl (cI, n, .inl d)), (ga, .inl (cZ, n, .inl g))] sz)) (va_A [(o, .inr (3, [.ref r0, .ref l1, .ref l2, .ref l3, .ref bb])), (r0, .inr (2, [.ref da, .ref ga])), (da, .inl (cI, n, .inl d)), (ga, .inl (cZ, n, .inl g))] sz)) (vx_X (fun (u : va_W) => u = [(o, .inr (3, [.ref r0, .ref l1, .ref l2, .ref l3, .ref bb])), (r0, .inr (2, [.ref da, .ref ga])), (da, .inl (cI, n, .inl d)), (ga, .inl (cZ, n, .inl g))]) (xB D (TY cI cZ cJ cO) (va_A [(o, .inr (3, [.ref r0, .ref l1, .ref l2, .ref l3, .ref bb])), (r0, .inr (2, [.ref da, .ref ga])), (da, .inl (cI, n, .inl d)), (ga, .inl (cZ, n, .inl g))] sz) (fun E => (cDep n k v = 1 ∧ E = eI) ∨ (cDep n k v = 2 ∧ E = eA))) (va_A [(o, .inr (3, [.ref r0, .ref l1, .ref l2, .ref l3, .ref bb])), (r0, .inr (2, [.ref da, .ref ga])), (da, .inl (cI, n, .inl d)), (ga, .inl (cZ, n, .inl g))] sz)) 1 6 (va_A [(o, .inr (3, [.ref r0, .ref l1, .ref l2, .ref l3, .ref bb])), (r0, .inr (2, [.ref da, .ref ga])), (da, .inl (cI, n, .inl d)), (ga, .inl (cZ, n, .inl g))] sz) := by
  refine vx_ofW (cc := c_M_depth) (maxL := 3) (ret := none) (by decide) rfl ?_
  intro p e s m args below meth c s₁ B hml hno hv
  obtain ⟨rfl, hsz, hP, hK, hD0, hN, hU, hV⟩ := hv
  have hx := B.exec
  have hb := B.bytes
  have hr := B.returns
  have hg := gt_h (atoms_spec (ws := (wq y_M_depth c_M_depth 3 none)) B.pre)
  have hown : s.vm.findClass "RubbingMirrors" = some m.cls := findClass_of_methodNamed B.named
  have hlocks := B.notSynchronized
  subst hsz
  have hD := hD0.self (sz := s.heap.size)
  generalize hAe : va_A [(o, .inr (3, [.ref r0, .ref l1, .ref l2, .ref l3, .ref bb])), (r0, .inr (2, [.ref da, .ref ga])), (da, .inl (cI, n, .inl d)), (ga, .inl (cZ, n, .inl g))] s.heap.size = A at hD hU hV ⊢
  have hA : ∀ q : Nat, s.heap.size ≤ q → A q := fun q h => by rw [← hAe]; exact Or.inr h
  have hS : va_S A s.heap s.heap [] := va_S.rf
  have hl := lv_entry ([.ref o, .int k, .int v]) (n := 3) (Nat.le_of_ble_eq_true rfl)
  rw [lg_entry_eq]
  generalize (lg_sl ([.ref o, .int k, .int v]) ++ List.replicate (3 - (lg_sl ([.ref o, .int k, .int v])).length) Slot.unset).toArray = ls at hl ⊢
  have hl : lv_has ls 3 [(0, .ref o), (1, .int k), (2, .int v)] := hl
  refine lv_aload_n hx hb d_M_depth_0 rfl (lv_at hl 0 rfl) ?_
  refine va_get (D := D) (ci := 3) (v := .ref r0) (C := Q_M) (T := F_M) (N := 5) hx hb hg in_M hown hK hP 0 rfl rfl 0 (by decide) (hg _ g_125) (fun _ h9 => h9) rfl d_M_depth_1 ?_
  refine lv_iload_n hx hb d_M_depth_4 rfl (lv_at hl 1 rfl) ?_
  refine vp_callSi (va_Run.run (va_runV (As := [.int k]) (rest := []) ⟨hx, hb, hml, hown, hg⟩ (c_R_has_ok l D cI cZ cJ cO r0 da ga n d g (by omega) k) (cwV 1 hg (gv g_161 g_162 g_163 g_23 g_164) rfl rfl rfl (by decide +kernel) ⟨Nat.le_of_ble_eq_true rfl, Nat.le_of_ble_eq_true rfl⟩) (pV (hP.sub [1, 2, 3] rfl) hK hN (va_recv hK (hP.sub [1, 2, 3] rfl) (ci := 2) (q0 := 0) rfl rfl)) rfl rfl hl.1 rfl (lv_room (Nat.le_of_ble_eq_true rfl)) d_M_depth_5 ⟨Nat.zero_le _, Nat.zero_le _⟩)) (fun r_1 hr_1 => ?_)
  subst hr_1
  refine lv_if_ne (tgt := 21) hx hb d_M_depth_8 (by decide) (fun c_8 => ?_) (fun c_8 => ?_)
  · refine lv_iload_n hx hb d_M_depth_21 rfl (lv_at hl 2 rfl) ?_
    refine lv_iconst (v := (-1)) hx hb d_M_depth_22 (by decide) ?_
    refine lv_sipush (v := 255) hx hb d_M_depth_23 (by decide) ?_
    refine vp_callSi (va_Run.run (va_runS (As := [.int v, .int (-1), .int 255]) (rest := []) ⟨hx, hb, hml, hown, hg⟩ (c_M_isWithin_ok l D cI cZ cJ cO v (-1) 255) (va_cwS 3 hg (gs2 g_233 g_234 g_18 g_235) rfl rfl rfl (by decide +kernel) ⟨Nat.le_of_ble_eq_true rfl, Nat.le_of_ble_eq_true rfl⟩) (pS ba_nil hK hN) rfl rfl hl.1 rfl (lv_room (Nat.le_of_ble_eq_true rfl)) d_M_depth_26 ⟨Nat.zero_le _, Nat.zero_le _⟩)) (fun r_2 hr_2 => ?_)
    subst hr_2
    refine lv_if_ne (tgt := 42) hx hb d_M_depth_29 (by decide) (fun c_29 => ?_) (fun c_29 => ?_)
    · refine lv_aload_n hx hb d_M_depth_42 rfl (lv_at hl 0 rfl) ?_
      refine va_get (D := D) (ci := 3) (v := .ref r0) (C := Q_M) (T := F_M) (N := 5) hx hb hg in_M hown hK hP 0 rfl rfl 0 (by decide) (hg _ g_125) (fun _ h9 => h9) rfl d_M_depth_43 ?_
      refine lv_iload_n hx hb d_M_depth_46 rfl (lv_at hl 1 rfl) ?_
      refine lv_iload_n hx hb d_M_depth_47 rfl (lv_at hl 2 rfl) ?_
      have hP := hP.sub (ws' := [(r0, .inr (2, [.ref da, .ref ga])), (da, .inl (cI, n, .inl d)), (ga, .inl (cZ, n, .inl g))] ++ [(o, .inr (3, [.ref r0, .ref l1, .ref l2, .ref l3, .ref bb]))]) [1, 2, 3, 0] rfl
      have hD := hD.sub (ws' := [(r0, .inr (2, [.ref da, .ref ga])), (da, .inl (cI, n, .inl d)), (ga, .inl (cZ, n, .inl g))] ++ [(o, .inr (3, [.ref r0, .ref l1, .ref l2, .ref l3, .ref bb]))]) [1, 2, 3, 0] (by decide) rfl
      refine mcallv (wc := [(r0, .inr (2, [.ref da, .ref ga])), (da, .inl (cI, n, .inl d)), (ga, .inl (cZ, n, .inl g))]) (wr := [(o, .inr (3, [.ref r0, .ref l1, .ref l2, .ref l3, .ref bb]))]) (va_runV (As := [.int k, .int v]) (rest := []) ⟨hx, hb, hml, hown, hg⟩ (c_R_put_ok l D cI cZ cJ cO s.heap.size r0 da ga n d g (by omega) k v (bI_ne0 c_8)) (cwV 2 hg (gv g_252 g_253 g_254 g_23 g_255) rfl rfl rfl (by decide +kernel) ⟨Nat.le_of_ble_eq_true rfl, Nat.le_of_ble_eq_true rfl⟩) (mV (ba_Pl hP) hK hN (ba_Dl hD) (va_recv hK (ba_Pl hP) (ci := 2) (q0 := 0) rfl rfl)) rfl rfl hl.1 rfl (lv_room (Nat.le_of_ble_eq_true rfl)) d_M_depth_48 ⟨Nat.le_of_ble_eq_true rfl, Nat.le_of_ble_eq_true rfl⟩) hP hD hS hA (fun u_3 H locs hu_3 hP hD hS => ?_)
      subst hu_3
      have hP : va_P D cls [(r0, .inr (2, [.ref da, .ref ga])), (da, .inl (cI, n, .inl (upd d k.toNatClampNeg v))), (ga, .inl (cZ, n, .inl (upd g k.toNatClampNeg 0))), (o, .inr (3, [.ref r0, .ref l1, .ref l2, .ref l3, .ref bb]))] H := hP
      have hD : va_D A [(r0, .inr (2, [.ref da, .ref ga])), (da, .inl (cI, n, .inl (upd d k.toNatClampNeg v))), (ga, .inl (cZ, n, .inl (upd g k.toNatClampNeg 0))), (o, .inr (3, [.ref r0, .ref l1, .ref l2, .ref l3, .ref bb]))] := hD
      refine vx_ret ?_
      have hP := hP.sub (ws' := [(o, .inr (3, [.ref r0, .ref l1, .ref l2, .ref l3, .ref bb])), (r0, .inr (2, [.ref da, .ref ga])), (da, .inl (cI, n, .inl (upd d k.toNatClampNeg v))), (ga, .inl (cZ, n, .inl (upd g k.toNatClampNeg 0)))]) [3, 0, 1, 2] rfl
      have hD := hD.sub (ws' := [(o, .inr (3, [.ref r0, .ref l1, .ref l2, .ref l3, .ref bb])), (r0, .inr (2, [.ref da, .ref ga])), (da, .inl (cI, n, .inl (upd d k.toNatClampNeg v))), (ga, .inl (cZ, n, .inl (upd g k.toNatClampNeg 0)))]) [3, 0, 1, 2] (by decide) rfl
      refine W.widen (k := 1) (n := 6) (by omega) (by omega) ?_
      exact W.vret hx hb hr (fun t9 ht hW => ⟨⟨[(o, .inr (3, [.ref r0, .ref l1, .ref l2, .ref l3, .ref bb])), (r0, .inr (2, [.ref da, .ref ga])), (da, .inl (cI, n, .inl (upd d k.toNatClampNeg v))), (ga, .inl (cZ, n, .inl (upd g k.toNatClampNeg 0)))], rfl, ⟨cd_0 c_8 c_29, rfl⟩, by rw [ht]; exact hP, va_K.moved hW.alike hK, hD⟩, hS.F ht⟩) hS.2.2 d_M_depth_51
    · exact thrw hx hb hlt hown hg hN x_A st_64 hU hV hS (by rw [hml]; exact hl.1) d_M_depth_32 d_M_depth_35 d_M_depth_36 d_M_depth_38 d_M_depth_41 hno (Nat.le_of_ble_eq_true rfl) (Nat.le_of_ble_eq_true rfl) (Nat.le_of_ble_eq_true rfl) (Nat.le_of_ble_eq_true rfl) hlocks hP hK hD rfl (Or.inr ⟨cd_2 c_8 c_29, rfl⟩) (Nat.le_of_ble_eq_true rfl) (Nat.le_of_ble_eq_true rfl)
  · exact thrw hx hb hlt hown hg hN x_I st_53 hU hV hS (by rw [hml]; exact hl.1) d_M_depth_11 d_M_depth_14 d_M_depth_15 d_M_depth_17 d_M_depth_20 hno (Nat.le_of_ble_eq_true rfl) (Nat.le_of_ble_eq_true rfl) (Nat.le_of_ble_eq_true rfl) (Nat.le_of_ble_eq_true rfl) hlocks hP hK hD rfl (Or.inl ⟨cd_1 c_8, rfl⟩) (Nat.le_of_ble_eq_true rfl) (Nat.le_of_ble_eq_true rfl)
