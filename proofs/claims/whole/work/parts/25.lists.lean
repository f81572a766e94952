
/-- an object of class C at y -/
def eP (C : String) (U : State) (H : Heap) (y : Nat) : Prop := ∃ cell : Cell, H[y]? = some cell ∧ cell.vm.isStatics = false ∧ U.vm.findClass C = some cell.cls
theorem eP.moved {C : String} {u U : State} {H : Heap} {y : Nat} (hvm : u.vm.Alike U.vm) (h : eP C u H y) : eP C U H y := by
  obtain ⟨cell, h1, h2, h3⟩ := h
  exact ⟨cell, h1, h2, by rw [hvm.findClass]; exact h3⟩
theorem eP.lt {C : String} {U : State} {H : Heap} {y : Nat} (h : eP C U H y) : y < H.size := by
  obtain ⟨cell, h1, -⟩ := h
  exact (Array.getElem?_eq_some_iff.mp h1).1
theorem eP.kept {C : String} {U : State} {H H1 : Heap} {y : Nat} (h : eP C U H y) (hq : H1[y]? = H[y]?) : eP C U H1 y := by
  obtain ⟨cell, h1, h2⟩ := h
  exact ⟨cell, by rw [hq]; exact h1, h2⟩
/-- ArrayList's own empty array, and the class object of Object[] -/
def sP (A : Nat → Prop) (e0 mi : Nat) (U : State) (H : Heap) : Prop := va_Z "java/util/ArrayList" "DEFAULTCAPACITY_EMPTY_ELEMENTDATA" "[Ljava/lang/Object;" (.ref e0) A U H ∧ va_T (.object "java/lang/Object") e0 0 (fun _ => .null) A U H ∧ va_Mi "[Ljava/lang/Object;" mi U
theorem sP.moved {A : Nat → Prop} {e0 mi : Nat} {u U : State} {H : Heap} (hvm : u.vm.Alike U.vm) (h : sP A e0 mi u H) : sP A e0 mi U H := ⟨h.1.moved hvm, h.2.1.moved hvm, h.2.2.moved hvm⟩
theorem sP.kept {A : Nat → Prop} {e0 mi : Nat} {U : State} {H H1 : Heap} (h : sP A e0 mi U H) (hq : ∀ a : Nat, a < H.size → ¬ A a → H1[a]? = H[a]?) : sP A e0 mi U H1 := ⟨h.1.kept hq, h.2.1.kept hq, h.2.2⟩
theorem sP.narrow {A B : Nat → Prop} {e0 mi : Nat} {U : State} {H : Heap} (h : sP A e0 mi U H) (hAB : ∀ q, B q → A q) : sP B e0 mi U H := ⟨h.1.narrow hAB, h.2.1.narrow hAB, h.2.2⟩
/-- the start of a method of a list: els are the elements, all of class C -/
def lP (D : va_G) (tys : List (ClassId × FieldType)) (ws : va_W) (av : List Value) (sz e0 mi : Nat) (C : String) (els : Nat → Prop) : Array Value → State → Prop := va_Pc av (fun U => U.heap.size = sz ∧ va_P D cls ws U.heap ∧ va_K D cls tys U ∧ va_D (fun _ => True) ws ∧ nW U ∧ sP (va_A ws sz) e0 mi U U.heap ∧ ∀ y, els y → eP C U U.heap y ∧ ¬ va_A ws sz y)
theorem lp_blind {D : va_G} {tys : List (ClassId × FieldType)} {ws : va_W} {av : List Value} {sz e0 mi : Nat} {C : String} {els : Nat → Prop} : FrameBlind (lP D tys ws av sz e0 mi C els) := fun a U g mk q => by
  obtain ⟨q0, q1, qP, qK, qD, qN, qS, qE⟩ := q
  exact ⟨q0, q1, qP, va_K.moved (u := U) (U := U.calling g mk a) (Vm.Alike.refl U.vm) qK, qD, nW.same (s := U) (U := U.calling g mk a) rfl qN, sP.moved (u := U) (U := U.calling g mk a) (Vm.Alike.refl U.vm) qS, fun y hy => ⟨eP.moved (u := U) (U := U.calling g mk a) (Vm.Alike.refl U.vm) (qE y hy).1, (qE y hy).2⟩⟩
theorem lPre {s : State} {H : Heap} {locs : List Loc} {A : Nat → Prop} {D : va_G} {tys : List (ClassId × FieldType)} {wc wr : va_W} {e0 mi : Nat} {C : String} {els els' : Nat → Prop} (hP : va_P D cls (wc ++ wr) H) (hD : va_D A (wc ++ wr)) (hK : va_K D cls tys s) (hN : nW s) (hS : va_S A s.heap H locs) (hA : ∀ q, s.heap.size ≤ q → A q) (hsP : sP A e0 mi s s.heap) (hEl : ∀ y, els y → eP C s s.heap y ∧ ¬ A y) (hsub : ∀ y, els' y → els y) (U : State) (hU : U.heap = H) (hW : s.WarmedH U.vm) :
    U.heap.size = H.size ∧ va_P D cls wc U.heap ∧ va_K D cls tys U ∧ va_D (fun _ => True) wc ∧ nW U ∧ sP (va_A wc H.size) e0 mi U U.heap ∧ ∀ y, els' y → eP C U U.heap y ∧ ¬ va_A wc H.size y := by
  have hF := ba_free hD hS hA
  refine ⟨by rw [hU], by rw [hU]; exact ba_Pl hP, va_K.moved hW.alike hK, (ba_Dl hD).weaken (fun _ _ _ _ => trivial), hN.warm hW, ?_, fun y hy => ?_⟩
  · rw [hU]; exact ((hsP.kept hS.2.1).narrow hF).moved hW.alike
  · obtain ⟨h1, h2⟩ := hEl y (hsub y hy)
    rw [hU]
    exact ⟨(h1.kept (hS.2.1 y h1.lt h2)).moved hW.alike, fun q => h2 (hF y q)⟩
theorem va_any_of {C : String} {s : State} {H : Heap} {y : Nat} (hN : nW s) (hc : Cond.castable C "java/lang/Object" ∈ NWL) (h : eP C s H y) : va_Any "java/lang/Object" s H y := by
  obtain ⟨cell, h1, h2, h3⟩ := h
  obtain ⟨c1, c2, e1, e2, e3⟩ := Cond.castable_spec (args := #[]) (hN.1 _ hc)
  obtain ⟨kC, hkC, -⟩ := Vm.findClass_spec h3
  exact ⟨cell, h1, h2, ⟨kC, hkC⟩, fun comp hh => by cases e2.symm.trans hh; cases e1.symm.trans h3; exact e3⟩
section MCALLR
variable {p : Program} {l : Launch} {e : Env} {R : Room} {s : State} {m : MethodId} {args : Array Value} {below : List Frame} {meth : Method} {c : Code} {H : Heap} {locs : List Loc} {cells slots : Nat} {Q : State → Prop}
variable {mc ms : Nat} {A : Nat → Prop} {H0 : Heap} {a : Array Value} {pc : Nat} {ls : Array Slot} {st0 rest : List Value} {D : va_G} {tys : List (ClassId × FieldType)} {wc wr : va_W}
theorem mcallr {φ : va_W → Nat → Prop} (hr : va_Run p l e R s m args below meth c H locs cells slots mc ms (F0 m pc ls st0) rest (va_Qr (fun _ : va_W => True) (fun u ra t => φ u ra ∧ mB D tys (va_A wc H.size) u t) (va_A wc H.size) a) (va_A wc H.size)) (hP : va_P D cls (wc ++ wr) H) (hD : va_D A (wc ++ wr)) (hS : va_S A H0 H locs) (hA : ∀ q, H0.size ≤ q → A q)
    (kk : ∀ (u : va_W) (ra : Nat) (H : Heap) (locs : List Loc), φ u ra → va_P D cls (u ++ wr) H → va_D A (u ++ wr) → va_S A H0 H locs → W p l e R s m args below meth c H locs (cells + mc) (slots + ms) Q (F0 m (pc + 3) ls (.ref ra :: rest))) : W p l e R s m args below meth c H locs cells slots Q (F0 m pc ls st0) := by
  refine va_callr hr hS (fun q _ h => ba_free hD hS hA q h) (ba_free hD hS hA) (fun u ra t H1 locs1 ht hvm hw hB hz1 hk1 hS1 => ?_)
  obtain ⟨hφ, hP1, hK1, hD1⟩ := hB
  rw [ht] at hP1
  obtain ⟨hP2, hD2⟩ := ba_join hP hD hk1 (ba_free hD hS hA) hP1 hD1
  exact kk u ra H1 locs1 hφ hP2 hD2 hS1
end MCALLR

set_option maxHeartbeats 4000000 in
set_option maxRecDepth 100000 in
/-- AbstractCollection() -/
theorem c_AC_init_ok (l : Launch) (D : va_G) (cI cZ cJ cO : ClassId) (sz : Nat) (la : Nat) (x1 x2 : Int32) : Met l y_AC_init (wq y_AC_init c_AC_init 1 none) ({ frames := 1, cells := 0, slots := 0, locals := 24 }) (mP D (TY cI cZ cJ cO) [(la, .inr (0, [.int x1, .null, .int x2]))] [.ref la] sz) (va_Qv (fun (u : va_W) => u = [(la, .inr (0, [.int x1, .null, .int x2]))]) (mB D (TY cI cZ cJ cO) (va_A [(la, .inr (0, [.int x1, .null, .int x2]))] sz)) (va_A [(la, .inr (0, [.int x1, .null, .int x2]))] sz)) 0 0 (va_A [(la, .inr (0, [.int x1, .null, .int x2]))] sz) := by
  refine Met.ofW (cc := c_AC_init) (maxL := 1) (ret := none) (by decide) rfl ?_
  intro p e s m args below meth c s₁ B hml hv
  obtain ⟨rfl, hsz, hP, hK, hD0, hN⟩ := hv
  have hx := B.exec
  have hb := B.bytes
  have hr := B.returns
  have hg := gt_h (atoms_spec (ws := (wq y_AC_init c_AC_init 1 none)) B.pre)
  have hown : s.vm.findClass "java/util/AbstractCollection" = some m.cls := findClass_of_methodNamed B.named
  have hlocks := B.notSynchronized
  have hin : meth.name = "<init>" := (name_of_methodNamed B.named B.method).1
  subst hsz
  have hD := hD0.self (sz := s.heap.size)
  generalize hAe : va_A [(la, .inr (0, [.int x1, .null, .int x2]))] s.heap.size = A at hD ⊢
  have hA : ∀ q : Nat, s.heap.size ≤ q → A q := fun q h => by rw [← hAe]; exact Or.inr h
  have hS : va_S A s.heap s.heap [] := va_S.rf
  have hl := lv_entry ([.ref la]) (n := 1) (Nat.le_of_ble_eq_true rfl)
  rw [lg_entry_eq]
  generalize (lg_sl ([.ref la]) ++ List.replicate (1 - (lg_sl ([.ref la])).length) Slot.unset).toArray = ls at hl ⊢
  have hl : lv_has ls 1 [(0, .ref la)] := hl
  refine lv_aload_n hx hb d_AC_init_0 rfl (lv_at hl 0 rfl) ?_
  refine W.objInit hx hb hown (hg _ g_59) (hg _ g_46) (hg _ g_47) rfl (by rw [hml]; exact hl.1) rfl d_AC_init_1 (Nat.le_of_ble_eq_true rfl) (Nat.le_of_ble_eq_true rfl) ?_
  refine W.eq (g2 := F0 m 4 ls []) rfl ?_
  exact W.vret hx hb hr (fun t9 ht hW => ⟨⟨[(la, .inr (0, [.int x1, .null, .int x2]))], rfl, rfl, by rw [ht]; exact hP, va_K.moved hW.alike hK, hD⟩, hS.F ht⟩) hS.2.2 d_AC_init_4

set_option maxHeartbeats 4000000 in
set_option maxRecDepth 100000 in
/-- AbstractList() -/
theorem c_AL_init_ok (l : Launch) (D : va_G) (cI cZ cJ cO : ClassId) (sz : Nat) (la : Nat) (x1 x2 : Int32) : Met l y_AL_init (wq y_AL_init c_AL_init 1 none) ({ frames := 2, cells := 0, slots := 0, locals := 44 }) (mP D (TY cI cZ cJ cO) [(la, .inr (0, [.int x1, .null, .int x2]))] [.ref la] sz) (va_Qv (fun (u : va_W) => u = [(la, .inr (0, [.int 0, .null, .int x2]))]) (mB D (TY cI cZ cJ cO) (va_A [(la, .inr (0, [.int x1, .null, .int x2]))] sz)) (va_A [(la, .inr (0, [.int x1, .null, .int x2]))] sz)) 0 0 (va_A [(la, .inr (0, [.int x1, .null, .int x2]))] sz) := by
  refine Met.ofW (cc := c_AL_init) (maxL := 1) (ret := none) (by decide) rfl ?_
  intro p e s m args below meth c s₁ B hml hv
  obtain ⟨rfl, hsz, hP, hK, hD0, hN⟩ := hv
  have hx := B.exec
  have hb := B.bytes
  have hr := B.returns
  have hg := gt_h (atoms_spec (ws := (wq y_AL_init c_AL_init 1 none)) B.pre)
  have hown : s.vm.findClass "java/util/AbstractList" = some m.cls := findClass_of_methodNamed B.named
  have hlocks := B.notSynchronized
  have hin : meth.name = "<init>" := (name_of_methodNamed B.named B.method).1
  subst hsz
  have hD := hD0.self (sz := s.heap.size)
  generalize hAe : va_A [(la, .inr (0, [.int x1, .null, .int x2]))] s.heap.size = A at hD ⊢
  have hA : ∀ q : Nat, s.heap.size ≤ q → A q := fun q h => by rw [← hAe]; exact Or.inr h
  have hS : va_S A s.heap s.heap [] := va_S.rf
  have hl := lv_entry ([.ref la]) (n := 1) (Nat.le_of_ble_eq_true rfl)
  rw [lg_entry_eq]
  generalize (lg_sl ([.ref la]) ++ List.replicate (1 - (lg_sl ([.ref la])).length) Slot.unset).toArray = ls at hl ⊢
  have hl : lv_has ls 1 [(0, .ref la)] := hl
  refine lv_aload_n hx hb d_AL_init_0 rfl (lv_at hl 0 rfl) ?_
  have hP := hP.sub (ws' := [(la, .inr (0, [.int x1, .null, .int x2]))] ++ []) [0] rfl
  have hD := hD.sub (ws' := [(la, .inr (0, [.int x1, .null, .int x2]))] ++ []) [0] (by decide) rfl
  refine mcallv (wc := [(la, .inr (0, [.int x1, .null, .int x2]))]) (wr := []) (va_runI (As := []) (rest := []) ⟨hx, hb, hml, hown, hg⟩ (c_AC_init_ok l D cI cZ cJ cO s.heap.size la x1 x2) (cwI 0 hg (gq g_58) rfl rfl rfl (hg _ g_19) (hg _ g_56) (hg _ g_57) rfl (by decide +kernel) ⟨Nat.le_of_ble_eq_true rfl, Nat.le_of_ble_eq_true rfl⟩) (mS (As := .ref la :: []) (ba_Pl hP) hK hN (ba_Dl hD)) rfl rfl hl.1 rfl (lv_room (Nat.le_of_ble_eq_true rfl)) d_AL_init_1 ⟨Nat.le_of_ble_eq_true rfl, Nat.le_of_ble_eq_true rfl⟩) hP hD hS hA (fun u_1 H locs hu_1 hP hD hS => ?_)
  subst hu_1
  have hP : va_P D cls [(la, .inr (0, [.int x1, .null, .int x2]))] H := hP
  have hD : va_D A [(la, .inr (0, [.int x1, .null, .int x2]))] := hD
  refine lv_aload_n hx hb d_AL_init_4 rfl (lv_at hl 0 rfl) ?_
  refine lv_iconst (v := 0) hx hb d_AL_init_5 (by decide) ?_
  refine va_put (D := D) (ci := 0) (v := .int 0) (ty := .int) (C := Q_A) (T := F_A) (N := 3) hx hb hg in_A tq_A tq_A_ok n_A hown hK hP hD hS 0 rfl rfl 0 (by decide) (hg _ g_64) (fun _ h9 => h9) rfl (by decide +kernel) rfl rfl (Nat.le_of_ble_eq_true rfl) d_AL_init_6 (fun H locs hP hD hS => ?_)
  have hP : va_P D cls [(la, .inr (0, [.int 0, .null, .int x2]))] H := hP
  have hD : va_D A [(la, .inr (0, [.int 0, .null, .int x2]))] := hD
  exact W.vret hx hb hr (fun t9 ht hW => ⟨⟨[(la, .inr (0, [.int 0, .null, .int x2]))], rfl, rfl, by rw [ht]; exact hP, va_K.moved hW.alike hK, hD⟩, hS.F ht⟩) hS.2.2 d_AL_init_9

set_option maxHeartbeats 4000000 in
set_option maxRecDepth 100000 in
/-- ArrayList() -/
theorem c_A_init_ok (l : Launch) (D : va_G) (cI cZ cJ cO : ClassId) (sz e0 mi : Nat) (C : String) (hCO : Cond.castable C "java/lang/Object" ∈ NWL) (els : Nat → Prop) (la : Nat) : Met l y_A_init (wq y_A_init c_A_init 1 none) ({ frames := 3, cells := 0, slots := 0, locals := 64 }) (lP D (TY cI cZ cJ cO) [(la, .inr (0, [.int 0, .null, .int 0]))] [.ref la] sz e0 mi C els) (va_Qv (fun (u : va_W) => u = [(la, .inr (0, [.int 0, .ref e0, .int 0]))]) (mB D (TY cI cZ cJ cO) (va_A [(la, .inr (0, [.int 0, .null, .int 0]))] sz)) (va_A [(la, .inr (0, [.int 0, .null, .int 0]))] sz)) 0 0 (va_A [(la, .inr (0, [.int 0, .null, .int 0]))] sz) := by
  refine Met.ofW (cc := c_A_init) (maxL := 1) (ret := none) (by decide) rfl ?_
  intro p e s m args below meth c s₁ B hml hv
  obtain ⟨rfl, hsz, hP, hK, hD0, hN, hsP, hEl⟩ := hv
  have hx := B.exec
  have hb := B.bytes
  have hr := B.returns
  have hg := gt_h (atoms_spec (ws := (wq y_A_init c_A_init 1 none)) B.pre)
  have hown : s.vm.findClass "java/util/ArrayList" = some m.cls := findClass_of_methodNamed B.named
  have hlocks := B.notSynchronized
  have hMi := hsP.2.2
  have hin : meth.name = "<init>" := (name_of_methodNamed B.named B.method).1
  subst hsz
  have hD := hD0.self (sz := s.heap.size)
  generalize hAe : va_A [(la, .inr (0, [.int 0, .null, .int 0]))] s.heap.size = A at hD hsP hEl ⊢
  have hA : ∀ q : Nat, s.heap.size ≤ q → A q := fun q h => by rw [← hAe]; exact Or.inr h
  have hS : va_S A s.heap s.heap [] := va_S.rf
  have hl := lv_entry ([.ref la]) (n := 1) (Nat.le_of_ble_eq_true rfl)
  rw [lg_entry_eq]
  generalize (lg_sl ([.ref la]) ++ List.replicate (1 - (lg_sl ([.ref la])).length) Slot.unset).toArray = ls at hl ⊢
  have hl : lv_has ls 1 [(0, .ref la)] := hl
  refine lv_aload_n hx hb d_A_init_0 rfl (lv_at hl 0 rfl) ?_
  have hP := hP.sub (ws' := [(la, .inr (0, [.int 0, .null, .int 0]))] ++ []) [0] rfl
  have hD := hD.sub (ws' := [(la, .inr (0, [.int 0, .null, .int 0]))] ++ []) [0] (by decide) rfl
  refine mcallv (wc := [(la, .inr (0, [.int 0, .null, .int 0]))]) (wr := []) (va_runI (As := []) (rest := []) ⟨hx, hb, hml, hown, hg⟩ (c_AL_init_ok l D cI cZ cJ cO s.heap.size la 0 0) (cwI 0 hg (gq g_55) rfl rfl rfl (hg _ g_20) (hg _ g_53) (hg _ g_54) rfl (by decide +kernel) ⟨Nat.le_of_ble_eq_true rfl, Nat.le_of_ble_eq_true rfl⟩) (mS (As := .ref la :: []) (ba_Pl hP) hK hN (ba_Dl hD)) rfl rfl hl.1 rfl (lv_room (Nat.le_of_ble_eq_true rfl)) d_A_init_1 ⟨Nat.le_of_ble_eq_true rfl, Nat.le_of_ble_eq_true rfl⟩) hP hD hS hA (fun u_1 H locs hu_1 hP hD hS => ?_)
  subst hu_1
  have hP : va_P D cls [(la, .inr (0, [.int 0, .null, .int 0]))] H := hP
  have hD : va_D A [(la, .inr (0, [.int 0, .null, .int 0]))] := hD
  refine lv_aload_n hx hb d_A_init_4 rfl (lv_at hl 0 rfl) ?_
  refine va_gets (v := .ref e0) hx hb hsP.1 hS hown (hg _ g_60) (fun _ h9 => h9) d_A_init_5 ?_
  refine va_put (D := D) (ci := 0) (v := .ref e0) (ty := .array (.object "java/lang/Object")) (C := Q_A) (T := F_A) (N := 3) hx hb hg in_A tq_A tq_A_ok n_A hown hK hP hD hS 0 rfl rfl 1 (by decide) (hg _ g_62) (fun _ h9 => h9) rfl (by decide +kernel) rfl rfl (Nat.le_of_ble_eq_true rfl) d_A_init_8 (fun H locs hP hD hS => ?_)
  have hP : va_P D cls [(la, .inr (0, [.int 0, .ref e0, .int 0]))] H := hP
  have hD : va_D A [(la, .inr (0, [.int 0, .ref e0, .int 0]))] := hD
  exact W.vret hx hb hr (fun t9 ht hW => ⟨⟨[(la, .inr (0, [.int 0, .ref e0, .int 0]))], rfl, rfl, by rw [ht]; exact hP, va_K.moved hW.alike hK, hD⟩, hS.F ht⟩) hS.2.2 d_A_init_11

set_option maxHeartbeats 4000000 in
set_option maxRecDepth 100000 in
/-- size() -/
theorem c_A_size_ok (l : Launch) (D : va_G) (cI cZ cJ cO : ClassId) (la : Nat) (x1 x2 : Int32) (ea : Nat) : Met l y_A_size (wq y_A_size c_A_size 1 (some .int)) ({ frames := 0, cells := 0, slots := 0, locals := 0 }) (rP D (TY cI cZ cJ cO) [(la, .inr (0, [.int x1, .ref ea, .int x2]))] [.ref la]) (vp_Si (fun r => r = x2)) 0 0 (fun _ => False) := by
  refine Met.ofW (cc := c_A_size) (maxL := 1) (ret := (some .int)) (by decide) rfl ?_
  intro p e s m args below meth c s₁ B hml hv
  obtain ⟨rfl, hP, hK, hN⟩ := hv
  have hx := B.exec
  have hb := B.bytes
  have hr := B.returns
  have hg := gt_h (atoms_spec (ws := (wq y_A_size c_A_size 1 (some .int))) B.pre)
  have hown : s.vm.findClass "java/util/ArrayList" = some m.cls := findClass_of_methodNamed B.named
  have hlocks := B.notSynchronized
  have hl := lv_entry ([.ref la]) (n := 1) (Nat.le_of_ble_eq_true rfl)
  rw [lg_entry_eq]
  generalize (lg_sl ([.ref la]) ++ List.replicate (1 - (lg_sl ([.ref la])).length) Slot.unset).toArray = ls at hl ⊢
  have hl : lv_has ls 1 [(0, .ref la)] := hl
  refine lv_aload_n hx hb d_A_size_0 rfl (lv_at hl 0 rfl) ?_
  refine va_get (D := D) (ci := 0) (v := .int x2) (C := Q_A) (T := F_A) (N := 3) hx hb hg in_A hown hK hP 0 rfl rfl 2 (by decide) (hg _ g_63) (fun _ h9 => h9) rfl d_A_size_1 ?_
  exact W.iret hx hb hr (fun t9 ht hW => ⟨_, rfl, rfl, ht⟩) t_nil2 d_A_size_4

set_option maxHeartbeats 4000000 in
set_option maxRecDepth 100000 in
/-- isEmpty() -/
theorem c_A_isEmpty_ok (l : Launch) (D : va_G) (cI cZ cJ cO : ClassId) (la : Nat) (x1 x2 : Int32) (ea : Nat) : Met l y_A_isEmpty (wq y_A_isEmpty c_A_isEmpty 1 (some .boolean)) ({ frames := 0, cells := 0, slots := 0, locals := 0 }) (rP D (TY cI cZ cJ cO) [(la, .inr (0, [.int x1, .ref ea, .int x2]))] [.ref la]) (vp_Si (fun r => r = bI (decide (x2 = 0)))) 0 0 (fun _ => False) := by
  refine Met.ofW (cc := c_A_isEmpty) (maxL := 1) (ret := (some .boolean)) (by decide) rfl ?_
  intro p e s m args below meth c s₁ B hml hv
  obtain ⟨rfl, hP, hK, hN⟩ := hv
  have hx := B.exec
  have hb := B.bytes
  have hr := B.returns
  have hg := gt_h (atoms_spec (ws := (wq y_A_isEmpty c_A_isEmpty 1 (some .boolean))) B.pre)
  have hown : s.vm.findClass "java/util/ArrayList" = some m.cls := findClass_of_methodNamed B.named
  have hlocks := B.notSynchronized
  have hl := lv_entry ([.ref la]) (n := 1) (Nat.le_of_ble_eq_true rfl)
  rw [lg_entry_eq]
  generalize (lg_sl ([.ref la]) ++ List.replicate (1 - (lg_sl ([.ref la])).length) Slot.unset).toArray = ls at hl ⊢
  have hl : lv_has ls 1 [(0, .ref la)] := hl
  refine lv_aload_n hx hb d_A_isEmpty_0 rfl (lv_at hl 0 rfl) ?_
  refine va_get (D := D) (ci := 0) (v := .int x2) (C := Q_A) (T := F_A) (N := 3) hx hb hg in_A hown hK hP 0 rfl rfl 2 (by decide) (hg _ g_63) (fun _ h9 => h9) rfl d_A_isEmpty_1 ?_
  refine lv_if_ne (tgt := 11) hx hb d_A_isEmpty_4 (by decide) (fun c_4 => ?_) (fun c_4 => ?_)
  · refine lv_iconst (v := 0) hx hb d_A_isEmpty_11 (by decide) ?_
    exact W.zret hx hb hr (by decide) (fun t9 ht hW => ⟨_, rfl, (by simp [bI, c_4]), ht⟩) t_nil2 d_A_isEmpty_12
  · refine lv_iconst (v := 1) hx hb d_A_isEmpty_7 (by decide) ?_
    refine lv_goto (tgt := 12) hx hb d_A_isEmpty_8 (by decide) ?_
    exact W.zret hx hb hr (by decide) (fun t9 ht hW => ⟨_, rfl, (by simp [bI, c_4]), ht⟩) t_nil2 d_A_isEmpty_12
