
/-- what every method of the class may take as given, on the cells wt -/
def kB (D : va_G) (tys : List (ClassId × FieldType)) (wt : va_W) (sz e0 mi : Nat) (U : State) : Prop := U.heap.size = sz ∧ va_P D cls wt U.heap ∧ va_K D cls tys U ∧ va_D (fun _ => True) wt ∧ nW U ∧ vx_Zq Bundle.tN "UNASSIGNED_STACK" Bundle.steD (va_A wt sz) U U.heap ∧ vx_Zq Bundle.tN "SUPPRESSED_SENTINEL" Bundle.listD (va_A wt sz) U U.heap ∧ sP (va_A wt sz) e0 mi U U.heap
def kP (D : va_G) (tys : List (ClassId × FieldType)) (wt : va_W) (av : List Value) (sz e0 mi : Nat) : Array Value → State → Prop := va_Pc av (kB D tys wt sz e0 mi)
theorem kp_blind {D : va_G} {tys : List (ClassId × FieldType)} {wt : va_W} {av : List Value} {sz e0 mi : Nat} : FrameBlind (kP D tys wt av sz e0 mi) := fun a U g mk q => by
  obtain ⟨q0, q1, qP, qK, qD, qN, qU, qV, qS⟩ := q
  exact ⟨q0, q1, qP, va_K.moved (u := U) (U := U.calling g mk a) (Vm.Alike.refl U.vm) qK, qD, nW.same (s := U) (U := U.calling g mk a) rfl qN, vx_Zq.moved (u := U) (U := U.calling g mk a) (Vm.Alike.refl U.vm) qU, vx_Zq.moved (u := U) (U := U.calling g mk a) (Vm.Alike.refl U.vm) qV, sP.moved (u := U) (U := U.calling g mk a) (Vm.Alike.refl U.vm) qS⟩
theorem va_A_m {ws : va_W} {sz q : Nat} : va_A ws sz q ↔ (∃ e, (q, e) ∈ ws) ∨ sz ≤ q := by
  constructor
  · rintro (⟨k, e, h⟩ | h)
    · exact Or.inl ⟨e, List.mem_of_getElem? h⟩
    · exact Or.inr h
  · rintro (⟨e, h⟩ | h)
    · obtain ⟨k, hk⟩ := List.mem_iff_getElem?.mp h
      exact Or.inl ⟨k, e, hk⟩
    · exact Or.inr h
theorem va_A_s {w1 w2 : va_W} {sz q : Nat} (hs : ∀ x ∈ w1, x ∈ w2) (h : va_A w1 sz q) : va_A w2 sz q := by
  rcases va_A_m.mp h with ⟨e, he⟩ | h
  · exact va_A_m.mpr (Or.inl ⟨e, hs _ he⟩)
  · exact Or.inr h
theorem kB.part {D : va_G} {tys : List (ClassId × FieldType)} {wt wc wr : va_W} {sz e0 mi : Nat} {U : State} (hp : wt.Perm (wc ++ wr)) (h : kB D tys wt sz e0 mi U) : kB D tys wc sz e0 mi U := by
  obtain ⟨q1, qP, qK, qD, qN, qU, qV, qS⟩ := h
  have hs : ∀ q, va_A wc sz q → va_A wt sz q := fun q h => va_A_s (fun x hx => hp.mem_iff.mpr (List.mem_append_left _ hx)) h
  exact ⟨q1, ba_Pl (ba_Pp hp qP), qK, ba_Dl (ba_Dp hp qD), qN, qU.narrow hs, qV.narrow hs, qS.narrow hs⟩
theorem kP.t {D : va_G} {tys : List (ClassId × FieldType)} {wt wc wr : va_W} {av : List Value} {sz e0 mi : Nat} {a : Array Value} {U : State} (hp : wt.Perm (wc ++ wr)) (h : kP D tys wt av sz e0 mi a U) : tP D tys wc av sz a U := by
  obtain ⟨q0, q⟩ := h
  obtain ⟨q1, qP, qK, qD, qN, qU, qV, qS⟩ := q.part hp
  exact ⟨q0, q1, qP, qK, qD, qN, qU, qV⟩
theorem kP.g {D : va_G} {tys : List (ClassId × FieldType)} {wt wc wr : va_W} {av : List Value} {sz e0 mi : Nat} {a : Array Value} {U : State} {C : String} {els : Nat → Prop} (hp : wt.Perm (wc ++ wr)) {ci : Nat} {F : u_T} {N : Nat} (hci : cls[ci]? = some (C, F, N)) (hE : ∀ y, els y → ∃ fs, (y, .inr (ci, fs)) ∈ wr) (h : kP D tys wt av sz e0 mi a U) : gP D tys wc av sz e0 mi C els a U := by
  obtain ⟨q0, q⟩ := h
  have hP := ba_Pp hp q.2.1
  have hD := ba_Dp hp q.2.2.2.1
  obtain ⟨q1, qP, qK, qD, qN, qU, qV, qS⟩ := q.part hp
  refine ⟨q0, q1, qP, qK, qD, qN, qU, qV, qS, fun y hy => ?_⟩
  obtain ⟨fs, hfs⟩ := hE y hy
  obtain ⟨k, hk⟩ := List.mem_iff_getElem?.mp hfs
  refine ⟨va_recv qK (ba_Pr hP) hci hk, ?_⟩
  rw [← q1]
  exact notA hP hD hfs
theorem jn {D : va_G} {tys : List (ClassId × FieldType)} {wt wc wr u : va_W} {av : List Value} {sz e0 mi : Nat} {a : Array Value} {st t : State} (hp : wt.Perm (wc ++ wr)) (h : kP D tys wt av sz e0 mi a st) (hF : va_F (va_A wc sz) st t) (hb : mB D tys (va_A wc sz) u t) : mB D tys (va_A wt sz) (u ++ wr) t ∧ va_F (va_A wt sz) st t := by
  obtain ⟨q0, q1, qP, qK, qD, -⟩ := h
  obtain ⟨hP1, hK1, hD1⟩ := hb
  have hs : ∀ q, va_A wc sz q → va_A wt sz q := fun q h => va_A_s (fun x hx => hp.mem_iff.mpr (List.mem_append_left _ hx)) h
  rw [← q1] at hD1 hF hs ⊢
  obtain ⟨j1, j2⟩ := ba_join (ba_Pp hp qP) (ba_Dp hp (qD.self (sz := st.heap.size))) hF.2 hs hP1 hD1
  exact ⟨⟨j1, hK1, j2⟩, hF.1, fun q h1 h2 => hF.2 q h1 (fun z => h2 (hs q z))⟩


/-- THE FRAME of a method that may throw -/
theorem xframe_i {l : Launch} {y : MethodName} {ws : List Cond} {rm : Room} {mc ms : Nat} {D : va_G} {tys : List (ClassId × FieldType)} {wt wc wr : va_W} {av : List Value} {sz e0 mi : Nat} {φ φ' : Int32 → va_W → Prop} {px px' : va_W → Prop} {xe xe' : String → Prop} {Pc : Array Value → State → Prop}
    (hp : wt.Perm (wc ++ wr)) (hM : vx_Met l y ws rm Pc (va_Qi φ (mB D tys (va_A wc sz)) (va_A wc sz)) (vx_X px (xB D tys (va_A wc sz) xe) (va_A wc sz)) mc ms (va_A wc sz))
    (hPc : ∀ a U, kP D tys wt av sz e0 mi a U → Pc a U) (hφ : ∀ (r : Int32) (u : va_W), φ r u → φ' r (u ++ wr)) (hpx : ∀ u, px u → px' (u ++ wr)) (hxe : ∀ E, xe E → xe' E) :
    vx_Met l y ws rm (kP D tys wt av sz e0 mi) (va_Qi φ' (mB D tys (va_A wt sz)) (va_A wt sz)) (vx_X px' (xB D tys (va_A wt sz) xe') (va_A wt sz)) mc ms (va_A wt sz) := by
  have hs : ∀ q, va_A wc sz q → va_A wt sz q := fun q h => va_A_s (fun x hx => hp.mem_iff.mpr (List.mem_append_left _ hx)) h
  refine MetFree.mono hM hPc (fun _ _ _ _ _ h => h) (fun a st o t hk hq => ?_)
  rcases hq with ⟨⟨⟨r, u, hv, hp9, hb⟩, hF⟩, L, hL, hLf⟩ | ⟨q, ho, E, ce, L, ⟨u, hp1, ⟨hx1, hb⟩, hF⟩, r1, r2, r3, r4, r5, r6⟩
  · obtain ⟨j1, j2⟩ := jn hp hk hF hb
    exact Or.inl ⟨⟨⟨_, u ++ wr, hv, hφ _ _ hp9, j1⟩, j2⟩, L, hL, fun q hq => hs _ (hLf q hq)⟩
  · obtain ⟨j1, j2⟩ := jn hp hk hF hb
    exact Or.inr ⟨q, ho, E, ce, L, ⟨u ++ wr, hpx u hp1, ⟨hxe E hx1, j1⟩, j2⟩, r1, r2, r3, r4, r5, fun z hz => hs _ (r6 z hz)⟩


/-- THE FRAME of a method that may throw -/
theorem xframe_l {l : Launch} {y : MethodName} {ws : List Cond} {rm : Room} {mc ms : Nat} {D : va_G} {tys : List (ClassId × FieldType)} {wt wc wr : va_W} {av : List Value} {sz e0 mi : Nat} {φ φ' : Int64 → va_W → Prop} {px px' : va_W → Prop} {xe xe' : String → Prop} {Pc : Array Value → State → Prop}
    (hp : wt.Perm (wc ++ wr)) (hM : vx_Met l y ws rm Pc (va_Ql φ (mB D tys (va_A wc sz)) (va_A wc sz)) (vx_X px (xB D tys (va_A wc sz) xe) (va_A wc sz)) mc ms (va_A wc sz))
    (hPc : ∀ a U, kP D tys wt av sz e0 mi a U → Pc a U) (hφ : ∀ (r : Int64) (u : va_W), φ r u → φ' r (u ++ wr)) (hpx : ∀ u, px u → px' (u ++ wr)) (hxe : ∀ E, xe E → xe' E) :
    vx_Met l y ws rm (kP D tys wt av sz e0 mi) (va_Ql φ' (mB D tys (va_A wt sz)) (va_A wt sz)) (vx_X px' (xB D tys (va_A wt sz) xe') (va_A wt sz)) mc ms (va_A wt sz) := by
  have hs : ∀ q, va_A wc sz q → va_A wt sz q := fun q h => va_A_s (fun x hx => hp.mem_iff.mpr (List.mem_append_left _ hx)) h
  refine MetFree.mono hM hPc (fun _ _ _ _ _ h => h) (fun a st o t hk hq => ?_)
  rcases hq with ⟨⟨⟨r, u, hv, hp9, hb⟩, hF⟩, L, hL, hLf⟩ | ⟨q, ho, E, ce, L, ⟨u, hp1, ⟨hx1, hb⟩, hF⟩, r1, r2, r3, r4, r5, r6⟩
  · obtain ⟨j1, j2⟩ := jn hp hk hF hb
    exact Or.inl ⟨⟨⟨_, u ++ wr, hv, hφ _ _ hp9, j1⟩, j2⟩, L, hL, fun q hq => hs _ (hLf q hq)⟩
  · obtain ⟨j1, j2⟩ := jn hp hk hF hb
    exact Or.inr ⟨q, ho, E, ce, L, ⟨u ++ wr, hpx u hp1, ⟨hxe E hx1, j1⟩, j2⟩, r1, r2, r3, r4, r5, fun z hz => hs _ (r6 z hz)⟩


/-- THE FRAME of a method that may throw -/
theorem xframe_v {l : Launch} {y : MethodName} {ws : List Cond} {rm : Room} {mc ms : Nat} {D : va_G} {tys : List (ClassId × FieldType)} {wt wc wr : va_W} {av : List Value} {sz e0 mi : Nat} {φ φ' : va_W → Prop} {px px' : va_W → Prop} {xe xe' : String → Prop} {Pc : Array Value → State → Prop}
    (hp : wt.Perm (wc ++ wr)) (hM : vx_Met l y ws rm Pc (va_Qv φ (mB D tys (va_A wc sz)) (va_A wc sz)) (vx_X px (xB D tys (va_A wc sz) xe) (va_A wc sz)) mc ms (va_A wc sz))
    (hPc : ∀ a U, kP D tys wt av sz e0 mi a U → Pc a U) (hφ : ∀ (u : va_W), φ u → φ' (u ++ wr)) (hpx : ∀ u, px u → px' (u ++ wr)) (hxe : ∀ E, xe E → xe' E) :
    vx_Met l y ws rm (kP D tys wt av sz e0 mi) (va_Qv φ' (mB D tys (va_A wt sz)) (va_A wt sz)) (vx_X px' (xB D tys (va_A wt sz) xe') (va_A wt sz)) mc ms (va_A wt sz) := by
  have hs : ∀ q, va_A wc sz q → va_A wt sz q := fun q h => va_A_s (fun x hx => hp.mem_iff.mpr (List.mem_append_left _ hx)) h
  refine MetFree.mono hM hPc (fun _ _ _ _ _ h => h) (fun a st o t hk hq => ?_)
  rcases hq with ⟨⟨⟨u, hv, hp9, hb⟩, hF⟩, L, hL, hLf⟩ | ⟨q, ho, E, ce, L, ⟨u, hp1, ⟨hx1, hb⟩, hF⟩, r1, r2, r3, r4, r5, r6⟩
  · obtain ⟨j1, j2⟩ := jn hp hk hF hb
    exact Or.inl ⟨⟨⟨u ++ wr, hv, hφ _ hp9, j1⟩, j2⟩, L, hL, fun q hq => hs _ (hLf q hq)⟩
  · obtain ⟨j1, j2⟩ := jn hp hk hF hb
    exact Or.inr ⟨q, ho, E, ce, L, ⟨u ++ wr, hpx u hp1, ⟨hxe E hx1, j1⟩, j2⟩, r1, r2, r3, r4, r5, fun z hz => hs _ (r6 z hz)⟩

section XCALL
variable {p : Program} {l : Launch} {e : Env} {R : Room} {s : State} {m : MethodId} {args : Array Value} {below : List Frame} {meth : Method} {c : Code} {H : Heap} {locs : List Loc} {cells slots : Nat} {Q : State → Prop}
variable {mc ms : Nat} {A : Nat → Prop} {H0 : Heap} {a : Array Value} {pc : Nat} {ls : Array Slot} {st0 rest : List Value} {D : va_G} {tys : List (ClassId × FieldType)} {wc wr : va_W}


theorem xcalli {φ : Int32 → va_W → Prop} {px : va_W → Prop} {xe : String → Prop} (hr : vx_Run p l e R s m args below meth c H locs cells slots mc ms (F0 m pc ls st0) rest (va_Qi φ (mB D tys (va_A wc H.size)) (va_A wc H.size) a) (vx_X px (xB D tys (va_A wc H.size) xe) (va_A wc H.size)) (va_A wc H.size)) (hP : va_P D cls (wc ++ wr) H) (hD : va_D A (wc ++ wr)) (hS : va_S A H0 H locs) (hA : ∀ q, H0.size ≤ q → A q)
    (kx : ∀ (E : String) (ce : Cell) (q9 : Addr) (u : va_W) (H : Heap) (locs : List Loc), px u → xe E → va_P D cls (u ++ wr) H → va_D A (u ++ wr) → va_S A H0 H locs → H[q9]? = some ce → ce.vm = .none → s.vm.findClass E = some ce.cls → vx_W p l e R s m args below meth c H locs (cells + mc) (slots + ms) Q (F0 m pc ls rest) q9)
    (kk : ∀ (r : Int32) (u : va_W) (H : Heap) (locs : List Loc), φ r u → va_P D cls (u ++ wr) H → va_D A (u ++ wr) → va_S A H0 H locs → W p l e R s m args below meth c H locs (cells + mc) (slots + ms) Q (F0 m (pc + 3) ls (.int r :: rest))) : W p l e R s m args below meth c H locs cells slots Q (F0 m pc ls st0) := by
  refine vx_calli hr hS (fun q _ h => ba_free hD hS hA q h) (ba_free hD hS hA) (fun q _ h => ba_free hD hS hA q h) ?_ ?_
  · intro E ce q9 u t H1 locs1 ht hvm hpx hB hz1 hk1 hS1 h1 h2 h3
    obtain ⟨hx, hP1, hK1, hD1⟩ := hB
    rw [ht] at hP1
    obtain ⟨hP2, hD2⟩ := ba_join hP hD hk1 (ba_free hD hS hA) hP1 hD1
    exact kx E ce q9 u H1 locs1 hpx hx hP2 hD2 hS1 h1 h2 h3
  · intro r u t H1 locs1 ht hvm hw hB hz1 hk1 hS1
    obtain ⟨hP1, hK1, hD1⟩ := hB
    rw [ht] at hP1
    obtain ⟨hP2, hD2⟩ := ba_join hP hD hk1 (ba_free hD hS hA) hP1 hD1
    exact kk r u H1 locs1 hw hP2 hD2 hS1


theorem xcalll {φ : Int64 → va_W → Prop} {px : va_W → Prop} {xe : String → Prop} (hr : vx_Run p l e R s m args below meth c H locs cells slots mc ms (F0 m pc ls st0) rest (va_Ql φ (mB D tys (va_A wc H.size)) (va_A wc H.size) a) (vx_X px (xB D tys (va_A wc H.size) xe) (va_A wc H.size)) (va_A wc H.size)) (hP : va_P D cls (wc ++ wr) H) (hD : va_D A (wc ++ wr)) (hS : va_S A H0 H locs) (hA : ∀ q, H0.size ≤ q → A q)
    (kx : ∀ (E : String) (ce : Cell) (q9 : Addr) (u : va_W) (H : Heap) (locs : List Loc), px u → xe E → va_P D cls (u ++ wr) H → va_D A (u ++ wr) → va_S A H0 H locs → H[q9]? = some ce → ce.vm = .none → s.vm.findClass E = some ce.cls → vx_W p l e R s m args below meth c H locs (cells + mc) (slots + ms) Q (F0 m pc ls rest) q9)
    (kk : ∀ (r : Int64) (u : va_W) (H : Heap) (locs : List Loc), φ r u → va_P D cls (u ++ wr) H → va_D A (u ++ wr) → va_S A H0 H locs → W p l e R s m args below meth c H locs (cells + mc) (slots + ms) Q (F0 m (pc + 3) ls (.long r :: rest))) : W p l e R s m args below meth c H locs cells slots Q (F0 m pc ls st0) := by
  refine vx_calll hr hS (fun q _ h => ba_free hD hS hA q h) (ba_free hD hS hA) (fun q _ h => ba_free hD hS hA q h) ?_ ?_
  · intro E ce q9 u t H1 locs1 ht hvm hpx hB hz1 hk1 hS1 h1 h2 h3
    obtain ⟨hx, hP1, hK1, hD1⟩ := hB
    rw [ht] at hP1
    obtain ⟨hP2, hD2⟩ := ba_join hP hD hk1 (ba_free hD hS hA) hP1 hD1
    exact kx E ce q9 u H1 locs1 hpx hx hP2 hD2 hS1 h1 h2 h3
  · intro r u t H1 locs1 ht hvm hw hB hz1 hk1 hS1
    obtain ⟨hP1, hK1, hD1⟩ := hB
    rw [ht] at hP1
    obtain ⟨hP2, hD2⟩ := ba_join hP hD hk1 (ba_free hD hS hA) hP1 hD1
    exact kk r u H1 locs1 hw hP2 hD2 hS1


theorem xcallv {φ : va_W → Prop} {px : va_W → Prop} {xe : String → Prop} (hr : vx_Run p l e R s m args below meth c H locs cells slots mc ms (F0 m pc ls st0) rest (va_Qv φ (mB D tys (va_A wc H.size)) (va_A wc H.size) a) (vx_X px (xB D tys (va_A wc H.size) xe) (va_A wc H.size)) (va_A wc H.size)) (hP : va_P D cls (wc ++ wr) H) (hD : va_D A (wc ++ wr)) (hS : va_S A H0 H locs) (hA : ∀ q, H0.size ≤ q → A q)
    (kx : ∀ (E : String) (ce : Cell) (q9 : Addr) (u : va_W) (H : Heap) (locs : List Loc), px u → xe E → va_P D cls (u ++ wr) H → va_D A (u ++ wr) → va_S A H0 H locs → H[q9]? = some ce → ce.vm = .none → s.vm.findClass E = some ce.cls → vx_W p l e R s m args below meth c H locs (cells + mc) (slots + ms) Q (F0 m pc ls rest) q9)
    (kk : ∀ (u : va_W) (H : Heap) (locs : List Loc), φ u → va_P D cls (u ++ wr) H → va_D A (u ++ wr) → va_S A H0 H locs → W p l e R s m args below meth c H locs (cells + mc) (slots + ms) Q (F0 m (pc + 3) ls rest)) : W p l e R s m args below meth c H locs cells slots Q (F0 m pc ls st0) := by
  refine vx_callv hr hS (fun q _ h => ba_free hD hS hA q h) (ba_free hD hS hA) (fun q _ h => ba_free hD hS hA q h) ?_ ?_
  · intro E ce q9 u t H1 locs1 ht hvm hpx hB hz1 hk1 hS1 h1 h2 h3
    obtain ⟨hx, hP1, hK1, hD1⟩ := hB
    rw [ht] at hP1
    obtain ⟨hP2, hD2⟩ := ba_join hP hD hk1 (ba_free hD hS hA) hP1 hD1
    exact kx E ce q9 u H1 locs1 hpx hx hP2 hD2 hS1 h1 h2 h3
  · intro u t H1 locs1 ht hvm hw hB hz1 hk1 hS1
    obtain ⟨hP1, hK1, hD1⟩ := hB
    rw [ht] at hP1
    obtain ⟨hP2, hD2⟩ := ba_join hP hD hk1 (ba_free hD hS hA) hP1 hD1
    exact kk u H1 locs1 hw hP2 hD2 hS1

end XCALL
theorem kV {s : State} {H : Heap} {locs : List Loc} {A : Nat → Prop} {D : va_G} {tys : List (ClassId × FieldType)} {wc wr : va_W} {e0 mi o : Nat} {As : List Value} (hP : va_P D cls (wc ++ wr) H) (hD : va_D A (wc ++ wr)) (hK : va_K D cls tys s) (hN : nW s) (hS : va_S A s.heap H locs) (hA : ∀ q, s.heap.size ≤ q → A q) (hU : vx_Zq Bundle.tN "UNASSIGNED_STACK" Bundle.steD A s s.heap) (hV : vx_Zq Bundle.tN "SUPPRESSED_SENTINEL" Bundle.listD A s s.heap) (hsP : sP A e0 mi s s.heap) (hr : ∃ fs, (o, .inr (3, fs)) ∈ wc) : PreV s H "RubbingMirrors" o (kP D tys wc (.ref o :: As) H.size e0 mi) As := by
  have hF := ba_free hD hS hA
  obtain ⟨fs, hfs⟩ := hr
  obtain ⟨k, hk⟩ := List.mem_iff_getElem?.mp hfs
  refine ⟨kp_blind, va_recv hK (ba_Pl hP) (ci := 3) rfl hk, fun U hU9 hW => ⟨rfl, by rw [hU9], by rw [hU9]; exact ba_Pl hP, va_K.moved hW.alike hK, (ba_Dl hD).weaken (fun _ _ _ _ => trivial), hN.warm hW, ?_, ?_, ?_⟩⟩
  · rw [hU9]; exact ((hU.kept hS.2.1).narrow hF).moved hW.alike
  · rw [hU9]; exact ((hV.kept hS.2.1).narrow hF).moved hW.alike
  · rw [hU9]; exact ((hsP.kept hS.2.1).narrow hF).moved hW.alike
theorem kS {s : State} {H : Heap} {locs : List Loc} {A : Nat → Prop} {D : va_G} {tys : List (ClassId × FieldType)} {wc wr : va_W} {e0 mi : Nat} {As : List Value} (hP : va_P D cls (wc ++ wr) H) (hD : va_D A (wc ++ wr)) (hK : va_K D cls tys s) (hN : nW s) (hS : va_S A s.heap H locs) (hA : ∀ q, s.heap.size ≤ q → A q) (hU : vx_Zq Bundle.tN "UNASSIGNED_STACK" Bundle.steD A s s.heap) (hV : vx_Zq Bundle.tN "SUPPRESSED_SENTINEL" Bundle.listD A s s.heap) (hsP : sP A e0 mi s s.heap) : PreS s H (kP D tys wc As H.size e0 mi) As := by
  have hF := ba_free hD hS hA
  refine ⟨kp_blind, fun U hU9 hW => ⟨rfl, by rw [hU9], by rw [hU9]; exact ba_Pl hP, va_K.moved hW.alike hK, (ba_Dl hD).weaken (fun _ _ _ _ => trivial), hN.warm hW, ?_, ?_, ?_⟩⟩
  · rw [hU9]; exact ((hU.kept hS.2.1).narrow hF).moved hW.alike
  · rw [hU9]; exact ((hV.kept hS.2.1).narrow hF).moved hW.alike
  · rw [hU9]; exact ((hsP.kept hS.2.1).narrow hF).moved hW.alike
/-- a method with an exception table that returns always -/
theorem met_ofWH {l : Launch} {y : MethodName} {ws ws' : List Cond} {rm : Room} {Pc : Array Value → State → Prop} {Qc : Array Value → State → Outcome → State → Prop} {mc ms : Nat} {free : Addr → Prop} {cc : ByteArray} {maxL : Nat} {ret : Option FieldType} {hh : List (Nat × Nat × Nat × Nat)}
    (hy : plainName y.cls = true) (hw : ws = Cond.codeWith y cc maxL ret hh :: ws')
    (body : ∀ p e s m args below meth c s₁, BodyLoose p l y (headSpec ws rm) cc maxL ret e s m args below meth c s₁ → c.maxLocals = maxL → Pc args s →
      W p l e (headSpec ws rm).room s m args below meth c s.heap [] 0 0 (MQ below Qc args s mc ms free) (entryFrame m args maxL)) : Met l y ws rm Pc Qc mc ms free := by
  refine MetFree.of_bodyS (code := cc) (maxLocals := maxL) (ret := ret) hy ?_ ?_
  · intro args s m h hn
    obtain ⟨m9, meth, c, hn9, h1, h2, h3, h4, -, h5, h6, -⟩ := Cond.codeWith_spec (atoms_spec (ws := ws) h _ (by rw [hw]; exact List.mem_cons_self))
    cases hn.symm.trans hn9
    exact ⟨meth, c, h1, h2, h3, h4, h5, h6⟩
  · intro p e s m args below meth c s₁ B hml hP _
    have hh0 : s₁.heap = s.heap := by rw [B.state]; rfl
    obtain ⟨t, a1, o, b1, b2, b3⟩ := body p e s m args below meth c s₁ B hml hP s₁ hh0 (Stand.of_body B)
    exact ⟨t, o, a1, b1, b2, ⟨b3.1, b3.2⟩⟩
abbrev wqW (y : MethodName) (b : ByteArray) (mL : Nat) (ret : Option FieldType) (hh : List (Nat × Nat × Nat × Nat)) : List Cond := Cond.codeWith y b mL ret hh :: GT
theorem gt_hW {args : Array Value} {s : State} {y : MethodName} {b : ByteArray} {mL : Nat} {ret : Option FieldType} {hh : List (Nat × Nat × Nat × Nat)} (h : ∀ w ∈ wqW y b mL ret hh, w.before args s = true) : ∀ w ∈ GT, w.before args s = true := fun w hw => h w (List.mem_cons_of_mem _ hw)
theorem gqW {own : String} {idx : Nat} {y : MethodName} {b : ByteArray} {mL : Nat} {ret : Option FieldType} {hh : List (Nat × Nat × Nat × Nat)} (h1 : Cond.methodLink own idx y ∈ GT) (h2 : Cond.static y ∈ GT) (h4 : Cond.initialized y.cls ∈ GT) (h : Cond.codeWith y b mL ret hh ∈ GT) : GoodIn GT (va_wsS own idx y (wqW y b mL ret hh)) := by
  intro w hw
  rcases List.mem_append.mp hw with hw | hw
  · simp only [List.mem_cons, List.not_mem_nil, or_false] at hw
    rcases hw with rfl | rfl | rfl
    · exact gt_g h1
    · exact gt_g h2
    · exact gt_g h4
  · exact gt_g ((List.mem_cons.mp hw).elim (fun e => e ▸ h) id)
