
/-- a writer's start: the cells ws, apart; sz cells in all -/
def mP (D : va_G) (tys : List (ClassId × FieldType)) (ws : va_W) (av : List Value) (sz : Nat) : Array Value → State → Prop := va_Pc av (fun U => U.heap.size = sz ∧ va_P D cls ws U.heap ∧ va_K D cls tys U ∧ va_D (fun _ => True) ws ∧ nW U)
/-- a writer's end: the cells u -/
def mB (D : va_G) (tys : List (ClassId × FieldType)) (A : Nat → Prop) (u : va_W) (t : State) : Prop := va_P D cls u t.heap ∧ va_K D cls tys t ∧ va_D A u
theorem mp_blind {D : va_G} {tys : List (ClassId × FieldType)} {ws : va_W} {av : List Value} {sz : Nat} : FrameBlind (mP D tys ws av sz) := fun a U g mk q => by
  obtain ⟨q0, q1, qP, qK, qD, qN⟩ := q
  exact ⟨q0, q1, qP, va_K.moved (u := U) (U := U.calling g mk a) (Vm.Alike.refl U.vm) qK, qD, nW.same (s := U) (U := U.calling g mk a) rfl qN⟩
theorem mS {s : State} {H : Heap} {A : Nat → Prop} {D : va_G} {tys : List (ClassId × FieldType)} {ws : va_W} {As : List Value} (hP : va_P D cls ws H) (hK : va_K D cls tys s) (hN : nW s) (hD : va_D A ws) : PreS s H (mP D tys ws As H.size) As :=
  ⟨mp_blind, fun U hU hW => ⟨rfl, by rw [hU], by rw [hU]; exact hP, va_K.moved hW.alike hK, hD.weaken (fun _ _ _ _ => trivial), hN.warm hW⟩⟩
theorem mV {s : State} {H : Heap} {A : Nat → Prop} {D : va_G} {tys : List (ClassId × FieldType)} {ws : va_W} {C : String} {b : Nat} {As : List Value} (hP : va_P D cls ws H) (hK : va_K D cls tys s) (hN : nW s) (hD : va_D A ws) (hr : ∃ cell : Cell, H[b]? = some cell ∧ cell.vm.isStatics = false ∧ s.vm.findClass C = some cell.cls) : PreV s H C b (mP D tys ws (.ref b :: As) H.size) As :=
  ⟨mp_blind, hr, fun U hU hW => ⟨rfl, by rw [hU], by rw [hU]; exact hP, va_K.moved hW.alike hK, hD.weaken (fun _ _ _ _ => trivial), hN.warm hW⟩⟩
section MCALL
variable {p : Program} {l : Launch} {e : Env} {R : Room} {s : State} {m : MethodId} {args : Array Value} {below : List Frame} {meth : Method} {c : Code} {H : Heap} {locs : List Loc} {cells slots : Nat} {Q : State → Prop}
variable {mc ms : Nat} {A : Nat → Prop} {H0 : Heap} {a : Array Value} {pc : Nat} {ls : Array Slot} {st0 rest : List Value} {D : va_G} {tys : List (ClassId × FieldType)} {wc wr : va_W}
theorem mcalli {φ : Int32 → va_W → Prop} (hr : va_Run p l e R s m args below meth c H locs cells slots mc ms (F0 m pc ls st0) rest (va_Qi φ (mB D tys (va_A wc H.size)) (va_A wc H.size) a) (va_A wc H.size)) (hP : va_P D cls (wc ++ wr) H) (hD : va_D A (wc ++ wr)) (hS : va_S A H0 H locs) (hA : ∀ q, H0.size ≤ q → A q)
    (kk : ∀ (r : Int32) (u : va_W) (H : Heap) (locs : List Loc), φ r u → va_P D cls (u ++ wr) H → va_D A (u ++ wr) → va_S A H0 H locs → W p l e R s m args below meth c H locs (cells + mc) (slots + ms) Q (F0 m (pc + 3) ls (.int r :: rest))) : W p l e R s m args below meth c H locs cells slots Q (F0 m pc ls st0) := by
  refine va_calli hr hS (fun q _ h => ba_free hD hS hA q h) (ba_free hD hS hA) (fun r u t H1 locs1 ht hvm hw hB hz1 hk1 hS1 => ?_)
  obtain ⟨hP1, hK1, hD1⟩ := hB
  rw [ht] at hP1
  obtain ⟨hP2, hD2⟩ := ba_join hP hD hk1 (ba_free hD hS hA) hP1 hD1
  exact kk r u H1 locs1 hw hP2 hD2 hS1
theorem mcalll {φ : Int64 → va_W → Prop} (hr : va_Run p l e R s m args below meth c H locs cells slots mc ms (F0 m pc ls st0) rest (va_Ql φ (mB D tys (va_A wc H.size)) (va_A wc H.size) a) (va_A wc H.size)) (hP : va_P D cls (wc ++ wr) H) (hD : va_D A (wc ++ wr)) (hS : va_S A H0 H locs) (hA : ∀ q, H0.size ≤ q → A q)
    (kk : ∀ (r : Int64) (u : va_W) (H : Heap) (locs : List Loc), φ r u → va_P D cls (u ++ wr) H → va_D A (u ++ wr) → va_S A H0 H locs → W p l e R s m args below meth c H locs (cells + mc) (slots + ms) Q (F0 m (pc + 3) ls (.long r :: rest))) : W p l e R s m args below meth c H locs cells slots Q (F0 m pc ls st0) := by
  refine va_calll hr hS (fun q _ h => ba_free hD hS hA q h) (ba_free hD hS hA) (fun r u t H1 locs1 ht hvm hw hB hz1 hk1 hS1 => ?_)
  obtain ⟨hP1, hK1, hD1⟩ := hB
  rw [ht] at hP1
  obtain ⟨hP2, hD2⟩ := ba_join hP hD hk1 (ba_free hD hS hA) hP1 hD1
  exact kk r u H1 locs1 hw hP2 hD2 hS1
theorem mcallv {φ : va_W → Prop} (hr : va_Run p l e R s m args below meth c H locs cells slots mc ms (F0 m pc ls st0) rest (va_Qv φ (mB D tys (va_A wc H.size)) (va_A wc H.size) a) (va_A wc H.size)) (hP : va_P D cls (wc ++ wr) H) (hD : va_D A (wc ++ wr)) (hS : va_S A H0 H locs) (hA : ∀ q, H0.size ≤ q → A q)
    (kk : ∀ (u : va_W) (H : Heap) (locs : List Loc), φ u → va_P D cls (u ++ wr) H → va_D A (u ++ wr) → va_S A H0 H locs → W p l e R s m args below meth c H locs (cells + mc) (slots + ms) Q (F0 m (pc + 3) ls rest)) : W p l e R s m args below meth c H locs cells slots Q (F0 m pc ls st0) := by
  refine va_callv hr hS (fun q _ h => ba_free hD hS hA q h) (ba_free hD hS hA) (fun u t H1 locs1 ht hvm hw hB hz1 hk1 hS1 => ?_)
  obtain ⟨hP1, hK1, hD1⟩ := hB
  rw [ht] at hP1
  obtain ⟨hP2, hD2⟩ := ba_join hP hD hk1 (ba_free hD hS hA) hP1 hD1
  exact kk u H1 locs1 hw hP2 hD2 hS1
end MCALL
