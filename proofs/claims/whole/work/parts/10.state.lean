abbrev Q_A : String := "java/util/ArrayList"
def F_A : u_T := fun k => match k with
  | 0 => ("java/util/AbstractList", "modCount", "I", false)
  | 1 => ("java/util/ArrayList", "elementData", "[Ljava/lang/Object;", false)
  | _ => ("java/util/ArrayList", "size", "I", false)
def tq_A : Nat → FieldType := fun k => match k with
  | 0 => .int
  | 1 => .array (.object "java/lang/Object")
  | _ => .int
theorem n_A : ∀ a, a < 3 → ∀ b, b < 3 → a ≠ b → (F_A a).2.1 ≠ (F_A b).2.1 := by decide +kernel
theorem tq_A_ok : ∀ k, k < 3 → parseFieldDescriptor (F_A k).2.2.1 = some (tq_A k) := by decide +kernel
theorem in_A : ∀ w ∈ u_ws Q_A F_A 3, w ∈ GT := by decide +kernel
abbrev Q_B : String := "RubbingMirrors$Best"
def F_B : u_T := fun k => match k with
  | 0 => ("RubbingMirrors$Best", "found", "Z", false)
  | 1 => ("RubbingMirrors$Best", "which", "I", false)
  | 2 => ("RubbingMirrors$Best", "at", "I", false)
  | 3 => ("RubbingMirrors$Best", "total", "I", false)
  | _ => ("RubbingMirrors$Best", "count", "I", false)
def tq_B : Nat → FieldType := fun k => match k with
  | 0 => .boolean
  | 1 => .int
  | 2 => .int
  | 3 => .int
  | _ => .int
theorem n_B : ∀ a, a < 5 → ∀ b, b < 5 → a ≠ b → (F_B a).2.1 ≠ (F_B b).2.1 := by decide +kernel
theorem tq_B_ok : ∀ k, k < 5 → parseFieldDescriptor (F_B k).2.2.1 = some (tq_B k) := by decide +kernel
theorem in_B : ∀ w ∈ u_ws Q_B F_B 5, w ∈ GT := by decide +kernel
abbrev Q_R : String := "RubbingMirrors$Row"
def F_R : u_T := fun k => match k with
  | 0 => ("RubbingMirrors$Row", "depths", "[I", true)
  | _ => ("RubbingMirrors$Row", "guesses", "[Z", true)
def tq_R : Nat → FieldType := fun k => match k with
  | 0 => .array .int
  | _ => .array .boolean
theorem n_R : ∀ a, a < 2 → ∀ b, b < 2 → a ≠ b → (F_R a).2.1 ≠ (F_R b).2.1 := by decide +kernel
theorem tq_R_ok : ∀ k, k < 2 → parseFieldDescriptor (F_R k).2.2.1 = some (tq_R k) := by decide +kernel
theorem in_R : ∀ w ∈ u_ws Q_R F_R 2, w ∈ GT := by decide +kernel
abbrev Q_M : String := "RubbingMirrors"
def F_M : u_T := fun k => match k with
  | 0 => ("RubbingMirrors", "row", "LRubbingMirrors$Row;", true)
  | 1 => ("RubbingMirrors", "shapes", "Ljava/util/ArrayList;", true)
  | 2 => ("RubbingMirrors", "nodes", "Ljava/util/ArrayList;", true)
  | 3 => ("RubbingMirrors", "rules", "Ljava/util/ArrayList;", true)
  | _ => ("RubbingMirrors", "best", "LRubbingMirrors$Best;", true)
def tq_M : Nat → FieldType := fun k => match k with
  | 0 => .object "RubbingMirrors$Row"
  | 1 => .object "java/util/ArrayList"
  | 2 => .object "java/util/ArrayList"
  | 3 => .object "java/util/ArrayList"
  | _ => .object "RubbingMirrors$Best"
theorem n_M : ∀ a, a < 5 → ∀ b, b < 5 → a ≠ b → (F_M a).2.1 ≠ (F_M b).2.1 := by decide +kernel
theorem tq_M_ok : ∀ k, k < 5 → parseFieldDescriptor (F_M k).2.2.1 = some (tq_M k) := by decide +kernel
theorem in_M : ∀ w ∈ u_ws Q_M F_M 5, w ∈ GT := by decide +kernel
abbrev Q_S : String := "RubbingMirrors$Shape"
def F_S : u_T := fun k => match k with
  | _ => ("RubbingMirrors$Shape", "depths", "[I", true)
def tq_S : Nat → FieldType := fun k => match k with
  | _ => .array .int
theorem n_S : ∀ a, a < 1 → ∀ b, b < 1 → a ≠ b → (F_S a).2.1 ≠ (F_S b).2.1 := by decide +kernel
theorem tq_S_ok : ∀ k, k < 1 → parseFieldDescriptor (F_S k).2.2.1 = some (tq_S k) := by decide +kernel
theorem in_S : ∀ w ∈ u_ws Q_S F_S 1, w ∈ GT := by decide +kernel
abbrev Q_N : String := "RubbingMirrors$Node"
def F_N : u_T := fun k => match k with
  | 0 => ("RubbingMirrors$Node", "asked", "I", true)
  | 1 => ("RubbingMirrors$Node", "named", "I", true)
  | 2 => ("RubbingMirrors$Node", "no", "I", true)
  | _ => ("RubbingMirrors$Node", "yes", "I", true)
def tq_N : Nat → FieldType := fun k => match k with
  | 0 => .int
  | 1 => .int
  | 2 => .int
  | _ => .int
theorem n_N : ∀ a, a < 4 → ∀ b, b < 4 → a ≠ b → (F_N a).2.1 ≠ (F_N b).2.1 := by decide +kernel
theorem tq_N_ok : ∀ k, k < 4 → parseFieldDescriptor (F_N k).2.2.1 = some (tq_N k) := by decide +kernel
theorem in_N : ∀ w ∈ u_ws Q_N F_N 4, w ∈ GT := by decide +kernel
abbrev Q_U : String := "RubbingMirrors$Rule"
def F_U : u_T := fun k => match k with
  | 0 => ("RubbingMirrors$Rule", "from", "I", true)
  | 1 => ("RubbingMirrors$Rule", "to", "I", true)
  | 2 => ("RubbingMirrors$Rule", "least", "I", true)
  | 3 => ("RubbingMirrors$Rule", "greatest", "I", true)
  | 4 => ("RubbingMirrors$Rule", "year", "I", true)
  | _ => ("RubbingMirrors$Rule", "until", "I", true)
def tq_U : Nat → FieldType := fun k => match k with
  | 0 => .int
  | 1 => .int
  | 2 => .int
  | 3 => .int
  | 4 => .int
  | _ => .int
theorem n_U : ∀ a, a < 6 → ∀ b, b < 6 → a ≠ b → (F_U a).2.1 ≠ (F_U b).2.1 := by decide +kernel
theorem tq_U_ok : ∀ k, k < 6 → parseFieldDescriptor (F_U k).2.2.1 = some (tq_U k) := by decide +kernel
theorem in_U : ∀ w ∈ u_ws Q_U F_U 6, w ∈ GT := by decide +kernel
abbrev Q_T : String := "RubbingMirrorsModel"
def F_T : u_T := fun k => match k with
  | 0 => ("RubbingMirrorsModel", "thrown", "I", false)
  | 1 => ("RubbingMirrorsModel", "n", "I", true)
  | 2 => ("RubbingMirrorsModel", "depths", "[I", true)
  | 3 => ("RubbingMirrorsModel", "guesses", "[Z", true)
  | 4 => ("RubbingMirrorsModel", "shapes", "I", false)
  | 5 => ("RubbingMirrorsModel", "lengths", "[I", true)
  | 6 => ("RubbingMirrorsModel", "carved", "[I", true)
  | 7 => ("RubbingMirrorsModel", "nodes", "I", false)
  | 8 => ("RubbingMirrorsModel", "asks", "[I", true)
  | 9 => ("RubbingMirrorsModel", "noes", "[I", true)
  | 10 => ("RubbingMirrorsModel", "yeses", "[I", true)
  | 11 => ("RubbingMirrorsModel", "rules", "I", false)
  | 12 => ("RubbingMirrorsModel", "told", "[I", true)
  | 13 => ("RubbingMirrorsModel", "best", "I", false)
  | 14 => ("RubbingMirrorsModel", "bestPlace", "I", false)
  | 15 => ("RubbingMirrorsModel", "bestOff", "J", false)
  | _ => ("RubbingMirrorsModel", "bestMany", "I", false)
def tq_T : Nat → FieldType := fun k => match k with
  | 0 => .int
  | 1 => .int
  | 2 => .array .int
  | 3 => .array .boolean
  | 4 => .int
  | 5 => .array .int
  | 6 => .array .int
  | 7 => .int
  | 8 => .array .int
  | 9 => .array .int
  | 10 => .array .int
  | 11 => .int
  | 12 => .array .int
  | 13 => .int
  | 14 => .int
  | 15 => .long
  | _ => .int
theorem n_T : ∀ a, a < 17 → ∀ b, b < 17 → a ≠ b → (F_T a).2.1 ≠ (F_T b).2.1 := by decide +kernel
theorem tq_T_ok : ∀ k, k < 17 → parseFieldDescriptor (F_T k).2.2.1 = some (tq_T k) := by decide +kernel
theorem in_T : ∀ w ∈ u_ws Q_T F_T 17, w ∈ GT := by decide +kernel
abbrev cls : List vw_C := [(Q_A, F_A, 3), (Q_B, F_B, 5), (Q_R, F_R, 2), (Q_M, F_M, 5), (Q_S, F_S, 1), (Q_N, F_N, 4), (Q_U, F_U, 6), (Q_T, F_T, 17)]

/-- the array classes that the worlds speak of -/
abbrev TY (cI cZ cJ cO : ClassId) : List (ClassId × FieldType) := [(cI, .int), (cZ, .boolean), (cJ, .long), (cO, .object "java/lang/Object")]
/-- a reader's start: the cells ws are there -/
def rP (D : va_G) (tys : List (ClassId × FieldType)) (ws : va_W) (av : List Value) : Array Value → State → Prop := va_Pc av (fun U => va_P D cls ws U.heap ∧ va_K D cls tys U)
theorem rp_blind {D : va_G} {tys : List (ClassId × FieldType)} {ws : va_W} {av : List Value} : FrameBlind (rP D tys ws av) := fun a U g mk q => by
  obtain ⟨q0, qP, qK⟩ := q
  exact ⟨q0, qP, va_K.moved (u := U) (U := U.calling g mk a) (Vm.Alike.refl U.vm) qK⟩
theorem pS {s : State} {H : Heap} {D : va_G} {tys : List (ClassId × FieldType)} {ws : va_W} {As : List Value} (hP : va_P D cls ws H) (hK : va_K D cls tys s) : PreS s H (rP D tys ws As) As :=
  ⟨rp_blind, fun U hU hW => ⟨rfl, by rw [hU]; exact hP, va_K.moved hW.alike hK⟩⟩
theorem pV {s : State} {H : Heap} {D : va_G} {tys : List (ClassId × FieldType)} {ws : va_W} {C : String} {b : Nat} {As : List Value} (hP : va_P D cls ws H) (hK : va_K D cls tys s) (hr : ∃ cell : Cell, H[b]? = some cell ∧ cell.vm.isStatics = false ∧ s.vm.findClass C = some cell.cls) : PreV s H C b (rP D tys ws (.ref b :: As)) As :=
  ⟨rp_blind, hr, fun U hU hW => ⟨rfl, by rw [hU]; exact hP, va_K.moved hW.alike hK⟩⟩
theorem ile {x y : Int32} : x ≤ y ↔ x.toInt ≤ y.toInt := Int32.le_iff_toInt_le
theorem ilt {x y : Int32} : x < y ↔ x.toInt < y.toInt := Int32.lt_iff_toInt_lt
theorem ieq {x y : Int32} : x = y ↔ x.toInt = y.toInt := Int32.toInt_inj.symm
theorem lle {x y : Int64} : x ≤ y ↔ x.toInt ≤ y.toInt := Int64.le_iff_toInt_le
theorem llt {x y : Int64} : x < y ↔ x.toInt < y.toInt := Int64.lt_iff_toInt_lt
theorem nz_bI (b : Bool) : narrow .boolean (.int (bI b)) = .int (bI b) := by cases b <;> rfl
theorem i0 : (0 : Int32).toInt = 0 := rfl
theorem i1 : (1 : Int32).toInt = 1 := rfl
theorem im1 : (-1 : Int32).toInt = -1 := rfl
theorem t_nil2 {free : Addr → Prop} : ∀ q ∈ ([] : List Loc), free q.base := fun q h => by cases h
/-- THE ROW: n places, depths d, guesses g -/
abbrev rowW (cI cZ : ClassId) (h0 da ga : Nat) (n : Nat) (d g : Nat → Int32) : va_W := [(h0, .inr (2, [.ref da, .ref ga])), (da, .inl (cI, n, .inl d)), (ga, .inl (cZ, n, .inl g))]
/-- x is a place -/
def hs (n : Nat) (x : Int) : Bool := decide (0 ≤ x) && decide (x < n)
/-- x is a place that is KNOWN -/
def kn (n : Nat) (d g : Nat → Int32) (x : Int) : Bool := hs n x && decide (d x.toNat ≠ -1) && decide (g x.toNat = 0)
theorem hs_iff {n : Nat} {x : Int} : hs n x = true ↔ 0 ≤ x ∧ x < n := by simp [hs]
theorem hs_in {n : Nat} {x : Int32} (h : hs n x.toInt = true) : vp_in x n := vp_in_iff.mpr (hs_iff.mp h)
theorem ofNat_toInt {n : Nat} (h : n < 2 ^ 31) : (Int32.ofNat n).toInt = (n : Int) := nI_toInt h
