
/-- the reference's cells -/
abbrev oT (cI cZ : ClassId) (o7 dT gT la ca aa na ya ta n ns nn nr : Nat) (d g sl cr ak no ye tl : Nat → Int32) (th be bp bm : Int32) (bo : Int64) : va_W := [(o7, .inr (7, [.int th, .int (nI n), .ref dT, .ref gT, .int (nI ns), .ref la, .ref ca, .int (nI nn), .ref aa, .ref na, .ref ya, .int (nI nr), .ref ta, .int be, .int bp, .long bo, .int bm])), (dT, .inl (cI, 64, .inl d)), (gT, .inl (cZ, 64, .inl g)), (la, .inl (cI, 8, .inl sl)), (ca, .inl (cI, 128, .inl cr)), (aa, .inl (cI, 16, .inl ak)), (na, .inl (cI, 16, .inl no)), (ya, .inl (cI, 16, .inl ye)), (ta, .inl (cI, 48, .inl tl))]
abbrev oO (cJ : ClassId) (out : Nat) (fo : Nat → Int64) : Nat × va_E := (out, .inl (cJ, 1, .inr (.inl fo)))
theorem pmL {X T u : va_W} : (X ++ (T ++ u)).Perm ((X ++ u) ++ T) := by
  rw [List.append_assoc]; exact List.Perm.append_left _ List.perm_append_comm
theorem pmV {X T u : va_W} : (X ++ (T ++ u)).Perm (([] ++ u) ++ (X ++ T)) := by
  rw [← List.append_assoc, List.nil_append]; exact List.perm_append_comm
theorem pmT {X T u : va_W} : (X ++ (T ++ u)).Perm (T ++ (X ++ u)) := List.perm_append_comm_assoc _ _ _
theorem nI_k (i k : Nat) : nI i + nI k = nI (i + k) := nI_add i k
/-- what comes at pc, whatever the reference's words and the class's cells are -/
def LK (p : Program) (l : Launch) (e : Env) (R : Room) (s : State) (m : MethodId) (args : Array Value) (below : List Frame) (meth : Method) (c : Code) (Q : State → Prop) (A : Nat → Prop) (D : va_G) (cI cZ cJ cO : ClassId) (e0 sa9 ln : Nat) (sc : Nat → Int32) (out o7 dT gT la ca aa na ya ta o n i pc cells slots : Nat) : Prop :=
  ∀ (d g : Nat → Int32) (ns : Nat) (sl cr : Nat → Int32) (nn : Nat) (ak no ye : Nat → Int32) (nr : Nat) (tl : Nat → Int32) (th be bp bm : Int32) (bo : Int64) (u : va_W) (fo : Nat → Int64) (H : Heap) (locs : List Loc) (ls : Array Slot), SI n d ns nn ak no ye nr tl → CI cI cZ cO e0 o n d g ns sl cr nn ak no ye nr tl u → va_P D cls ([oO cJ out fo] ++ (oT cI cZ o7 dT gT la ca aa na ya ta n ns nn nr d g sl cr ak no ye tl th be bp bm bo ++ u)) H → va_D A ([oO cJ out fo] ++ (oT cI cZ o7 dT gT la ca aa na ya ta n ns nn nr d g sl cr ak no ye tl th be bp bm bo ++ u)) → va_S A s.heap H locs → lv_has ls 8 [(0, .ref sa9), (1, .ref o), (2, .ref o7), (3, .ref out), (4, .int (nI i))] → W p l e R s m args below meth c H locs cells slots Q (F0 m pc ls [])
theorem cmp_s (x : Int64) : lg_cmp x x = 0 := cmp_eq.mpr rfl
