
/-- the source of a filling: r rounds more, the next of t steps -/
def sr (n : Nat) (d g : Nat → Int32) (K S : Int) : Nat → Nat → Option Int
  | 0, _ => none
  | r + 1, t => if kn n d g (K - t * S) then some (K - t * S) else if kn n d g (K + t * S) then some (K + t * S) else sr n d g K S r (t + 1)
/-- .. else by the mirror a -/
def sq (n : Nat) (d g : Nat → Int32) (K S a : Int) (r t : Nat) : Int := match (if 0 < S then sr n d g K S r t else none) with
  | some x => x
  | none => if a ≠ -1 ∧ kn n d g (a - K) = true then a - K else -1
def src (n : Nat) (d g : Nat → Int32) (K S a : Int) : Int := sq n d g K S a 8 1
theorem tS_le {t S : Nat} (ht : t ≤ 9) : t * S ≤ 9 * S := Nat.mul_le_mul_right S ht
theorem sc_m {K t S : Nat} (hK : K < 2 ^ 20) (ht : t ≤ 9) (hS : S < 2 ^ 20) : (nI K - nI t * nI S).toInt = (K : Int) - t * S := by
  have := tS_le (S := S) ht
  rw [pk_mul, pk_sub_toInt (by omega) (by omega), Int.natCast_mul]
theorem sc_p {K t S : Nat} (hK : K < 2 ^ 20) (ht : t ≤ 9) (hS : S < 2 ^ 20) : (nI K + nI t * nI S).toInt = (K : Int) + t * S := by
  have := tS_le (S := S) ht
  rw [pk_mul, nI_add, nI_toInt (by omega), Int.natCast_add, Int.natCast_mul]
theorem sc_a {K : Nat} {a : Int32} (hK : K < 2 ^ 20) (h1 : -1 ≤ a.toInt) (h2 : a.toInt < 2 ^ 20) : (a - nI K).toInt = a.toInt - K := by
  rw [Int32.toInt_sub, nI_toInt (by omega), Int.bmod_eq_of_le (by omega) (by omega)]
theorem sq_m {n : Nat} {d g : Nat → Int32} {K S : Nat} {a : Int} {r t : Nat} (h0 : ¬ nI S ≤ 0) (hK : K < 2 ^ 20) (ht : t ≤ 9) (hS : S < 2 ^ 20) (h : ¬ bI (kn n d g (nI K - nI t * nI S).toInt) = 0) : (nI K - nI t * nI S).toInt = sq n d g K S a (r + 1) t := by
  rw [sc_m hK ht hS] at h ⊢
  rw [ile, nI_toInt (by omega), i0] at h0
  rw [sq, if_pos (by omega), sr, if_pos (bI_ne0 h)]
theorem sq_p {n : Nat} {d g : Nat → Int32} {K S : Nat} {a : Int} {r t : Nat} (h0 : ¬ nI S ≤ 0) (hK : K < 2 ^ 20) (ht : t ≤ 9) (hS : S < 2 ^ 20) (h1 : bI (kn n d g (nI K - nI t * nI S).toInt) = 0) (h : ¬ bI (kn n d g (nI K + nI t * nI S).toInt) = 0) : (nI K + nI t * nI S).toInt = sq n d g K S a (r + 1) t := by
  rw [sc_m hK ht hS] at h1
  rw [sc_p hK ht hS] at h ⊢
  rw [ile, nI_toInt (by omega), i0] at h0
  rw [sq, if_pos (by omega), sr, if_neg (by rw [bI_eq0 h1]; decide), if_pos (bI_ne0 h)]
theorem sq_n {n : Nat} {d g : Nat → Int32} {K S : Nat} {a : Int} {r t : Nat} (hK : K < 2 ^ 20) (ht : t ≤ 9) (hS : S < 2 ^ 20) (h1 : bI (kn n d g (nI K - nI t * nI S).toInt) = 0) (h : bI (kn n d g (nI K + nI t * nI S).toInt) = 0) : sq n d g K S a r (t + 1) = sq n d g K S a (r + 1) t := by
  rw [sc_m hK ht hS] at h1
  rw [sc_p hK ht hS] at h
  have e : sr n d g K S (r + 1) t = sr n d g K S r (t + 1) := by rw [sr, if_neg (by rw [bI_eq0 h1]; decide), if_neg (by rw [bI_eq0 h]; decide)]
  unfold sq
  rw [e]
theorem sq_e1 {n : Nat} {d g : Nat → Int32} {K S : Nat} {a : Int} {r t : Nat} (hS : S < 2 ^ 20) (h0 : nI S ≤ 0) : sq n d g K S a r t = if a ≠ -1 ∧ kn n d g (a - K) = true then a - K else -1 := by
  rw [ile, nI_toInt (by omega), i0] at h0
  rw [sq, if_neg (by omega)]
theorem sq_e2 {n : Nat} {d g : Nat → Int32} {K S : Nat} {a : Int} {r t : Nat} (h : t + r = 9) (h8 : 8 < nI t) : sq n d g K S a r t = if a ≠ -1 ∧ kn n d g (a - K) = true then a - K else -1 := by
  rw [ilt, nI_toInt (by omega)] at h8
  have h9 : (8 : Int32).toInt = 8 := rfl
  have : r = 0 := by omega
  subst this
  rw [sq]
  by_cases c : (0 : Int) < S
  · rw [if_pos c, sr]
  · rw [if_neg c]
theorem sq_t {r t : Nat} (h : t + r = 9) (h8 : ¬ 8 < nI t) : t ≤ 8 := by
  rw [ilt, nI_toInt (by omega)] at h8
  have h9 : (8 : Int32).toInt = 8 := rfl
  omega
theorem sa_1 {n : Nat} {d g : Nat → Int32} {K : Nat} {a : Int32} (h : a = -1) : (-1 : Int32).toInt = if a.toInt ≠ -1 ∧ kn n d g (a.toInt - K) = true then a.toInt - K else -1 := by
  rw [if_neg (by rw [h]; exact fun q => q.1 rfl)]; rfl
theorem sa_2 {n : Nat} {d g : Nat → Int32} {K : Nat} {a : Int32} (hK : K < 2 ^ 20) (h1 : -1 ≤ a.toInt) (h2 : a.toInt < 2 ^ 20) (h : bI (kn n d g (a - nI K).toInt) = 0) : (-1 : Int32).toInt = if a.toInt ≠ -1 ∧ kn n d g (a.toInt - K) = true then a.toInt - K else -1 := by
  rw [sc_a hK h1 h2] at h
  rw [if_neg (by rw [bI_eq0 h]; exact fun q => (nomatch q.2))]; rfl
theorem sa_3 {n : Nat} {d g : Nat → Int32} {K : Nat} {a : Int32} (hK : K < 2 ^ 20) (h1 : -1 ≤ a.toInt) (h2 : a.toInt < 2 ^ 20) (h0 : ¬ a = -1) (h : ¬ bI (kn n d g (a - nI K).toInt) = 0) : (a - nI K).toInt = if a.toInt ≠ -1 ∧ kn n d g (a.toInt - K) = true then a.toInt - K else -1 := by
  rw [sc_a hK h1 h2] at h ⊢
  rw [ieq, im1] at h0
  rw [if_pos ⟨h0, bI_ne0 h⟩]

set_option maxHeartbeats 4000000 in
set_option maxRecDepth 100000 in
theorem c_R_sourceFor_ok (l : Launch) (D : va_G) (cI cZ cJ cO : ClassId) (h0 da ga : Nat) (n : Nat) (d g : Nat → Int32) (hn : n < 2 ^ 20) (K S : Nat) (a : Int32) (hK9 : K < 2 ^ 20) (hS : S < 2 ^ 20) (ha1 : -1 ≤ a.toInt) (ha2 : a.toInt < 2 ^ 20) : Met l y_R_sourceFor (wq y_R_sourceFor c_R_sourceFor 5 (some .int)) ({ frames := 2, cells := 0, slots := 0, locals := 42 }) (rP D (TY cI cZ cJ cO) [(h0, .inr (2, [.ref da, .ref ga])), (da, .inl (cI, n, .inl d)), (ga, .inl (cZ, n, .inl g))] [.ref h0, .int (nI K), .int (nI S), .int a]) (vp_Si (fun r => r.toInt = src n d g K S a.toInt)) 0 0 (fun _ => False) := by
  refine Met.ofW (cc := c_R_sourceFor) (maxL := 5) (ret := (some .int)) (by decide) rfl ?_
  intro p e s m args below meth c s₁ B hml hv
  obtain ⟨rfl, hP, hK, hN⟩ := hv
  have hx := B.exec
  have hb := B.bytes
  have hr := B.returns
  have hg := gt_h (atoms_spec (ws := (wq y_R_sourceFor c_R_sourceFor 5 (some .int))) B.pre)
  have hown : s.vm.findClass "RubbingMirrors$Row" = some m.cls := findClass_of_methodNamed B.named
  have hlocks := B.notSynchronized
  have hl := lv_entry ([.ref h0, .int (nI K), .int (nI S), .int a]) (n := 5) (Nat.le_of_ble_eq_true rfl)
  rw [lg_entry_eq]
  generalize (lg_sl ([.ref h0, .int (nI K), .int (nI S), .int a]) ++ List.replicate (5 - (lg_sl ([.ref h0, .int (nI K), .int (nI S), .int a])).length) Slot.unset).toArray = ls at hl ⊢
  have hl : lv_has ls 5 [(0, .ref h0), (1, .int (nI K)), (2, .int (nI S)), (3, .int a)] := hl
  refine lv_iconst (v := 1) hx hb d_R_sourceFor_0 (by decide) ?_
  refine lv_istore (lv' := [(4, .int 1), (0, .ref h0), (1, .int (nI K)), (2, .int (nI S)), (3, .int a)]) hx hb d_R_sourceFor_1 hl (by decide) rfl (fun ls hl => ?_)
  have loop_3 : ∀ (f3 : Nat) (t : Nat) (r : Nat) (x4 : Int32) (ls : Array Slot), (t + r = 9 ∧ r < f3 ∧ x4 = nI t ∧ sq n d g K S a.toInt r t = src n d g K S a.toInt) → lv_has ls 5 [(0, .ref h0), (1, .int (nI K)), (2, .int (nI S)), (3, .int a), (4, .int x4)] → W p l e (headSpec (wq y_R_sourceFor c_R_sourceFor 5 (some .int)) ({ frames := 2, cells := 0, slots := 0, locals := 42 })).room s m ([.ref h0, .int (nI K), .int (nI S), .int a] : List Value).toArray below meth c s.heap [] 0 0 (MQ below (vp_Si (fun r => r.toInt = src n d g K S a.toInt)) ([.ref h0, .int (nI K), .int (nI S), .int a] : List Value).toArray s 0 0 (fun _ => False)) (F0 m 3 ls []) := by
    intro f3
    induction f3 with
    | zero =>
      intro t r x4 ls hI hl
      obtain ⟨ht1, ht2, rfl, hq⟩ := hI
      omega
    | succ f3 ih3 =>
      intro t r x4 ls hI hl
      obtain ⟨ht1, ht2, rfl, hq⟩ := hI
      refine lv_iload_n hx hb d_R_sourceFor_3 rfl (lv_at hl 2 rfl) ?_
      refine lv_if_le (tgt := 60) hx hb d_R_sourceFor_4 (by decide) (fun c_4 => ?_) (fun c_4 => ?_)
      · refine lv_iload_n hx hb d_R_sourceFor_60 rfl (lv_at hl 3 rfl) ?_
        refine lv_iconst (v := (-1)) hx hb d_R_sourceFor_61 (by decide) ?_
        refine lv_icmp_eq (tgt := 81) hx hb d_R_sourceFor_62 (by decide) (fun c_62 => ?_) (fun c_62 => ?_)
        · refine lv_iconst (v := (-1)) hx hb d_R_sourceFor_81 (by decide) ?_
          exact W.iret hx hb hr (fun t9 ht hW => ⟨_, rfl, (by rw [← hq]; (first | rw [sq_e1 hS c_4] | rw [sq_e2 ht1 c_11]); (first | exact sa_1 c_62 | exact sa_2 hK9 ha1 ha2 c_72 | exact sa_3 hK9 ha1 ha2 c_62 c_72)), ht⟩) t_nil2 d_R_sourceFor_82
        · refine lv_aload_n hx hb d_R_sourceFor_65 rfl (lv_at hl 0 rfl) ?_
          refine lv_iload_n hx hb d_R_sourceFor_66 rfl (lv_at hl 3 rfl) ?_
          refine lv_iload_n hx hb d_R_sourceFor_67 rfl (lv_at hl 1 rfl) ?_
          refine lv_isub hx hb d_R_sourceFor_68 ?_
          refine vp_callSi (va_Run.run (va_runV (As := [.int (a - (nI K))]) (rest := []) ⟨hx, hb, hml, hown, hg⟩ (c_R_isKnown_ok l D cI cZ cJ cO h0 da ga n d g (by omega) (a - (nI K))) (cwV 1 hg (gv g_301 g_302 g_303 g_23 g_304) rfl rfl rfl (by decide +kernel) ⟨Nat.le_of_ble_eq_true rfl, Nat.le_of_ble_eq_true rfl⟩) (pV hP hK hN (va_recv hK hP (ci := 2) (q0 := 0) rfl rfl)) rfl rfl hl.1 rfl (lv_room (Nat.le_of_ble_eq_true rfl)) d_R_sourceFor_69 ⟨Nat.zero_le _, Nat.zero_le _⟩)) (fun r_1 hr_1 => ?_)
          subst hr_1
          refine lv_if_eq (tgt := 81) hx hb d_R_sourceFor_72 (by decide) (fun c_72 => ?_) (fun c_72 => ?_)
          · refine lv_iconst (v := (-1)) hx hb d_R_sourceFor_81 (by decide) ?_
            exact W.iret hx hb hr (fun t9 ht hW => ⟨_, rfl, (by rw [← hq]; (first | rw [sq_e1 hS c_4] | rw [sq_e2 ht1 c_11]); (first | exact sa_1 c_62 | exact sa_2 hK9 ha1 ha2 c_72 | exact sa_3 hK9 ha1 ha2 c_62 c_72)), ht⟩) t_nil2 d_R_sourceFor_82
          · refine lv_iload_n hx hb d_R_sourceFor_75 rfl (lv_at hl 3 rfl) ?_
            refine lv_iload_n hx hb d_R_sourceFor_76 rfl (lv_at hl 1 rfl) ?_
            refine lv_isub hx hb d_R_sourceFor_77 ?_
            refine lv_goto (tgt := 82) hx hb d_R_sourceFor_78 (by decide) ?_
            exact W.iret hx hb hr (fun t9 ht hW => ⟨_, rfl, (by rw [← hq]; (first | rw [sq_e1 hS c_4] | rw [sq_e2 ht1 c_11]); (first | exact sa_1 c_62 | exact sa_2 hK9 ha1 ha2 c_72 | exact sa_3 hK9 ha1 ha2 c_62 c_72)), ht⟩) t_nil2 d_R_sourceFor_82
      · refine lv_iload hx hb d_R_sourceFor_7 (lv_at hl 4 rfl) ?_
        refine lv_bipush (v := 8) hx hb d_R_sourceFor_9 (by decide) ?_
        refine lv_icmp_gt (tgt := 60) hx hb d_R_sourceFor_11 (by decide) (fun c_11 => ?_) (fun c_11 => ?_)
        · refine lv_iload_n hx hb d_R_sourceFor_60 rfl (lv_at hl 3 rfl) ?_
          refine lv_iconst (v := (-1)) hx hb d_R_sourceFor_61 (by decide) ?_
          refine lv_icmp_eq (tgt := 81) hx hb d_R_sourceFor_62 (by decide) (fun c_62 => ?_) (fun c_62 => ?_)
          · refine lv_iconst (v := (-1)) hx hb d_R_sourceFor_81 (by decide) ?_
            exact W.iret hx hb hr (fun t9 ht hW => ⟨_, rfl, (by rw [← hq]; (first | rw [sq_e1 hS c_4] | rw [sq_e2 ht1 c_11]); (first | exact sa_1 c_62 | exact sa_2 hK9 ha1 ha2 c_72 | exact sa_3 hK9 ha1 ha2 c_62 c_72)), ht⟩) t_nil2 d_R_sourceFor_82
          · refine lv_aload_n hx hb d_R_sourceFor_65 rfl (lv_at hl 0 rfl) ?_
            refine lv_iload_n hx hb d_R_sourceFor_66 rfl (lv_at hl 3 rfl) ?_
            refine lv_iload_n hx hb d_R_sourceFor_67 rfl (lv_at hl 1 rfl) ?_
            refine lv_isub hx hb d_R_sourceFor_68 ?_
            refine vp_callSi (va_Run.run (va_runV (As := [.int (a - (nI K))]) (rest := []) ⟨hx, hb, hml, hown, hg⟩ (c_R_isKnown_ok l D cI cZ cJ cO h0 da ga n d g (by omega) (a - (nI K))) (cwV 1 hg (gv g_301 g_302 g_303 g_23 g_304) rfl rfl rfl (by decide +kernel) ⟨Nat.le_of_ble_eq_true rfl, Nat.le_of_ble_eq_true rfl⟩) (pV hP hK hN (va_recv hK hP (ci := 2) (q0 := 0) rfl rfl)) rfl rfl hl.1 rfl (lv_room (Nat.le_of_ble_eq_true rfl)) d_R_sourceFor_69 ⟨Nat.zero_le _, Nat.zero_le _⟩)) (fun r_2 hr_2 => ?_)
            subst hr_2
            refine lv_if_eq (tgt := 81) hx hb d_R_sourceFor_72 (by decide) (fun c_72 => ?_) (fun c_72 => ?_)
            · refine lv_iconst (v := (-1)) hx hb d_R_sourceFor_81 (by decide) ?_
              exact W.iret hx hb hr (fun t9 ht hW => ⟨_, rfl, (by rw [← hq]; (first | rw [sq_e1 hS c_4] | rw [sq_e2 ht1 c_11]); (first | exact sa_1 c_62 | exact sa_2 hK9 ha1 ha2 c_72 | exact sa_3 hK9 ha1 ha2 c_62 c_72)), ht⟩) t_nil2 d_R_sourceFor_82
            · refine lv_iload_n hx hb d_R_sourceFor_75 rfl (lv_at hl 3 rfl) ?_
              refine lv_iload_n hx hb d_R_sourceFor_76 rfl (lv_at hl 1 rfl) ?_
              refine lv_isub hx hb d_R_sourceFor_77 ?_
              refine lv_goto (tgt := 82) hx hb d_R_sourceFor_78 (by decide) ?_
              exact W.iret hx hb hr (fun t9 ht hW => ⟨_, rfl, (by rw [← hq]; (first | rw [sq_e1 hS c_4] | rw [sq_e2 ht1 c_11]); (first | exact sa_1 c_62 | exact sa_2 hK9 ha1 ha2 c_72 | exact sa_3 hK9 ha1 ha2 c_62 c_72)), ht⟩) t_nil2 d_R_sourceFor_82
        · have ht8 : t ≤ 9 := by have := sq_t ht1 c_11; omega
          obtain ⟨r, rfl⟩ : ∃ r1, r = r1 + 1 := ⟨r - 1, by have := sq_t ht1 c_11; omega⟩
          refine lv_aload_n hx hb d_R_sourceFor_14 rfl (lv_at hl 0 rfl) ?_
          refine lv_iload_n hx hb d_R_sourceFor_15 rfl (lv_at hl 1 rfl) ?_
          refine lv_iload hx hb d_R_sourceFor_16 (lv_at hl 4 rfl) ?_
          refine lv_iload_n hx hb d_R_sourceFor_18 rfl (lv_at hl 2 rfl) ?_
          refine lv_imul hx hb d_R_sourceFor_19 ?_
          refine lv_isub hx hb d_R_sourceFor_20 ?_
          refine vp_callSi (va_Run.run (va_runV (As := [.int ((nI K) - ((nI t) * (nI S)))]) (rest := []) ⟨hx, hb, hml, hown, hg⟩ (c_R_isKnown_ok l D cI cZ cJ cO h0 da ga n d g (by omega) ((nI K) - ((nI t) * (nI S)))) (cwV 1 hg (gv g_301 g_302 g_303 g_23 g_304) rfl rfl rfl (by decide +kernel) ⟨Nat.le_of_ble_eq_true rfl, Nat.le_of_ble_eq_true rfl⟩) (pV hP hK hN (va_recv hK hP (ci := 2) (q0 := 0) rfl rfl)) rfl rfl hl.1 rfl (lv_room (Nat.le_of_ble_eq_true rfl)) d_R_sourceFor_21 ⟨Nat.zero_le _, Nat.zero_le _⟩)) (fun r_3 hr_3 => ?_)
          subst hr_3
          refine lv_if_eq (tgt := 34) hx hb d_R_sourceFor_24 (by decide) (fun c_24 => ?_) (fun c_24 => ?_)
          · refine lv_aload_n hx hb d_R_sourceFor_34 rfl (lv_at hl 0 rfl) ?_
            refine lv_iload_n hx hb d_R_sourceFor_35 rfl (lv_at hl 1 rfl) ?_
            refine lv_iload hx hb d_R_sourceFor_36 (lv_at hl 4 rfl) ?_
            refine lv_iload_n hx hb d_R_sourceFor_38 rfl (lv_at hl 2 rfl) ?_
            refine lv_imul hx hb d_R_sourceFor_39 ?_
            refine lv_iadd hx hb d_R_sourceFor_40 ?_
            refine vp_callSi (va_Run.run (va_runV (As := [.int ((nI K) + ((nI t) * (nI S)))]) (rest := []) ⟨hx, hb, hml, hown, hg⟩ (c_R_isKnown_ok l D cI cZ cJ cO h0 da ga n d g (by omega) ((nI K) + ((nI t) * (nI S)))) (cwV 1 hg (gv g_301 g_302 g_303 g_23 g_304) rfl rfl rfl (by decide +kernel) ⟨Nat.le_of_ble_eq_true rfl, Nat.le_of_ble_eq_true rfl⟩) (pV hP hK hN (va_recv hK hP (ci := 2) (q0 := 0) rfl rfl)) rfl rfl hl.1 rfl (lv_room (Nat.le_of_ble_eq_true rfl)) d_R_sourceFor_41 ⟨Nat.zero_le _, Nat.zero_le _⟩)) (fun r_4 hr_4 => ?_)
            subst hr_4
            refine lv_if_eq (tgt := 54) hx hb d_R_sourceFor_44 (by decide) (fun c_44 => ?_) (fun c_44 => ?_)
            · refine lv_iinc (v := (nI t) + 1) (lv' := [(4, .int ((nI t) + 1)), (0, .ref h0), (1, .int (nI K)), (2, .int (nI S)), (3, .int a)]) hx hb d_R_sourceFor_54 hl (k := 4) rfl rfl (by decide) rfl (fun ls hl => ?_)
              refine lv_goto (tgt := 3) hx hb d_R_sourceFor_57 (by decide) ?_
              exact ih3 (t + 1) r ((nI t) + 1) ls (⟨by omega, by omega, nI_1 t, (sq_n hK9 ht8 hS c_24 c_44).trans hq⟩) (lv_sub hl [1, 2, 3, 4, 0] rfl)
            · refine lv_iload_n hx hb d_R_sourceFor_47 rfl (lv_at hl 1 rfl) ?_
              refine lv_iload hx hb d_R_sourceFor_48 (lv_at hl 4 rfl) ?_
              refine lv_iload_n hx hb d_R_sourceFor_50 rfl (lv_at hl 2 rfl) ?_
              refine lv_imul hx hb d_R_sourceFor_51 ?_
              refine lv_iadd hx hb d_R_sourceFor_52 ?_
              exact W.iret hx hb hr (fun t9 ht hW => ⟨_, rfl, (by rw [← hq]; exact sq_p c_4 hK9 ht8 hS c_24 c_44), ht⟩) t_nil2 d_R_sourceFor_53
          · refine lv_iload_n hx hb d_R_sourceFor_27 rfl (lv_at hl 1 rfl) ?_
            refine lv_iload hx hb d_R_sourceFor_28 (lv_at hl 4 rfl) ?_
            refine lv_iload_n hx hb d_R_sourceFor_30 rfl (lv_at hl 2 rfl) ?_
            refine lv_imul hx hb d_R_sourceFor_31 ?_
            refine lv_isub hx hb d_R_sourceFor_32 ?_
            exact W.iret hx hb hr (fun t9 ht hW => ⟨_, rfl, (by rw [← hq]; exact sq_m c_4 hK9 ht8 hS c_24), ht⟩) t_nil2 d_R_sourceFor_33
  exact loop_3 9 1 8 1 ls (⟨by omega, by omega, rfl, rfl⟩) (lv_sub hl [1, 2, 3, 4, 0] rfl)
