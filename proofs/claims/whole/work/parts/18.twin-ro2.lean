
/-- the reference's order of sources: m tries more, the next is e -/
def se (n : Nat) (d g : Nat → Int32) (K S : Int) : Nat → Nat → Option Int
  | 0, _ => none
  | m + 1, e => if kn n d g (if e % 2 = 0 then K - (e / 2 : Nat) * S else K + (e / 2 : Nat) * S) then some (if e % 2 = 0 then K - (e / 2 : Nat) * S else K + (e / 2 : Nat) * S) else se n d g K S m (e + 1)
theorem se_sr {n : Nat} {d g : Nat → Int32} {K S : Int} : ∀ r t : Nat, se n d g K S (2 * r) (2 * t) = sr n d g K S r t
  | 0, t => rfl
  | r + 1, t => by
    rw [show 2 * (r + 1) = 2 * r + 1 + 1 by omega, se, se, sr]
    rw [if_pos (show 2 * t % 2 = 0 by omega), if_neg (show ¬ (2 * t + 1) % 2 = 0 by omega), show 2 * t / 2 = t by omega, show (2 * t + 1) / 2 = t by omega]
    rw [show 2 * t + 1 + 1 = 2 * (t + 1) by omega, se_sr r (t + 1)]
def sE (n : Nat) (d g : Nat → Int32) (K S a : Int) (m e : Nat) : Int := match (if 0 < S then se n d g K S m e else none) with
  | some x => x
  | none => if a ≠ -1 ∧ kn n d g (a - K) = true then a - K else -1
theorem sE_src {n : Nat} {d g : Nat → Int32} {K S a : Int} : sE n d g K S a 16 2 = src n d g K S a := by
  unfold sE src sq
  rw [show se n d g K S 16 2 = sr n d g K S 8 1 from se_sr 8 1]
  rfl
theorem e_c {E : Nat} (hE : E < 2 ^ 20) : nI E - nI E / 2 * 2 = nI (E % 2) := by
  have := pk_rem (a := E) (d := 2) (by omega) (by omega) (by omega)
  exact this
theorem e_d {E : Nat} (hE : E < 2 ^ 20) : nI E / 2 = nI (E / 2) := pk_div (a := E) (d := 2) (by omega) (by omega) (by omega)
theorem ES_le {E S : Nat} (h : E ≤ 18) : E / 2 * S ≤ 9 * S := Nat.mul_le_mul_right S (by omega)
theorem at_m {K E S : Nat} (hK : K < 2 ^ 20) (hE : E ≤ 18) (hS : S < 2 ^ 20) : ((nI K).toInt64 + ((-1) * (nI E / 2).toInt64) * (nI S).toInt64).toInt = (K : Int) - (E / 2 : Nat) * S := by
  have h9 := ES_le (S := S) hE
  rw [e_d (by omega)]
  have e1 : ((-1 : Int64) * (nI (E / 2)).toInt64).toInt = -((E / 2 : Nat) : Int) := by
    rw [Int64.toInt_mul, tl1 (by omega), show (-1 : Int64).toInt = -1 from rfl]
    rw [Int.bmod_eq_of_le (by omega) (by omega)]; omega
  have e2 : (((-1) * (nI (E / 2)).toInt64) * (nI S).toInt64).toInt = -((E / 2 * S : Nat) : Int) := by
    rw [Int64.toInt_mul, e1, tl1 (by omega), Int.neg_mul, ← Int.natCast_mul]
    exact Int.bmod_eq_of_le (by omega) (by omega)
  rw [Int64.toInt_add, e2, tl1 (by omega), Int.bmod_eq_of_le (by omega) (by omega), Int.natCast_mul]
  omega
theorem at_p {K E S : Nat} (hK : K < 2 ^ 20) (hE : E ≤ 18) (hS : S < 2 ^ 20) : ((nI K).toInt64 + (1 * (nI E / 2).toInt64) * (nI S).toInt64).toInt = (K : Int) + (E / 2 : Nat) * S := by
  have h9 := ES_le (S := S) hE
  rw [e_d (by omega), Int64.one_mul]
  have e2 : ((nI (E / 2)).toInt64 * (nI S).toInt64).toInt = ((E / 2 * S : Nat) : Int) := by
    rw [Int64.toInt_mul, tl1 (by omega), tl1 (by omega), ← Int.natCast_mul]
    exact Int.bmod_eq_of_le (by omega) (by omega)
  rw [Int64.toInt_add, e2, tl1 (by omega), Int.bmod_eq_of_le (by omega) (by omega), Int.natCast_mul]
theorem e_ev {E : Nat} (hE : E < 2 ^ 20) (h : nI E - nI E / 2 * 2 = 0) : E % 2 = 0 := by
  rw [e_c hE] at h
  exact (nI_eq (a := E % 2) (b := 0) (by omega) (by omega)).mp h
theorem e_od {E : Nat} (hE : E < 2 ^ 20) (h : ¬ nI E - nI E / 2 * 2 = 0) : ¬ E % 2 = 0 := fun q => h (by rw [e_c hE, q]; rfl)
theorem sE_y {n : Nat} {d g : Nat → Int32} {K S : Nat} {a x : Int} {m E : Nat} (h0 : ¬ nI S ≤ 0) (hS : S < 2 ^ 20) (hx : x = if E % 2 = 0 then (K : Int) - (E / 2 : Nat) * S else K + (E / 2 : Nat) * S) (h : ¬ bI (kn n d g x) = 0) : x = sE n d g K S a (m + 1) E := by
  rw [ile, nI_toInt (by omega), i0] at h0
  unfold sE
  rw [if_pos (by omega), se, ← hx, if_pos (bI_ne0 h)]
theorem sE_n {n : Nat} {d g : Nat → Int32} {K S : Nat} {a x : Int} {m E : Nat} (hx : x = if E % 2 = 0 then (K : Int) - (E / 2 : Nat) * S else K + (E / 2 : Nat) * S) (h : bI (kn n d g x) = 0) : sE n d g K S a m (E + 1) = sE n d g K S a (m + 1) E := by
  have e : se n d g K S (m + 1) E = se n d g K S m (E + 1) := by rw [se, ← hx, if_neg (by rw [bI_eq0 h]; decide)]
  unfold sE
  rw [e]
theorem sE_e1 {n : Nat} {d g : Nat → Int32} {K S : Nat} {a : Int} {m E : Nat} (hS : S < 2 ^ 20) (h0 : nI S ≤ 0) : sE n d g K S a m E = if a ≠ -1 ∧ kn n d g (a - K) = true then a - K else -1 := by
  rw [ile, nI_toInt (by omega), i0] at h0
  rw [sE, if_neg (by omega)]
theorem sE_e2 {n : Nat} {d g : Nat → Int32} {K S : Nat} {a : Int} {m E : Nat} (h : E + m = 18) (h8 : 18 ≤ nI E) : sE n d g K S a m E = if a ≠ -1 ∧ kn n d g (a - K) = true then a - K else -1 := by
  rw [ile, nI_toInt (by omega)] at h8
  have h9 : (18 : Int32).toInt = 18 := rfl
  have : m = 0 := by omega
  subst this
  rw [sE]
  by_cases c : (0 : Int) < S
  · rw [if_pos c, se]
  · rw [if_neg c]
theorem sE_t {m E : Nat} (h : E + m = 18) (h8 : ¬ 18 ≤ nI E) : E < 18 := by
  rw [ile, nI_toInt (by omega)] at h8
  have h9 : (18 : Int32).toInt = 18 := rfl
  omega
theorem tm_1 {n : Nat} {d g : Nat → Int32} {K : Nat} {a : Int32} (h1 : -1 ≤ a.toInt) (h : a < 0) : (-1 : Int32).toInt = if a.toInt ≠ -1 ∧ kn n d g (a.toInt - K) = true then a.toInt - K else -1 := by
  rw [ilt, i0] at h
  exact sa_1 (ieq.mpr (by rw [im1]; omega))
theorem tm_2 {n : Nat} {d g : Nat → Int32} {K : Nat} {a : Int32} (hK : K < 2 ^ 20) (h1 : -1 ≤ a.toInt) (h2 : a.toInt < 2 ^ 20) (h : bI (kn n d g (a - nI K).toInt64.toInt) = 0) : (-1 : Int32).toInt = if a.toInt ≠ -1 ∧ kn n d g (a.toInt - K) = true then a.toInt - K else -1 := by
  rw [Int32.toInt_toInt64] at h
  exact sa_2 hK h1 h2 h
theorem tm_3 {n : Nat} {d g : Nat → Int32} {K : Nat} {a : Int32} (hK : K < 2 ^ 20) (h1 : -1 ≤ a.toInt) (h2 : a.toInt < 2 ^ 20) (h0 : ¬ a < 0) (h : ¬ bI (kn n d g (a - nI K).toInt64.toInt) = 0) : (a - nI K).toInt = if a.toInt ≠ -1 ∧ kn n d g (a.toInt - K) = true then a.toInt - K else -1 := by
  rw [Int32.toInt_toInt64] at h
  exact sa_3 hK h1 h2 (fun q => h0 (by rw [q]; decide)) h

set_option maxHeartbeats 4000000 in
set_option maxRecDepth 100000 in
theorem c_T_source_ok (l : Launch) (D : va_G) (cI cZ cJ cO : ClassId) (o dT gT la ca aa na ya ta : Nat) (n ns nn nr : Nat) (d g sl cr ak no ye tl : Nat → Int32) (th be bp bm : Int32) (bo : Int64) (h4 : 4 ≤ n) (h64 : n ≤ 64) (hd : dOK n d) (K S : Nat) (a : Int32) (hK9 : K < 2 ^ 20) (hS9 : S < 2 ^ 20) (ha1 : -1 ≤ a.toInt) (ha2 : a.toInt < 2 ^ 20) : Met l y_T_source (wq y_T_source c_T_source 7 (some .int)) ({ frames := 3, cells := 0, slots := 0, locals := 69 }) (rP D (TY cI cZ cJ cO) [(o, .inr (7, [.int th, .int (nI n), .ref dT, .ref gT, .int (nI ns), .ref la, .ref ca, .int (nI nn), .ref aa, .ref na, .ref ya, .int (nI nr), .ref ta, .int be, .int bp, .long bo, .int bm])), (dT, .inl (cI, 64, .inl d)), (gT, .inl (cZ, 64, .inl g)), (la, .inl (cI, 8, .inl sl)), (ca, .inl (cI, 128, .inl cr)), (aa, .inl (cI, 16, .inl ak)), (na, .inl (cI, 16, .inl no)), (ya, .inl (cI, 16, .inl ye)), (ta, .inl (cI, 48, .inl tl))] [.ref o, .int (nI K), .int (nI S), .int a]) (vp_Si (fun r => r.toInt = src n d g K S a.toInt)) 0 0 (fun _ => False) := by
  refine Met.ofW (cc := c_T_source) (maxL := 7) (ret := (some .int)) (by decide) rfl ?_
  intro p e s m args below meth c s₁ B hml hv
  obtain ⟨rfl, hP, hK, hN⟩ := hv
  have hx := B.exec
  have hb := B.bytes
  have hr := B.returns
  have hg := gt_h (atoms_spec (ws := (wq y_T_source c_T_source 7 (some .int))) B.pre)
  have hown : s.vm.findClass "RubbingMirrorsModel" = some m.cls := findClass_of_methodNamed B.named
  have hlocks := B.notSynchronized
  have hl := lv_entry ([.ref o, .int (nI K), .int (nI S), .int a]) (n := 7) (Nat.le_of_ble_eq_true rfl)
  rw [lg_entry_eq]
  generalize (lg_sl ([.ref o, .int (nI K), .int (nI S), .int a]) ++ List.replicate (7 - (lg_sl ([.ref o, .int (nI K), .int (nI S), .int a])).length) Slot.unset).toArray = ls at hl ⊢
  have hl : lv_has ls 7 [(0, .ref o), (1, .int (nI K)), (2, .int (nI S)), (3, .int a)] := hl
  refine lv_iconst (v := 2) hx hb d_T_source_0 (by decide) ?_
  refine lv_istore (lv' := [(4, .int 2), (0, .ref o), (1, .int (nI K)), (2, .int (nI S)), (3, .int a)]) hx hb d_T_source_1 hl (by decide) rfl (fun ls hl => ?_)
  have loop_3 : ∀ (f3 : Nat) (E : Nat) (m9 : Nat) (x4 : Int32) (ls : Array Slot), (E + m9 = 18 ∧ m9 < f3 ∧ x4 = nI E ∧ 2 ≤ E ∧ sE n d g K S a.toInt m9 E = src n d g K S a.toInt) → lv_has ls 7 [(0, .ref o), (1, .int (nI K)), (2, .int (nI S)), (3, .int a), (4, .int x4)] → W p l e (headSpec (wq y_T_source c_T_source 7 (some .int)) ({ frames := 3, cells := 0, slots := 0, locals := 69 })).room s m ([.ref o, .int (nI K), .int (nI S), .int a] : List Value).toArray below meth c s.heap [] 0 0 (MQ below (vp_Si (fun r => r.toInt = src n d g K S a.toInt)) ([.ref o, .int (nI K), .int (nI S), .int a] : List Value).toArray s 0 0 (fun _ => False)) (F0 m 3 ls []) := by
    intro f3
    induction f3 with
    | zero =>
      intro E m9 x4 ls hI hl
      obtain ⟨ht1, ht2, rfl, hE2, hq⟩ := hI
      omega
    | succ f3 ih3 =>
      intro E m9 x4 ls hI hl
      obtain ⟨ht1, ht2, rfl, hE2, hq⟩ := hI
      refine lv_iload hx hb d_T_source_3 (lv_at hl 4 rfl) ?_
      refine lv_bipush (v := 18) hx hb d_T_source_5 (by decide) ?_
      refine lv_icmp_ge (tgt := 61) hx hb d_T_source_7 (by decide) (fun c_7 => ?_) (fun c_7 => ?_)
      · refine lv_iload_n hx hb d_T_source_61 rfl (lv_at hl 3 rfl) ?_
        refine lv_if_lt (tgt := 82) hx hb d_T_source_62 (by decide) (fun c_62 => ?_) (fun c_62 => ?_)
        · refine lv_iconst (v := (-1)) hx hb d_T_source_82 (by decide) ?_
          exact W.iret hx hb hr (fun t9 ht hW => ⟨_, rfl, (by rw [← hq]; (first | rw [sE_e1 hS9 c_11] | rw [sE_e2 ht1 c_7]); (first | exact tm_1 ha1 c_62 | exact tm_2 hK9 ha1 ha2 c_73 | exact tm_3 hK9 ha1 ha2 c_62 c_73)), ht⟩) t_nil2 d_T_source_83
        · refine lv_aload_n hx hb d_T_source_65 rfl (lv_at hl 0 rfl) ?_
          refine lv_iload_n hx hb d_T_source_66 rfl (lv_at hl 3 rfl) ?_
          refine lv_iload_n hx hb d_T_source_67 rfl (lv_at hl 1 rfl) ?_
          refine lv_isub hx hb d_T_source_68 ?_
          refine lv_i2l (v := (a - (nI K)).toInt64) hx hb d_T_source_69 rfl ?_
          refine vp_callSi (va_Run.run (va_runV (As := [.long ((a - (nI K)).toInt64)]) (rest := []) ⟨hx, hb, hml, hown, hg⟩ (c_T_isKnown_ok l D cI cZ cJ cO o dT gT la ca aa na ya ta n ns nn nr d g sl cr ak no ye tl th be bp bm bo h4 h64 hd ((a - (nI K)).toInt64)) (cwV 1 hg (gv g_720 g_722 g_11 g_26 g_723) rfl rfl rfl (by decide +kernel) ⟨Nat.le_of_ble_eq_true rfl, Nat.le_of_ble_eq_true rfl⟩) (pV hP hK hN (va_recv hK hP (ci := 7) (q0 := 0) rfl rfl)) rfl rfl hl.1 rfl (lv_room (Nat.le_of_ble_eq_true rfl)) d_T_source_70 ⟨Nat.zero_le _, Nat.zero_le _⟩)) (fun r_1 hr_1 => ?_)
          subst hr_1
          refine lv_if_eq (tgt := 82) hx hb d_T_source_73 (by decide) (fun c_73 => ?_) (fun c_73 => ?_)
          · refine lv_iconst (v := (-1)) hx hb d_T_source_82 (by decide) ?_
            exact W.iret hx hb hr (fun t9 ht hW => ⟨_, rfl, (by rw [← hq]; (first | rw [sE_e1 hS9 c_11] | rw [sE_e2 ht1 c_7]); (first | exact tm_1 ha1 c_62 | exact tm_2 hK9 ha1 ha2 c_73 | exact tm_3 hK9 ha1 ha2 c_62 c_73)), ht⟩) t_nil2 d_T_source_83
          · refine lv_iload_n hx hb d_T_source_76 rfl (lv_at hl 3 rfl) ?_
            refine lv_iload_n hx hb d_T_source_77 rfl (lv_at hl 1 rfl) ?_
            refine lv_isub hx hb d_T_source_78 ?_
            refine lv_goto (tgt := 83) hx hb d_T_source_79 (by decide) ?_
            exact W.iret hx hb hr (fun t9 ht hW => ⟨_, rfl, (by rw [← hq]; (first | rw [sE_e1 hS9 c_11] | rw [sE_e2 ht1 c_7]); (first | exact tm_1 ha1 c_62 | exact tm_2 hK9 ha1 ha2 c_73 | exact tm_3 hK9 ha1 ha2 c_62 c_73)), ht⟩) t_nil2 d_T_source_83
      · have hE8 : E < 18 := sE_t ht1 c_7
        obtain ⟨m9, rfl⟩ : ∃ m1, m9 = m1 + 1 := ⟨m9 - 1, by omega⟩
        refine lv_iload_n hx hb d_T_source_10 rfl (lv_at hl 2 rfl) ?_
        refine lv_if_le (tgt := 61) hx hb d_T_source_11 (by decide) (fun c_11 => ?_) (fun c_11 => ?_)
        · refine lv_iload_n hx hb d_T_source_61 rfl (lv_at hl 3 rfl) ?_
          refine lv_if_lt (tgt := 82) hx hb d_T_source_62 (by decide) (fun c_62 => ?_) (fun c_62 => ?_)
          · refine lv_iconst (v := (-1)) hx hb d_T_source_82 (by decide) ?_
            exact W.iret hx hb hr (fun t9 ht hW => ⟨_, rfl, (by rw [← hq]; (first | rw [sE_e1 hS9 c_11] | rw [sE_e2 ht1 c_7]); (first | exact tm_1 ha1 c_62 | exact tm_2 hK9 ha1 ha2 c_73 | exact tm_3 hK9 ha1 ha2 c_62 c_73)), ht⟩) t_nil2 d_T_source_83
          · refine lv_aload_n hx hb d_T_source_65 rfl (lv_at hl 0 rfl) ?_
            refine lv_iload_n hx hb d_T_source_66 rfl (lv_at hl 3 rfl) ?_
            refine lv_iload_n hx hb d_T_source_67 rfl (lv_at hl 1 rfl) ?_
            refine lv_isub hx hb d_T_source_68 ?_
            refine lv_i2l (v := (a - (nI K)).toInt64) hx hb d_T_source_69 rfl ?_
            refine vp_callSi (va_Run.run (va_runV (As := [.long ((a - (nI K)).toInt64)]) (rest := []) ⟨hx, hb, hml, hown, hg⟩ (c_T_isKnown_ok l D cI cZ cJ cO o dT gT la ca aa na ya ta n ns nn nr d g sl cr ak no ye tl th be bp bm bo h4 h64 hd ((a - (nI K)).toInt64)) (cwV 1 hg (gv g_720 g_722 g_11 g_26 g_723) rfl rfl rfl (by decide +kernel) ⟨Nat.le_of_ble_eq_true rfl, Nat.le_of_ble_eq_true rfl⟩) (pV hP hK hN (va_recv hK hP (ci := 7) (q0 := 0) rfl rfl)) rfl rfl hl.1 rfl (lv_room (Nat.le_of_ble_eq_true rfl)) d_T_source_70 ⟨Nat.zero_le _, Nat.zero_le _⟩)) (fun r_2 hr_2 => ?_)
            subst hr_2
            refine lv_if_eq (tgt := 82) hx hb d_T_source_73 (by decide) (fun c_73 => ?_) (fun c_73 => ?_)
            · refine lv_iconst (v := (-1)) hx hb d_T_source_82 (by decide) ?_
              exact W.iret hx hb hr (fun t9 ht hW => ⟨_, rfl, (by rw [← hq]; (first | rw [sE_e1 hS9 c_11] | rw [sE_e2 ht1 c_7]); (first | exact tm_1 ha1 c_62 | exact tm_2 hK9 ha1 ha2 c_73 | exact tm_3 hK9 ha1 ha2 c_62 c_73)), ht⟩) t_nil2 d_T_source_83
            · refine lv_iload_n hx hb d_T_source_76 rfl (lv_at hl 3 rfl) ?_
              refine lv_iload_n hx hb d_T_source_77 rfl (lv_at hl 1 rfl) ?_
              refine lv_isub hx hb d_T_source_78 ?_
              refine lv_goto (tgt := 83) hx hb d_T_source_79 (by decide) ?_
              exact W.iret hx hb hr (fun t9 ht hW => ⟨_, rfl, (by rw [← hq]; (first | rw [sE_e1 hS9 c_11] | rw [sE_e2 ht1 c_7]); (first | exact tm_1 ha1 c_62 | exact tm_2 hK9 ha1 ha2 c_73 | exact tm_3 hK9 ha1 ha2 c_62 c_73)), ht⟩) t_nil2 d_T_source_83
        · refine lv_iload_n hx hb d_T_source_14 rfl (lv_at hl 1 rfl) ?_
          refine lv_i2l (v := (nI K).toInt64) hx hb d_T_source_15 rfl ?_
          refine lv_iload hx hb d_T_source_16 (lv_at hl 4 rfl) ?_
          refine lv_iconst (v := 2) hx hb d_T_source_18 (by decide) ?_
          refine lv_irem hx hb d_T_source_19 (by decide) ?_
          refine lv_if_ne (tgt := 29) hx hb d_T_source_20 (by decide) (fun c_20 => ?_) (fun c_20 => ?_)
          · refine lv_lconst (v := 1) hx hb d_T_source_29 (by decide) ?_
            refine lv_iload hx hb d_T_source_30 (lv_at hl 4 rfl) ?_
            refine lv_iconst (v := 2) hx hb d_T_source_32 (by decide) ?_
            refine lv_idiv hx hb d_T_source_33 (by decide) ?_
            refine lv_i2l (v := ((nI E) / 2).toInt64) hx hb d_T_source_34 rfl ?_
            refine lv_lmul hx hb d_T_source_35 ?_
            refine lv_iload_n hx hb d_T_source_36 rfl (lv_at hl 2 rfl) ?_
            refine lv_i2l (v := (nI S).toInt64) hx hb d_T_source_37 rfl ?_
            refine lv_lmul hx hb d_T_source_38 ?_
            refine lv_ladd hx hb d_T_source_39 ?_
            refine lv_lstore (lv' := [(5, .long (((nI K).toInt64) + ((1 * (((nI E) / 2).toInt64)) * ((nI S).toInt64)))), (0, .ref o), (1, .int (nI K)), (2, .int (nI S)), (3, .int a), (4, .int (nI E))]) hx hb d_T_source_40 hl (by decide) rfl (fun ls hl => ?_)
            refine lv_aload_n hx hb d_T_source_42 rfl (lv_at hl 1 rfl) ?_
            refine lv_lload hx hb d_T_source_43 (lv_at hl 0 rfl) ?_
            refine vp_callSi (va_Run.run (va_runV (As := [.long (((nI K).toInt64) + ((1 * (((nI E) / 2).toInt64)) * ((nI S).toInt64)))]) (rest := []) ⟨hx, hb, hml, hown, hg⟩ (c_T_isKnown_ok l D cI cZ cJ cO o dT gT la ca aa na ya ta n ns nn nr d g sl cr ak no ye tl th be bp bm bo h4 h64 hd (((nI K).toInt64) + ((1 * (((nI E) / 2).toInt64)) * ((nI S).toInt64)))) (cwV 1 hg (gv g_720 g_722 g_11 g_26 g_723) rfl rfl rfl (by decide +kernel) ⟨Nat.le_of_ble_eq_true rfl, Nat.le_of_ble_eq_true rfl⟩) (pV hP hK hN (va_recv hK hP (ci := 7) (q0 := 0) rfl rfl)) rfl rfl hl.1 rfl (lv_room (Nat.le_of_ble_eq_true rfl)) d_T_source_45 ⟨Nat.zero_le _, Nat.zero_le _⟩)) (fun r_3 hr_3 => ?_)
            subst hr_3
            refine lv_if_eq (tgt := 55) hx hb d_T_source_48 (by decide) (fun c_48 => ?_) (fun c_48 => ?_)
            · refine lv_iinc (v := (nI E) + 1) (lv' := [(4, .int ((nI E) + 1)), (5, .long (((nI K).toInt64) + ((1 * (((nI E) / 2).toInt64)) * ((nI S).toInt64)))), (0, .ref o), (1, .int (nI K)), (2, .int (nI S)), (3, .int a)]) hx hb d_T_source_55 hl (k := 5) rfl rfl (by decide) rfl (fun ls hl => ?_)
              refine lv_goto (tgt := 3) hx hb d_T_source_58 (by decide) ?_
              exact ih3 (E + 1) m9 ((nI E) + 1) ls (⟨by omega, by omega, nI_1 E, by omega, (sE_n (by rw [if_neg (e_od (by omega) c_20)]; exact at_p hK9 (by omega) hS9) c_48).trans hq⟩) (lv_sub hl [2, 3, 4, 5, 0] rfl)
            · refine lv_lload hx hb d_T_source_51 (lv_at hl 0 rfl) ?_
              refine lv_l2i (v := (((nI K).toInt64) + ((1 * (((nI E) / 2).toInt64)) * ((nI S).toInt64))).toInt32) hx hb d_T_source_53 rfl ?_
              exact W.iret hx hb hr (fun t9 ht hW => ⟨_, rfl, (by dsimp only; rw [k32 h64 (kn_hs (bI_ne0 c_48)), ← hq]; exact sE_y c_11 hS9 (by rw [if_neg (e_od (by omega) c_20)]; exact at_p hK9 (by omega) hS9) c_48), ht⟩) t_nil2 d_T_source_54
          · refine lv_ldc2 (v := (-1)) hx hb hown (hg _ g_706) d_T_source_23 ?_
            refine lv_goto (tgt := 30) hx hb d_T_source_26 (by decide) ?_
            refine lv_iload hx hb d_T_source_30 (lv_at hl 4 rfl) ?_
            refine lv_iconst (v := 2) hx hb d_T_source_32 (by decide) ?_
            refine lv_idiv hx hb d_T_source_33 (by decide) ?_
            refine lv_i2l (v := ((nI E) / 2).toInt64) hx hb d_T_source_34 rfl ?_
            refine lv_lmul hx hb d_T_source_35 ?_
            refine lv_iload_n hx hb d_T_source_36 rfl (lv_at hl 2 rfl) ?_
            refine lv_i2l (v := (nI S).toInt64) hx hb d_T_source_37 rfl ?_
            refine lv_lmul hx hb d_T_source_38 ?_
            refine lv_ladd hx hb d_T_source_39 ?_
            refine lv_lstore (lv' := [(5, .long (((nI K).toInt64) + (((-1) * (((nI E) / 2).toInt64)) * ((nI S).toInt64)))), (0, .ref o), (1, .int (nI K)), (2, .int (nI S)), (3, .int a), (4, .int (nI E))]) hx hb d_T_source_40 hl (by decide) rfl (fun ls hl => ?_)
            refine lv_aload_n hx hb d_T_source_42 rfl (lv_at hl 1 rfl) ?_
            refine lv_lload hx hb d_T_source_43 (lv_at hl 0 rfl) ?_
            refine vp_callSi (va_Run.run (va_runV (As := [.long (((nI K).toInt64) + (((-1) * (((nI E) / 2).toInt64)) * ((nI S).toInt64)))]) (rest := []) ⟨hx, hb, hml, hown, hg⟩ (c_T_isKnown_ok l D cI cZ cJ cO o dT gT la ca aa na ya ta n ns nn nr d g sl cr ak no ye tl th be bp bm bo h4 h64 hd (((nI K).toInt64) + (((-1) * (((nI E) / 2).toInt64)) * ((nI S).toInt64)))) (cwV 1 hg (gv g_720 g_722 g_11 g_26 g_723) rfl rfl rfl (by decide +kernel) ⟨Nat.le_of_ble_eq_true rfl, Nat.le_of_ble_eq_true rfl⟩) (pV hP hK hN (va_recv hK hP (ci := 7) (q0 := 0) rfl rfl)) rfl rfl hl.1 rfl (lv_room (Nat.le_of_ble_eq_true rfl)) d_T_source_45 ⟨Nat.zero_le _, Nat.zero_le _⟩)) (fun r_4 hr_4 => ?_)
            subst hr_4
            refine lv_if_eq (tgt := 55) hx hb d_T_source_48 (by decide) (fun c_48 => ?_) (fun c_48 => ?_)
            · refine lv_iinc (v := (nI E) + 1) (lv' := [(4, .int ((nI E) + 1)), (5, .long (((nI K).toInt64) + (((-1) * (((nI E) / 2).toInt64)) * ((nI S).toInt64)))), (0, .ref o), (1, .int (nI K)), (2, .int (nI S)), (3, .int a)]) hx hb d_T_source_55 hl (k := 5) rfl rfl (by decide) rfl (fun ls hl => ?_)
              refine lv_goto (tgt := 3) hx hb d_T_source_58 (by decide) ?_
              exact ih3 (E + 1) m9 ((nI E) + 1) ls (⟨by omega, by omega, nI_1 E, by omega, (sE_n (by rw [if_pos (e_ev (by omega) c_20)]; exact at_m hK9 (by omega) hS9) c_48).trans hq⟩) (lv_sub hl [2, 3, 4, 5, 0] rfl)
            · refine lv_lload hx hb d_T_source_51 (lv_at hl 0 rfl) ?_
              refine lv_l2i (v := (((nI K).toInt64) + (((-1) * (((nI E) / 2).toInt64)) * ((nI S).toInt64))).toInt32) hx hb d_T_source_53 rfl ?_
              exact W.iret hx hb hr (fun t9 ht hW => ⟨_, rfl, (by dsimp only; rw [k32 h64 (kn_hs (bI_ne0 c_48)), ← hq]; exact sE_y c_11 hS9 (by rw [if_pos (e_ev (by omega) c_20)]; exact at_m hK9 (by omega) hS9) c_48), ht⟩) t_nil2 d_T_source_54
  exact loop_3 17 2 16 2 ls (⟨by omega, by omega, rfl, by omega, sE_src⟩) (lv_sub hl [1, 2, 3, 4, 0] rfl)


theorem six {r : Nat} (hr : r < 2 ^ 20) : (6 : Int32) * nI r = nI (6 * r) := pk_mul 6 r
theorem sixk {r k : Nat} (hr : r < 2 ^ 20) : (6 : Int32) * nI r + nI k = nI (6 * r + k) := by rw [six hr, nI_add]
theorem v48 {r : Nat} (hr : r < 8) : vp_in ((6 : Int32) * nI r) 48 := by rw [six (by omega)]; exact vp_in_nI (by omega) (by decide)
theorem v48k {r k : Nat} (hr : r < 8) (hk : k < 6) : vp_in ((6 : Int32) * nI r + nI k) 48 := by rw [sixk (by omega)]; exact vp_in_nI (by omega) (by decide)
theorem c48 {r : Nat} (hr : r < 8) : ((6 : Int32) * nI r).toNatClampNeg = 6 * r := by rw [six (by omega)]; exact nI_clamp (by omega)
theorem c48k {r k : Nat} (hr : r < 8) (hk : k < 6) : ((6 : Int32) * nI r + nI k).toNatClampNeg = 6 * r + k := by rw [sixk (by omega)]; exact nI_clamp (by omega)
theorem dpt_in {n : Nat} {d : Nat → Int32} {k : Nat} (h : k < n) : dpt n d (k : Int) = d k := by
  rw [dpt, if_pos (hs_iff.mpr ⟨by omega, by omega⟩)]; rfl
theorem hT_1 {n : Nat} {d : Nat → Int32} {lo hi : Int32} {F j : Nat} (h : bI (hol n d lo hi F j) = 0) : (0 : Int32) = bI (hol n d lo hi F (j + 1)) := by rw [hol, bI_eq0 h]; rfl
theorem hT_2 {n : Nat} {d : Nat → Int32} {lo hi : Int32} {F j : Nat} (hn : n ≤ 64) (hj : F + j < n) (hlo : 0 ≤ lo.toInt) (h : d (nI (F + j)).toNatClampNeg < 0) : (0 : Int32) = bI (hol n d lo hi F (j + 1)) := by
  rw [nI_clamp (by omega), ilt, i0] at h
  rw [hol, show ((F : Int) + (j : Int)) = ((F + j : Nat) : Int) by omega, dpt_in hj, show iw (d (F + j)) lo hi = false by simp [iw]; omega, Bool.and_false]; rfl
theorem hT_3 {n : Nat} {d : Nat → Int32} {lo hi : Int32} {F j : Nat} (hn : n ≤ 64) (hj : F + j < n) (h : bI (lw (d (nI (F + j)).toNatClampNeg).toInt64 lo.toInt64 hi.toInt64) = 0) : (0 : Int32) = bI (hol n d lo hi F (j + 1)) := by
  rw [nI_clamp (by omega), lw_iw] at h
  rw [hol, show ((F : Int) + (j : Int)) = ((F + j : Nat) : Int) by omega, dpt_in hj, bI_eq0 h, Bool.and_false]; rfl
theorem hT_4 {n : Nat} {d : Nat → Int32} {lo hi : Int32} {F j : Nat} (hn : n ≤ 64) (hj : F + j < n) (h0 : ¬ bI (hol n d lo hi F j) = 0) (h : ¬ bI (lw (d (nI (F + j)).toNatClampNeg).toInt64 lo.toInt64 hi.toInt64) = 0) : (1 : Int32) = bI (hol n d lo hi F (j + 1)) := by
  rw [nI_clamp (by omega), lw_iw] at h
  rw [hol, show ((F : Int) + (j : Int)) = ((F + j : Nat) : Int) by omega, dpt_in hj, bI_ne0 h, bI_ne0 h0]; rfl

set_option maxHeartbeats 4000000 in
set_option maxRecDepth 100000 in
theorem c_T_holds_ok (l : Launch) (D : va_G) (cI cZ cJ cO : ClassId) (o dT gT la ca aa na ya ta : Nat) (n ns nn nr : Nat) (d g sl cr ak no ye tl : Nat → Int32) (th be bp bm : Int32) (bo : Int64) (h4 : 4 ≤ n) (h64 : n ≤ 64) (hd : dOK n d) (rr F T : Nat) (hr8 : rr < 8) (hF : tl (6 * rr) = nI F) (hT : tl (6 * rr + 1) = nI T) (hFT : F ≤ T) (hTn : T < n) (hlo : 0 ≤ (tl (6 * rr + 2)).toInt) : Met l y_T_holds (wq y_T_holds c_T_holds 4 (some .boolean)) ({ frames := 1, cells := 0, slots := 0, locals := 25 }) (rP D (TY cI cZ cJ cO) [(o, .inr (7, [.int th, .int (nI n), .ref dT, .ref gT, .int (nI ns), .ref la, .ref ca, .int (nI nn), .ref aa, .ref na, .ref ya, .int (nI nr), .ref ta, .int be, .int bp, .long bo, .int bm])), (dT, .inl (cI, 64, .inl d)), (gT, .inl (cZ, 64, .inl g)), (la, .inl (cI, 8, .inl sl)), (ca, .inl (cI, 128, .inl cr)), (aa, .inl (cI, 16, .inl ak)), (na, .inl (cI, 16, .inl no)), (ya, .inl (cI, 16, .inl ye)), (ta, .inl (cI, 48, .inl tl))] [.ref o, .int (nI rr)]) (vp_Si (fun r => r = bI (hol n d (tl (6 * rr + 2)) (tl (6 * rr + 3)) F (T + 1 - F)))) 0 0 (fun _ => False) := by
  refine Met.ofW (cc := c_T_holds) (maxL := 4) (ret := (some .boolean)) (by decide) rfl ?_
  intro p e s m args below meth c s₁ B hml hv
  obtain ⟨rfl, hP, hK, hN⟩ := hv
  have hx := B.exec
  have hb := B.bytes
  have hr := B.returns
  have hg := gt_h (atoms_spec (ws := (wq y_T_holds c_T_holds 4 (some .boolean))) B.pre)
  have hown : s.vm.findClass "RubbingMirrorsModel" = some m.cls := findClass_of_methodNamed B.named
  have hlocks := B.notSynchronized
  have hl := lv_entry ([.ref o, .int (nI rr)]) (n := 4) (Nat.le_of_ble_eq_true rfl)
  rw [lg_entry_eq]
  generalize (lg_sl ([.ref o, .int (nI rr)]) ++ List.replicate (4 - (lg_sl ([.ref o, .int (nI rr)])).length) Slot.unset).toArray = ls at hl ⊢
  have hl : lv_has ls 4 [(0, .ref o), (1, .int (nI rr))] := hl
  refine lv_iconst (v := 1) hx hb d_T_holds_0 (by decide) ?_
  refine lv_istore_n (lv' := [(2, .int 1), (0, .ref o), (1, .int (nI rr))]) hx hb d_T_holds_1 rfl hl (by decide) rfl (fun ls hl => ?_)
  refine lv_aload_n hx hb d_T_holds_2 rfl (lv_at hl 1 rfl) ?_
  refine va_get (D := D) (ci := 7) (v := .ref ta) (C := Q_T) (T := F_T) (N := 17) hx hb hg in_T hown hK hP 0 rfl rfl 12 (by decide) (hg _ g_651) (fun _ h9 => h9) rfl d_T_holds_3 ?_
  refine lv_bipush (v := 6) hx hb d_T_holds_6 (by decide) ?_
  refine lv_iload_n hx hb d_T_holds_8 rfl (lv_at hl 2 rfl) ?_
  refine lv_imul hx hb d_T_holds_9 ?_
  refine va_iald hx hb hK hP 8 0 rfl rfl (v48 hr8) d_T_holds_10 ?_
  refine lv_topi (fun y_1 ey_1 => ?_)
  obtain rfl : y_1 = nI F := ey_1.trans (by rw [c48 hr8]; exact hF)
  refine lv_istore_n (lv' := [(3, .int (nI F)), (2, .int 1), (0, .ref o), (1, .int (nI rr))]) hx hb d_T_holds_11 rfl hl (by decide) rfl (fun ls hl => ?_)
  have loop_12 : ∀ (f12 : Nat) (j : Nat) (x2 : Int32) (x3 : Int32) (ls : Array Slot), (j ≤ T + 1 - F ∧ T + 1 < F + j + f12 ∧ x2 = bI (hol n d (tl (6 * rr + 2)) (tl (6 * rr + 3)) F j) ∧ x3 = nI (F + j)) → lv_has ls 4 [(0, .ref o), (1, .int (nI rr)), (2, .int x2), (3, .int x3)] → W p l e (headSpec (wq y_T_holds c_T_holds 4 (some .boolean)) ({ frames := 1, cells := 0, slots := 0, locals := 25 })).room s m ([.ref o, .int (nI rr)] : List Value).toArray below meth c s.heap [] 0 0 (MQ below (vp_Si (fun r => r = bI (hol n d (tl (6 * rr + 2)) (tl (6 * rr + 3)) F (T + 1 - F)))) ([.ref o, .int (nI rr)] : List Value).toArray s 0 0 (fun _ => False)) (F0 m 12 ls []) := by
    intro f12
    induction f12 with
    | zero =>
      intro j x2 x3 ls hI hl
      obtain ⟨hj1, hj2, rfl, rfl⟩ := hI
      omega
    | succ f12 ih12 =>
      intro j x2 x3 ls hI hl
      obtain ⟨hj1, hj2, rfl, rfl⟩ := hI
      refine lv_iload_n hx hb d_T_holds_12 rfl (lv_at hl 3 rfl) ?_
      refine lv_aload_n hx hb d_T_holds_13 rfl (lv_at hl 0 rfl) ?_
      refine va_get (D := D) (ci := 7) (v := .ref ta) (C := Q_T) (T := F_T) (N := 17) hx hb hg in_T hown hK hP 0 rfl rfl 12 (by decide) (hg _ g_651) (fun _ h9 => h9) rfl d_T_holds_14 ?_
      refine lv_bipush (v := 6) hx hb d_T_holds_17 (by decide) ?_
      refine lv_iload_n hx hb d_T_holds_19 rfl (lv_at hl 1 rfl) ?_
      refine lv_imul hx hb d_T_holds_20 ?_
      refine lv_iconst (v := 1) hx hb d_T_holds_21 (by decide) ?_
      refine lv_iadd hx hb d_T_holds_22 ?_
      refine va_iald hx hb hK hP 8 0 rfl rfl (v48k (k := 1) hr8 (by omega)) d_T_holds_23 ?_
      refine lv_topi (fun y_2 ey_2 => ?_)
      obtain rfl : y_2 = nI T := ey_2.trans (by rw [show (1 : Int32) = nI 1 from rfl, c48k hr8 (by omega)]; exact hT)
      refine lv_icmp_gt (tgt := 89) hx hb d_T_holds_24 (by decide) (fun c_24 => ?_) (fun c_24 => ?_)
      · refine lv_iload_n hx hb d_T_holds_89 rfl (lv_at hl 2 rfl) ?_
        exact W.zret hx hb hr (nz_bI _) (fun t9 ht hW => ⟨_, rfl, (by rw [← hj_out (by omega) hj1 (by omega) c_24]), ht⟩) t_nil2 d_T_holds_90
      · refine lv_iload_n hx hb d_T_holds_27 rfl (lv_at hl 2 rfl) ?_
        refine lv_if_eq (tgt := 81) hx hb d_T_holds_28 (by decide) (fun c_28 => ?_) (fun c_28 => ?_)
        · refine lv_iconst (v := 0) hx hb d_T_holds_81 (by decide) ?_
          refine lv_istore_n (lv' := [(2, .int 0), (0, .ref o), (1, .int (nI rr)), (3, .int (nI (F + j)))]) hx hb d_T_holds_82 rfl hl (by decide) rfl (fun ls hl => ?_)
          refine lv_iinc (v := (nI (F + j)) + 1) (lv' := [(3, .int ((nI (F + j)) + 1)), (2, .int 0), (0, .ref o), (1, .int (nI rr))]) hx hb d_T_holds_83 hl (k := 3) rfl rfl (by decide) rfl (fun ls hl => ?_)
          refine lv_goto (tgt := 12) hx hb d_T_holds_86 (by decide) ?_
          exact ih12 (j + 1) 0 ((nI (F + j)) + 1) ls (⟨by have := hj_in (by omega) hj1 (by omega) c_24; omega, by omega, (by first | exact hT_1 c_28 | exact hT_2 h64 (by have := hj_in (by omega) hj1 (by omega) c_24; omega) hlo c_37 | exact hT_3 h64 (by have := hj_in (by omega) hj1 (by omega) c_24; omega) c_74 | exact hT_4 h64 (by have := hj_in (by omega) hj1 (by omega) c_24; omega) c_28 c_74), nI_1 _⟩) (lv_sub hl [2, 3, 1, 0] rfl)
        · refine lv_aload_n hx hb d_T_holds_31 rfl (lv_at hl 0 rfl) ?_
          refine va_get (D := D) (ci := 7) (v := .ref dT) (C := Q_T) (T := F_T) (N := 17) hx hb hg in_T hown hK hP 0 rfl rfl 2 (by decide) (hg _ g_641) (fun _ h9 => h9) rfl d_T_holds_32 ?_
          refine lv_iload_n hx hb d_T_holds_35 rfl (lv_at hl 3 rfl) ?_
          refine va_iald hx hb hK hP 1 0 rfl rfl (v64 h64 (by have := hj_in (by omega) hj1 (by omega) c_24; omega)) d_T_holds_36 ?_
          refine lv_if_lt (tgt := 81) hx hb d_T_holds_37 (by decide) (fun c_37 => ?_) (fun c_37 => ?_)
          · refine lv_iconst (v := 0) hx hb d_T_holds_81 (by decide) ?_
            refine lv_istore_n (lv' := [(2, .int 0), (0, .ref o), (1, .int (nI rr)), (3, .int (nI (F + j)))]) hx hb d_T_holds_82 rfl hl (by decide) rfl (fun ls hl => ?_)
            refine lv_iinc (v := (nI (F + j)) + 1) (lv' := [(3, .int ((nI (F + j)) + 1)), (2, .int 0), (0, .ref o), (1, .int (nI rr))]) hx hb d_T_holds_83 hl (k := 3) rfl rfl (by decide) rfl (fun ls hl => ?_)
            refine lv_goto (tgt := 12) hx hb d_T_holds_86 (by decide) ?_
            exact ih12 (j + 1) 0 ((nI (F + j)) + 1) ls (⟨by have := hj_in (by omega) hj1 (by omega) c_24; omega, by omega, (by first | exact hT_1 c_28 | exact hT_2 h64 (by have := hj_in (by omega) hj1 (by omega) c_24; omega) hlo c_37 | exact hT_3 h64 (by have := hj_in (by omega) hj1 (by omega) c_24; omega) c_74 | exact hT_4 h64 (by have := hj_in (by omega) hj1 (by omega) c_24; omega) c_28 c_74), nI_1 _⟩) (lv_sub hl [2, 3, 1, 0] rfl)
          · refine lv_aload_n hx hb d_T_holds_40 rfl (lv_at hl 0 rfl) ?_
            refine va_get (D := D) (ci := 7) (v := .ref dT) (C := Q_T) (T := F_T) (N := 17) hx hb hg in_T hown hK hP 0 rfl rfl 2 (by decide) (hg _ g_641) (fun _ h9 => h9) rfl d_T_holds_41 ?_
            refine lv_iload_n hx hb d_T_holds_44 rfl (lv_at hl 3 rfl) ?_
            refine va_iald hx hb hK hP 1 0 rfl rfl (v64 h64 (by have := hj_in (by omega) hj1 (by omega) c_24; omega)) d_T_holds_45 ?_
            refine lv_i2l (v := (d (nI (F + j)).toNatClampNeg).toInt64) hx hb d_T_holds_46 rfl ?_
            refine lv_aload_n hx hb d_T_holds_47 rfl (lv_at hl 0 rfl) ?_
            refine va_get (D := D) (ci := 7) (v := .ref ta) (C := Q_T) (T := F_T) (N := 17) hx hb hg in_T hown hK hP 0 rfl rfl 12 (by decide) (hg _ g_651) (fun _ h9 => h9) rfl d_T_holds_48 ?_
            refine lv_bipush (v := 6) hx hb d_T_holds_51 (by decide) ?_
            refine lv_iload_n hx hb d_T_holds_53 rfl (lv_at hl 1 rfl) ?_
            refine lv_imul hx hb d_T_holds_54 ?_
            refine lv_iconst (v := 2) hx hb d_T_holds_55 (by decide) ?_
            refine lv_iadd hx hb d_T_holds_56 ?_
            refine va_iald hx hb hK hP 8 0 rfl rfl (v48k (k := 2) hr8 (by omega)) d_T_holds_57 ?_
            refine lv_topi (fun y_3 ey_3 => ?_)
            obtain rfl : y_3 = tl (6 * rr + 2) := ey_3.trans (by rw [show (2 : Int32) = nI 2 from rfl, c48k hr8 (by omega)])
            refine lv_i2l (v := (tl (6 * rr + 2)).toInt64) hx hb d_T_holds_58 rfl ?_
            refine lv_aload_n hx hb d_T_holds_59 rfl (lv_at hl 0 rfl) ?_
            refine va_get (D := D) (ci := 7) (v := .ref ta) (C := Q_T) (T := F_T) (N := 17) hx hb hg in_T hown hK hP 0 rfl rfl 12 (by decide) (hg _ g_651) (fun _ h9 => h9) rfl d_T_holds_60 ?_
            refine lv_bipush (v := 6) hx hb d_T_holds_63 (by decide) ?_
            refine lv_iload_n hx hb d_T_holds_65 rfl (lv_at hl 1 rfl) ?_
            refine lv_imul hx hb d_T_holds_66 ?_
            refine lv_iconst (v := 3) hx hb d_T_holds_67 (by decide) ?_
            refine lv_iadd hx hb d_T_holds_68 ?_
            refine va_iald hx hb hK hP 8 0 rfl rfl (v48k (k := 3) hr8 (by omega)) d_T_holds_69 ?_
            refine lv_topi (fun y_4 ey_4 => ?_)
            obtain rfl : y_4 = tl (6 * rr + 3) := ey_4.trans (by rw [show (3 : Int32) = nI 3 from rfl, c48k hr8 (by omega)])
            refine lv_i2l (v := (tl (6 * rr + 3)).toInt64) hx hb d_T_holds_70 rfl ?_
            refine vp_callSi (va_Run.run (va_runS (As := [.long ((d (nI (F + j)).toNatClampNeg).toInt64), .long ((tl (6 * rr + 2)).toInt64), .long ((tl (6 * rr + 3)).toInt64)]) (rest := []) ⟨hx, hb, hml, hown, hg⟩ (c_T_isIn_ok l D cI cZ cJ cO ((d (nI (F + j)).toNatClampNeg).toInt64) ((tl (6 * rr + 2)).toInt64) ((tl (6 * rr + 3)).toInt64)) (va_cwS 3 hg (gs2 g_703 g_704 g_26 g_705) rfl rfl rfl (by decide +kernel) ⟨Nat.le_of_ble_eq_true rfl, Nat.le_of_ble_eq_true rfl⟩) (pS ba_nil hK hN) rfl rfl hl.1 rfl (lv_room (Nat.le_of_ble_eq_true rfl)) d_T_holds_71 ⟨Nat.zero_le _, Nat.zero_le _⟩)) (fun r_5 hr_5 => ?_)
            subst hr_5
            refine lv_if_eq (tgt := 81) hx hb d_T_holds_74 (by decide) (fun c_74 => ?_) (fun c_74 => ?_)
            · refine lv_iconst (v := 0) hx hb d_T_holds_81 (by decide) ?_
              refine lv_istore_n (lv' := [(2, .int 0), (0, .ref o), (1, .int (nI rr)), (3, .int (nI (F + j)))]) hx hb d_T_holds_82 rfl hl (by decide) rfl (fun ls hl => ?_)
              refine lv_iinc (v := (nI (F + j)) + 1) (lv' := [(3, .int ((nI (F + j)) + 1)), (2, .int 0), (0, .ref o), (1, .int (nI rr))]) hx hb d_T_holds_83 hl (k := 3) rfl rfl (by decide) rfl (fun ls hl => ?_)
              refine lv_goto (tgt := 12) hx hb d_T_holds_86 (by decide) ?_
              exact ih12 (j + 1) 0 ((nI (F + j)) + 1) ls (⟨by have := hj_in (by omega) hj1 (by omega) c_24; omega, by omega, (by first | exact hT_1 c_28 | exact hT_2 h64 (by have := hj_in (by omega) hj1 (by omega) c_24; omega) hlo c_37 | exact hT_3 h64 (by have := hj_in (by omega) hj1 (by omega) c_24; omega) c_74 | exact hT_4 h64 (by have := hj_in (by omega) hj1 (by omega) c_24; omega) c_28 c_74), nI_1 _⟩) (lv_sub hl [2, 3, 1, 0] rfl)
            · refine lv_iconst (v := 1) hx hb d_T_holds_77 (by decide) ?_
              refine lv_goto (tgt := 82) hx hb d_T_holds_78 (by decide) ?_
              refine lv_istore_n (lv' := [(2, .int 1), (0, .ref o), (1, .int (nI rr)), (3, .int (nI (F + j)))]) hx hb d_T_holds_82 rfl hl (by decide) rfl (fun ls hl => ?_)
              refine lv_iinc (v := (nI (F + j)) + 1) (lv' := [(3, .int ((nI (F + j)) + 1)), (2, .int 1), (0, .ref o), (1, .int (nI rr))]) hx hb d_T_holds_83 hl (k := 3) rfl rfl (by decide) rfl (fun ls hl => ?_)
              refine lv_goto (tgt := 12) hx hb d_T_holds_86 (by decide) ?_
              exact ih12 (j + 1) 1 ((nI (F + j)) + 1) ls (⟨by have := hj_in (by omega) hj1 (by omega) c_24; omega, by omega, (by first | exact hT_1 c_28 | exact hT_2 h64 (by have := hj_in (by omega) hj1 (by omega) c_24; omega) hlo c_37 | exact hT_3 h64 (by have := hj_in (by omega) hj1 (by omega) c_24; omega) c_74 | exact hT_4 h64 (by have := hj_in (by omega) hj1 (by omega) c_24; omega) c_28 c_74), nI_1 _⟩) (lv_sub hl [2, 3, 1, 0] rfl)
  exact loop_12 (T + 2) 0 1 (nI F) ls (⟨by omega, by omega, rfl, rfl⟩) (lv_sub hl [2, 3, 1, 0] rfl)
