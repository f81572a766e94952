
/-- where asking ends: s steps left, at node i -/
def lq (na nc ne : Nat → Int32) (b k : Int32) : Nat → Nat → Nat
  | 0, i => i
  | s + 1, i => if (decide (na i ≠ -1) && bit k (na i)) = true then lq na nc ne b k s (if bit b (na i) then ne i else nc i).toNatClampNeg else i
theorem lq_1 {na nc ne : Nat → Int32} {b k : Int32} {s i x : Nat} (h : ¬ bI (decide (na i ≠ -1) && bit k (na i)) = 0) (hx : (if bit b (na i) then ne i else nc i) = nI x) (h9 : x < 2 ^ 20) : lq na nc ne b k (s + 1) i = lq na nc ne b k s x := by
  rw [lq, if_pos (bI_ne0 h), hx, nI_clamp (by omega)]
theorem lq_0 {na nc ne : Nat → Int32} {b k : Int32} {s i : Nat} (h : bI (decide (na i ≠ -1) && bit k (na i)) = 0) : lq na nc ne b k s i = i := by
  cases s with
  | zero => rfl
  | succ s => rw [lq, if_neg (by rw [bI_eq0 h]; decide)]
theorem ln1 {c : Nat} (h : 0 < c) (h2 : c < 2 ^ 20) : nI c - 1 = nI (c - 1) := by
  rw [show (1 : Int32) = nI 1 from rfl, pk_sub (by omega)]
theorem st16 {j : Nat} (h : j ≤ 16) (h1 : 16 ≤ nI j) : j = 16 := by
  rcases Nat.lt_or_ge j 16 with q | q
  · exact absurd h1 (by rw [ile, nI_toInt (by omega)]; have e : (16 : Int32).toInt = 16 := rfl; omega)
  · omega
theorem st16n {j : Nat} (h : j ≤ 16) (h1 : ¬ 16 ≤ nI j) : j < 16 := by
  rcases Nat.lt_or_ge j 16 with q | q
  · exact q
  · exact absurd (by rw [show j = 16 by omega]; decide) h1
/-- the next node lies before -/
def nC (c : Nat) (na nc ne : Nat → Int32) : Prop := ∀ i, i < c → na i ≠ -1 → (∃ x, x < i ∧ nc i = nI x) ∧ (∃ x, x < i ∧ ne i = nI x)
theorem nC_n {c : Nat} {na nc ne : Nat → Int32} {b k : Int32} {i : Nat} (h : nC c na nc ne) (hi : i < c) (h1 : ¬ bI (decide (na i ≠ -1) && bit k (na i)) = 0) : ∃ x, x < i ∧ (if bit b (na i) then ne i else nc i) = nI x := by
  have h2 := bI_ne0 h1
  rw [Bool.and_eq_true, decide_eq_true_eq] at h2
  obtain ⟨⟨x, hx, ex⟩, ⟨z, hz, ez⟩⟩ := h i hi h2.1
  cases bit b (na i) with
  | true => exact ⟨z, hz, ez⟩
  | false => exact ⟨x, hx, ex⟩
theorem lq_lt {c : Nat} {na nc ne : Nat → Int32} {b k : Int32} (h : nC c na nc ne) (hc : c < 2 ^ 20) : ∀ (s i : Nat), i < c → lq na nc ne b k s i < c := by
  intro s
  induction s with
  | zero => intro i hi; exact hi
  | succ s ih =>
    intro i hi
    by_cases h1 : bI (decide (na i ≠ -1) && bit k (na i)) = 0
    · rw [lq_0 h1]; exact hi
    · obtain ⟨x, hx, ex⟩ := nC_n (b := b) h hi h1
      rw [lq_1 h1 ex (by omega)]
      exact ih x (by omega)
def aAsC (na nb : Nat → Int32) (e : Nat) : Int32 := if na e = -1 then nb e else -2 - na e
theorem e0z {c : Nat} (h : c < 2 ^ 20) (h1 : ¬ bI (decide (nI c = 0)) = 0) : nI c = 0 := decide_eq_true_eq.mp (bI_ne0 h1)
theorem e0n {c : Nat} (h : c < 2 ^ 20) (h1 : bI (decide (nI c = 0)) = 0) : 0 < c ∧ ¬ nI c = 0 := by
  have h2 := of_decide_eq_false (bI_eq0 h1)
  refine ⟨?_, h2⟩
  rcases Nat.eq_zero_or_pos c with q | q
  · rw [q] at h2; exact absurd rfl h2
  · exact q

set_option maxHeartbeats 4000000 in
set_option maxRecDepth 100000 in
/-- lastAsked: the node itself -/
theorem c_M_lastAsked_ok (l : Launch) (D : va_G) (cI cZ cJ cO : ClassId) (o r0 l1 l2 l3 bb : Nat) (x1 : Int32) (ea c9 n1 : Nat) (f : Nat → Option Nat) (tl9 : va_W) (qn : Nat → Nat) (na nb nc ne : Nat → Int32) (hc9 : c9 ≤ 16) (hcn : c9 ≤ n1) (hn1 : n1 ≤ 22) (hea : 0 < c9 → (ea, .inl (cO, n1, .inr (.inr (.inr (.inr f))))) ∈ tl9) (hnd : ∀ i, i < c9 → f i = some (qn i) ∧ (qn i, .inr (5, [.int (na i), .int (nb i), .int (nc i), .int (ne i)])) ∈ tl9) (hnC : nC c9 na nc ne) (h0 : 0 < c9) (b9 k9 : Int32) : Met l y_M_lastAsked (wq y_M_lastAsked c_M_lastAsked 7 (some (.object "RubbingMirrors$Node"))) ({ frames := 3, cells := 0, slots := 0, locals := 64 }) (rP D (TY cI cZ cJ cO) ([(o, .inr (3, [.ref r0, .ref l1, .ref l2, .ref l3, .ref bb])), (l2, .inr (0, [.int x1, .ref ea, .int (nI c9)]))] ++ tl9) [.ref o, .int b9, .int k9]) (va_Sr (fun r => r = lq na nc ne b9 k9 16 (c9 - 1)) (fun k => .ref (qn k))) 0 0 (fun _ => False) := by
  refine Met.ofW (cc := c_M_lastAsked) (maxL := 7) (ret := (some (.object "RubbingMirrors$Node"))) (by decide) rfl ?_
  intro p e s m args below meth c s₁ B hml hv
  obtain ⟨rfl, hP, hK, hN⟩ := hv
  have hx := B.exec
  have hb := B.bytes
  have hr := B.returns
  have hg := gt_h (atoms_spec (ws := (wq y_M_lastAsked c_M_lastAsked 7 (some (.object "RubbingMirrors$Node")))) B.pre)
  have hown : s.vm.findClass "RubbingMirrors" = some m.cls := findClass_of_methodNamed B.named
  have hlocks := B.notSynchronized
  have hl := lv_entry ([.ref o, .int b9, .int k9]) (n := 7) (Nat.le_of_ble_eq_true rfl)
  rw [lg_entry_eq]
  generalize (lg_sl ([.ref o, .int b9, .int k9]) ++ List.replicate (7 - (lg_sl ([.ref o, .int b9, .int k9])).length) Slot.unset).toArray = ls at hl ⊢
  have hl : lv_has ls 7 [(0, .ref o), (1, .int b9), (2, .int k9)] := hl
  refine lv_aload_n hx hb d_M_lastAsked_0 rfl (lv_at hl 0 rfl) ?_
  refine va_get (D := D) (ci := 3) (v := .ref l2) (C := Q_M) (T := F_M) (N := 5) hx hb hg in_M hown hK hP 0 rfl rfl 2 (by decide) (hg _ g_127) (fun _ h9 => h9) rfl d_M_lastAsked_1 ?_
  refine vp_callSi (va_Run.run (va_runV (As := []) (rest := []) ⟨hx, hb, hml, hown, hg⟩ (c_A_size_ok l D cI cZ cJ cO l2 x1 (nI c9) ea) (cwV 0 hg (gv g_378 g_379 g_380 g_21 g_381) rfl rfl rfl (by decide +kernel) ⟨Nat.le_of_ble_eq_true rfl, Nat.le_of_ble_eq_true rfl⟩) (pV (pk_c (hP 1 (l2, .inr (0, [.int x1, .ref ea, .int (nI c9)])) rfl) pk_nil9) hK hN (va_recv hK (pk_c (hP 1 (l2, .inr (0, [.int x1, .ref ea, .int (nI c9)])) rfl) pk_nil9) (ci := 0) (q0 := 0) rfl rfl)) rfl rfl hl.1 rfl (lv_room (Nat.le_of_ble_eq_true rfl)) d_M_lastAsked_4 ⟨Nat.zero_le _, Nat.zero_le _⟩)) (fun r_1 hr_1 => ?_)
  subst hr_1
  refine lv_iconst (v := 1) hx hb d_M_lastAsked_7 (by decide) ?_
  refine lv_isub hx hb d_M_lastAsked_8 ?_
  refine lv_istore_n (lv' := [(3, .int ((nI c9) - 1)), (0, .ref o), (1, .int b9), (2, .int k9)]) hx hb d_M_lastAsked_9 rfl hl (by decide) rfl (fun ls hl => ?_)
  refine lv_aload_n hx hb d_M_lastAsked_10 rfl (lv_at hl 1 rfl) ?_
  refine va_get (D := D) (ci := 3) (v := .ref l2) (C := Q_M) (T := F_M) (N := 5) hx hb hg in_M hown hK hP 0 rfl rfl 2 (by decide) (hg _ g_127) (fun _ h9 => h9) rfl d_M_lastAsked_11 ?_
  refine lv_iload_n hx hb d_M_lastAsked_14 rfl (lv_at hl 0 rfl) ?_
  refine lv_topi (fun y_2 ey_2 => ?_)
  obtain rfl : y_2 = nI (c9 - 1) := ey_2.trans (ln1 h0 (by omega))
  refine va_csq (va_Run.run (va_runV (As := [.int (nI (c9 - 1))]) (rest := []) ⟨hx, hb, hml, hown, hg⟩ (c_A_get_ok l D cI cZ cJ cO l2 x1 ea c9 n1 f (c9 - 1) (by omega) hcn (by omega)) (cwV 1 hg (gv g_456 g_457 g_458 g_21 g_459) rfl rfl rfl (by decide +kernel) ⟨Nat.le_of_ble_eq_true rfl, Nat.le_of_ble_eq_true rfl⟩) (pV (pk_c (hP 1 (l2, .inr (0, [.int x1, .ref ea, .int (nI c9)])) rfl) (pk_c (pk_m (q := (ea, .inl (cO, n1, .inr (.inr (.inr (.inr f)))))) hP (hea (by omega))) pk_nil9)) hK hN (va_recv hK (pk_c (hP 1 (l2, .inr (0, [.int x1, .ref ea, .int (nI c9)])) rfl) (pk_c (pk_m (q := (ea, .inl (cO, n1, .inr (.inr (.inr (.inr f)))))) hP (hea (by omega))) pk_nil9)) (ci := 0) (q0 := 0) rfl rfl)) rfl rfl hl.1 rfl (lv_room (Nat.le_of_ble_eq_true rfl)) d_M_lastAsked_15 ⟨Nat.zero_le _, Nat.zero_le _⟩)) (fun r_3 hr_3 => ?_)
  subst hr_3
  rw [(hnd (c9 - 1) (by omega)).1]
  refine W.eq (g2 := F0 m 18 ls [.ref (qn (c9 - 1))]) rfl ?_
  refine va_castY (C := Q_N) hx hb hown (hg _ g_518) (hN.1 _ nw_21) (va_recv hK (pk_c (pk_m (q := (qn (c9 - 1), .inr (5, [.int (na (c9 - 1)), .int (nb (c9 - 1)), .int (nc (c9 - 1)), .int (ne (c9 - 1))]))) hP (hnd (c9 - 1) (by omega)).2) pk_nil9) (ci := 5) (q0 := 0) rfl rfl) d_M_lastAsked_18 ?_
  refine lv_astore (lv' := [(4, .ref (qn (c9 - 1))), (3, .int ((nI c9) - 1)), (0, .ref o), (1, .int b9), (2, .int k9)]) hx hb d_M_lastAsked_21 hl (by decide) rfl (fun ls hl => ?_)
  refine lv_iconst (v := 0) hx hb d_M_lastAsked_23 (by decide) ?_
  refine lv_istore (lv' := [(5, .int 0), (4, .ref (qn (c9 - 1))), (3, .int ((nI c9) - 1)), (0, .ref o), (1, .int b9), (2, .int k9)]) hx hb d_M_lastAsked_24 hl (by decide) rfl (fun ls hl => ?_)
  have loop_26 : ∀ (f26 : Nat) (i j : Nat) (x4 : Nat) (x5 : Int32) (ls : Array Slot), (j ≤ 16 ∧ 16 < j + f26 ∧ i < c9 ∧ x4 = qn i ∧ x5 = nI j ∧ lq na nc ne b9 k9 16 (c9 - 1) = lq na nc ne b9 k9 (16 - j) i) → lv_has ls 7 [(0, .ref o), (1, .int b9), (2, .int k9), (3, .int ((nI c9) - 1)), (4, .ref x4), (5, .int x5)] → W p l e (headSpec (wq y_M_lastAsked c_M_lastAsked 7 (some (.object "RubbingMirrors$Node"))) ({ frames := 3, cells := 0, slots := 0, locals := 64 })).room s m ([.ref o, .int b9, .int k9] : List Value).toArray below meth c s.heap [] 0 0 (MQ below (va_Sr (fun r => r = lq na nc ne b9 k9 16 (c9 - 1)) (fun k => .ref (qn k))) ([.ref o, .int b9, .int k9] : List Value).toArray s 0 0 (fun _ => False)) (F0 m 26 ls []) := by
    intro f26
    induction f26 with
    | zero =>
      intro i j x4 x5 ls hI hl
      obtain ⟨hj1, hj2, hi, rfl, rfl, hq⟩ := hI
      omega
    | succ f26 ih26 =>
      intro i j x4 x5 ls hI hl
      obtain ⟨hj1, hj2, hi, rfl, rfl, hq⟩ := hI
      refine lv_iload hx hb d_M_lastAsked_26 (lv_at hl 5 rfl) ?_
      refine lv_bipush (v := 16) hx hb d_M_lastAsked_28 (by decide) ?_
      refine lv_icmp_ge (tgt := 80) hx hb d_M_lastAsked_30 (by decide) (fun c_30 => ?_) (fun c_30 => ?_)
      · refine lv_aload hx hb d_M_lastAsked_80 (lv_at hl 4 rfl) ?_
        exact W.aret hx hb hr (Or.inl ⟨_, rfl⟩) (Or.inr ⟨_, rfl⟩) (fun t9 ht hW => ⟨i, rfl, (by first | (rw [hq, st16 hj1 c_30, Nat.sub_self]; rfl) | rw [hq, lq_0 c_39]), ht⟩) t_nil2 d_M_lastAsked_82
      · refine lv_aload hx hb d_M_lastAsked_33 (lv_at hl 4 rfl) ?_
        refine lv_iload_n hx hb d_M_lastAsked_35 rfl (lv_at hl 2 rfl) ?_
        refine vp_callSi (va_Run.run (va_runV (As := [.int k9]) (rest := []) ⟨hx, hb, hml, hown, hg⟩ (c_N_isAnsweredBy_ok l D cI cZ cJ cO (qn i) (na i) (nb i) (nc i) (ne i) k9) (cwV 1 hg (gv g_566 g_567 g_568 g_38 g_569) rfl rfl rfl (by decide +kernel) ⟨Nat.le_of_ble_eq_true rfl, Nat.le_of_ble_eq_true rfl⟩) (pV (pk_c (pk_m (q := (qn i, .inr (5, [.int (na i), .int (nb i), .int (nc i), .int (ne i)]))) hP (hnd i hi).2) pk_nil9) hK hN (va_recv hK (pk_c (pk_m (q := (qn i, .inr (5, [.int (na i), .int (nb i), .int (nc i), .int (ne i)]))) hP (hnd i hi).2) pk_nil9) (ci := 5) (q0 := 0) rfl rfl)) rfl rfl hl.1 rfl (lv_room (Nat.le_of_ble_eq_true rfl)) d_M_lastAsked_36 ⟨Nat.zero_le _, Nat.zero_le _⟩)) (fun r_4 hr_4 => ?_)
        subst hr_4
        refine lv_if_eq (tgt := 80) hx hb d_M_lastAsked_39 (by decide) (fun c_39 => ?_) (fun c_39 => ?_)
        · refine lv_aload hx hb d_M_lastAsked_80 (lv_at hl 4 rfl) ?_
          exact W.aret hx hb hr (Or.inl ⟨_, rfl⟩) (Or.inr ⟨_, rfl⟩) (fun t9 ht hW => ⟨i, rfl, (by first | (rw [hq, st16 hj1 c_30, Nat.sub_self]; rfl) | rw [hq, lq_0 c_39]), ht⟩) t_nil2 d_M_lastAsked_82
        · obtain ⟨x9, hx9, ex9⟩ := nC_n (b := b9) hnC hi c_39
          have hi9 : x9 < c9 := by omega
          refine lv_aload hx hb d_M_lastAsked_42 (lv_at hl 4 rfl) ?_
          refine lv_iload_n hx hb d_M_lastAsked_44 rfl (lv_at hl 1 rfl) ?_
          refine vp_callSi (va_Run.run (va_runV (As := [.int b9]) (rest := []) ⟨hx, hb, hml, hown, hg⟩ (c_N_nextBy_ok l D cI cZ cJ cO (qn i) (na i) (nb i) (nc i) (ne i) b9) (cwV 1 hg (gv g_574 g_575 g_576 g_38 g_577) rfl rfl rfl (by decide +kernel) ⟨Nat.le_of_ble_eq_true rfl, Nat.le_of_ble_eq_true rfl⟩) (pV (pk_c (pk_m (q := (qn i, .inr (5, [.int (na i), .int (nb i), .int (nc i), .int (ne i)]))) hP (hnd i hi).2) pk_nil9) hK hN (va_recv hK (pk_c (pk_m (q := (qn i, .inr (5, [.int (na i), .int (nb i), .int (nc i), .int (ne i)]))) hP (hnd i hi).2) pk_nil9) (ci := 5) (q0 := 0) rfl rfl)) rfl rfl hl.1 rfl (lv_room (Nat.le_of_ble_eq_true rfl)) d_M_lastAsked_45 ⟨Nat.zero_le _, Nat.zero_le _⟩)) (fun r_5 hr_5 => ?_)
          subst hr_5
          refine lv_topi (fun y_6 ey_6 => ?_)
          obtain rfl : y_6 = nI x9 := ey_6.trans ex9
          refine lv_istore (lv' := [(6, .int (nI x9)), (0, .ref o), (1, .int b9), (2, .int k9), (3, .int ((nI c9) - 1)), (4, .ref (qn i)), (5, .int (nI j))]) hx hb d_M_lastAsked_48 hl (by decide) rfl (fun ls hl => ?_)
          refine lv_iload hx hb d_M_lastAsked_50 (lv_at hl 0 rfl) ?_
          refine lv_iconst (v := 0) hx hb d_M_lastAsked_52 (by decide) ?_
          refine lv_iload_n hx hb d_M_lastAsked_53 rfl (lv_at hl 4 rfl) ?_
          refine vp_callSi (va_Run.run (va_runS (As := [.int (nI x9), .int 0, .int ((nI c9) - 1)]) (rest := []) ⟨hx, hb, hml, hown, hg⟩ (c_M_isWithin_ok l D cI cZ cJ cO (nI x9) 0 ((nI c9) - 1)) (va_cwS 3 hg (gs2 g_233 g_234 g_18 g_235) rfl rfl rfl (by decide +kernel) ⟨Nat.le_of_ble_eq_true rfl, Nat.le_of_ble_eq_true rfl⟩) (pS ba_nil hK hN) rfl rfl hl.1 rfl (lv_room (Nat.le_of_ble_eq_true rfl)) d_M_lastAsked_54 ⟨Nat.zero_le _, Nat.zero_le _⟩)) (fun r_7 hr_7 => ?_)
          subst hr_7
          refine lv_if_eq (tgt := 74) hx hb d_M_lastAsked_57 (by decide) (fun c_57 => ?_) (fun c_57 => ?_)
          · exact absurd c_57 (iwI hi9 (by omega))
          · refine lv_aload_n hx hb d_M_lastAsked_60 rfl (lv_at hl 1 rfl) ?_
            refine va_get (D := D) (ci := 3) (v := .ref l2) (C := Q_M) (T := F_M) (N := 5) hx hb hg in_M hown hK hP 0 rfl rfl 2 (by decide) (hg _ g_127) (fun _ h9 => h9) rfl d_M_lastAsked_61 ?_
            refine lv_iload hx hb d_M_lastAsked_64 (lv_at hl 0 rfl) ?_
            refine va_csq (va_Run.run (va_runV (As := [.int (nI x9)]) (rest := []) ⟨hx, hb, hml, hown, hg⟩ (c_A_get_ok l D cI cZ cJ cO l2 x1 ea c9 n1 f x9 hi9 hcn (by omega)) (cwV 1 hg (gv g_456 g_457 g_458 g_21 g_459) rfl rfl rfl (by decide +kernel) ⟨Nat.le_of_ble_eq_true rfl, Nat.le_of_ble_eq_true rfl⟩) (pV (pk_c (hP 1 (l2, .inr (0, [.int x1, .ref ea, .int (nI c9)])) rfl) (pk_c (pk_m (q := (ea, .inl (cO, n1, .inr (.inr (.inr (.inr f)))))) hP (hea (by omega))) pk_nil9)) hK hN (va_recv hK (pk_c (hP 1 (l2, .inr (0, [.int x1, .ref ea, .int (nI c9)])) rfl) (pk_c (pk_m (q := (ea, .inl (cO, n1, .inr (.inr (.inr (.inr f)))))) hP (hea (by omega))) pk_nil9)) (ci := 0) (q0 := 0) rfl rfl)) rfl rfl hl.1 rfl (lv_room (Nat.le_of_ble_eq_true rfl)) d_M_lastAsked_66 ⟨Nat.zero_le _, Nat.zero_le _⟩)) (fun r_8 hr_8 => ?_)
            subst hr_8
            rw [(hnd x9 hi9).1]
            refine W.eq (g2 := F0 m 69 ls [.ref (qn x9)]) rfl ?_
            refine va_castY (C := Q_N) hx hb hown (hg _ g_518) (hN.1 _ nw_21) (va_recv hK (pk_c (pk_m (q := (qn x9, .inr (5, [.int (na x9), .int (nb x9), .int (nc x9), .int (ne x9)]))) hP (hnd x9 hi9).2) pk_nil9) (ci := 5) (q0 := 0) rfl rfl) d_M_lastAsked_69 ?_
            refine lv_astore (lv' := [(4, .ref (qn x9)), (6, .int (nI x9)), (0, .ref o), (1, .int b9), (2, .int k9), (3, .int ((nI c9) - 1)), (5, .int (nI j))]) hx hb d_M_lastAsked_72 hl (by decide) rfl (fun ls hl => ?_)
            refine lv_iinc (v := (nI j) + 1) (lv' := [(5, .int ((nI j) + 1)), (4, .ref (qn x9)), (6, .int (nI x9)), (0, .ref o), (1, .int b9), (2, .int k9), (3, .int ((nI c9) - 1))]) hx hb d_M_lastAsked_74 hl (k := 6) rfl rfl (by decide) rfl (fun ls hl => ?_)
            refine lv_goto (tgt := 26) hx hb d_M_lastAsked_77 (by decide) ?_
            exact ih26 x9 (j + 1) (qn x9) ((nI j) + 1) ls (⟨by have := st16n hj1 c_30; omega, by omega, hi9, rfl, nI_1 j, by have h17 := st16n hj1 c_30; rw [hq, show 16 - j = (16 - (j + 1)) + 1 by omega, lq_1 c_39 ex9 (by omega)]⟩) (lv_sub hl [3, 4, 5, 6, 1, 0] rfl)
  exact loop_26 17 (c9 - 1) 0 (qn (c9 - 1)) 0 ls (⟨by omega, by omega, by omega, rfl, rfl, rfl⟩) (lv_sub hl [3, 4, 5, 2, 1, 0] rfl)

set_option maxHeartbeats 4000000 in
set_option maxRecDepth 100000 in
/-- ask -/
theorem c_M_ask_ok (l : Launch) (hlt : l.stackTraces = false) (D : va_G) (cI cZ cJ cO : ClassId) (sz : Nat) (o r0 l1 l2 l3 bb : Nat) (x1 : Int32) (ea c9 n1 : Nat) (f : Nat → Option Nat) (tl9 : va_W) (qn : Nat → Nat) (na nb nc ne : Nat → Int32) (hc9 : c9 ≤ 16) (hcn : c9 ≤ n1) (hn1 : n1 ≤ 22) (hea : 0 < c9 → (ea, .inl (cO, n1, .inr (.inr (.inr (.inr f))))) ∈ tl9) (hnd : ∀ i, i < c9 → f i = some (qn i) ∧ (qn i, .inr (5, [.int (na i), .int (nb i), .int (nc i), .int (ne i)])) ∈ tl9) (hnC : nC c9 na nc ne) (b9 k9 : Int32) : vx_Met l y_M_ask (wq y_M_ask c_M_ask 4 (some .int)) ({ frames := 6, cells := 1, slots := 6, locals := 100 }) (tP D (TY cI cZ cJ cO) ([(o, .inr (3, [.ref r0, .ref l1, .ref l2, .ref l3, .ref bb])), (l2, .inr (0, [.int x1, .ref ea, .int (nI c9)]))] ++ tl9) [.ref o, .int b9, .int k9] sz) (va_Qi (fun (r : Int32) (u : va_W) => cAsk b9 k9 c9 = 0 ∧ u = [(o, .inr (3, [.ref r0, .ref l1, .ref l2, .ref l3, .ref bb])), (l2, .inr (0, [.int x1, .ref ea, .int (nI c9)]))] ++ tl9 ∧ r = aAsC na nb (lq na nc ne b9 k9 16 (c9 - 1))) (mB D (TY cI cZ cJ cO) (va_A ([(o, .inr (3, [.ref r0, .ref l1, .ref l2, .ref l3, .ref bb])), (l2, .inr (0, [.int x1, .ref ea, .int (nI c9)]))] ++ tl9) sz)) (va_A ([(o, .inr (3, [.ref r0, .ref l1, .ref l2, .ref l3, .ref bb])), (l2, .inr (0, [.int x1, .ref ea, .int (nI c9)]))] ++ tl9) sz)) (vx_X (fun (u : va_W) => u = [(o, .inr (3, [.ref r0, .ref l1, .ref l2, .ref l3, .ref bb])), (l2, .inr (0, [.int x1, .ref ea, .int (nI c9)]))] ++ tl9) (xB D (TY cI cZ cJ cO) (va_A ([(o, .inr (3, [.ref r0, .ref l1, .ref l2, .ref l3, .ref bb])), (l2, .inr (0, [.int x1, .ref ea, .int (nI c9)]))] ++ tl9) sz) (fun E => (cAsk b9 k9 c9 = 1 ∧ E = eA) ∨ (cAsk b9 k9 c9 = 2 ∧ E = eS))) (va_A ([(o, .inr (3, [.ref r0, .ref l1, .ref l2, .ref l3, .ref bb])), (l2, .inr (0, [.int x1, .ref ea, .int (nI c9)]))] ++ tl9) sz)) 1 6 (va_A ([(o, .inr (3, [.ref r0, .ref l1, .ref l2, .ref l3, .ref bb])), (l2, .inr (0, [.int x1, .ref ea, .int (nI c9)]))] ++ tl9) sz) := by
  refine vx_ofW (cc := c_M_ask) (maxL := 4) (ret := (some .int)) (by decide) rfl ?_
  intro p e s m args below meth c s₁ B hml hno hv
  obtain ⟨rfl, hsz, hP, hK, hD0, hN, hU, hV⟩ := hv
  have hx := B.exec
  have hb := B.bytes
  have hr := B.returns
  have hg := gt_h (atoms_spec (ws := (wq y_M_ask c_M_ask 4 (some .int))) B.pre)
  have hown : s.vm.findClass "RubbingMirrors" = some m.cls := findClass_of_methodNamed B.named
  have hlocks := B.notSynchronized
  subst hsz
  have hD := hD0.self (sz := s.heap.size)
  generalize hAe : va_A ([(o, .inr (3, [.ref r0, .ref l1, .ref l2, .ref l3, .ref bb])), (l2, .inr (0, [.int x1, .ref ea, .int (nI c9)]))] ++ tl9) s.heap.size = A at hD hU hV ⊢
  have hA : ∀ q : Nat, s.heap.size ≤ q → A q := fun q h => by rw [← hAe]; exact Or.inr h
  have hS : va_S A s.heap s.heap [] := va_S.rf
  have hl := lv_entry ([.ref o, .int b9, .int k9]) (n := 4) (Nat.le_of_ble_eq_true rfl)
  rw [lg_entry_eq]
  generalize (lg_sl ([.ref o, .int b9, .int k9]) ++ List.replicate (4 - (lg_sl ([.ref o, .int b9, .int k9])).length) Slot.unset).toArray = ls at hl ⊢
  have hl : lv_has ls 4 [(0, .ref o), (1, .int b9), (2, .int k9)] := hl
  refine lv_iload_n hx hb d_M_ask_0 rfl (lv_at hl 1 rfl) ?_
  refine lv_iconst (v := 0) hx hb d_M_ask_1 (by decide) ?_
  refine lv_ldc (v := 65535) hx hb hown (hg _ g_555) d_M_ask_2 ?_
  refine vp_callSi (va_Run.run (va_runS (As := [.int b9, .int 0, .int 65535]) (rest := []) ⟨hx, hb, hml, hown, hg⟩ (c_M_isWithin_ok l D cI cZ cJ cO b9 0 65535) (va_cwS 3 hg (gs2 g_233 g_234 g_18 g_235) rfl rfl rfl (by decide +kernel) ⟨Nat.le_of_ble_eq_true rfl, Nat.le_of_ble_eq_true rfl⟩) (pS ba_nil hK hN) rfl rfl hl.1 rfl (lv_room (Nat.le_of_ble_eq_true rfl)) d_M_ask_4 ⟨Nat.zero_le _, Nat.zero_le _⟩)) (fun r_1 hr_1 => ?_)
  subst hr_1
  refine lv_if_eq (tgt := 20) hx hb d_M_ask_7 (by decide) (fun c_7 => ?_) (fun c_7 => ?_)
  · exact thrw hx hb hlt hown hg hN x_A st_173 hU hV hS (by rw [hml]; exact hl.1) d_M_ask_20 d_M_ask_23 d_M_ask_24 d_M_ask_26 d_M_ask_29 hno (Nat.le_of_ble_eq_true rfl) (Nat.le_of_ble_eq_true rfl) (Nat.le_of_ble_eq_true rfl) (Nat.le_of_ble_eq_true rfl) hlocks hP hK hD rfl (Or.inl ⟨ca_1 c_7, rfl⟩) (Nat.le_of_ble_eq_true rfl) (Nat.le_of_ble_eq_true rfl)
  · refine lv_iload_n hx hb d_M_ask_10 rfl (lv_at hl 2 rfl) ?_
    refine lv_iconst (v := 0) hx hb d_M_ask_11 (by decide) ?_
    refine lv_ldc (v := 65535) hx hb hown (hg _ g_555) d_M_ask_12 ?_
    refine vp_callSi (va_Run.run (va_runS (As := [.int k9, .int 0, .int 65535]) (rest := []) ⟨hx, hb, hml, hown, hg⟩ (c_M_isWithin_ok l D cI cZ cJ cO k9 0 65535) (va_cwS 3 hg (gs2 g_233 g_234 g_18 g_235) rfl rfl rfl (by decide +kernel) ⟨Nat.le_of_ble_eq_true rfl, Nat.le_of_ble_eq_true rfl⟩) (pS ba_nil hK hN) rfl rfl hl.1 rfl (lv_room (Nat.le_of_ble_eq_true rfl)) d_M_ask_14 ⟨Nat.zero_le _, Nat.zero_le _⟩)) (fun r_2 hr_2 => ?_)
    subst hr_2
    refine lv_if_ne (tgt := 30) hx hb d_M_ask_17 (by decide) (fun c_17 => ?_) (fun c_17 => ?_)
    · refine lv_aload_n hx hb d_M_ask_30 rfl (lv_at hl 0 rfl) ?_
      refine va_get (D := D) (ci := 3) (v := .ref l2) (C := Q_M) (T := F_M) (N := 5) hx hb hg in_M hown hK hP 0 rfl rfl 2 (by decide) (hg _ g_127) (fun _ h9 => h9) rfl d_M_ask_31 ?_
      refine vp_callSi (va_Run.run (va_runV (As := []) (rest := []) ⟨hx, hb, hml, hown, hg⟩ (c_A_isEmpty_ok l D cI cZ cJ cO l2 x1 (nI c9) ea) (cwV 0 hg (gv g_557 g_558 g_559 g_21 g_560) rfl rfl rfl (by decide +kernel) ⟨Nat.le_of_ble_eq_true rfl, Nat.le_of_ble_eq_true rfl⟩) (pV (pk_c (hP 1 (l2, .inr (0, [.int x1, .ref ea, .int (nI c9)])) rfl) pk_nil9) hK hN (va_recv hK (pk_c (hP 1 (l2, .inr (0, [.int x1, .ref ea, .int (nI c9)])) rfl) pk_nil9) (ci := 0) (q0 := 0) rfl rfl)) rfl rfl hl.1 rfl (lv_room (Nat.le_of_ble_eq_true rfl)) d_M_ask_34 ⟨Nat.zero_le _, Nat.zero_le _⟩)) (fun r_3 hr_3 => ?_)
      subst hr_3
      refine lv_if_eq (tgt := 50) hx hb d_M_ask_37 (by decide) (fun c_37 => ?_) (fun c_37 => ?_)
      · obtain ⟨h0, hn0⟩ := e0n (show c9 < 2 ^ 20 by omega) c_37
        refine lv_aload_n hx hb d_M_ask_50 rfl (lv_at hl 0 rfl) ?_
        refine lv_iload_n hx hb d_M_ask_51 rfl (lv_at hl 1 rfl) ?_
        refine lv_iload_n hx hb d_M_ask_52 rfl (lv_at hl 2 rfl) ?_
        refine va_csr (va_Run.run (va_runV (As := [.int b9, .int k9]) (rest := []) ⟨hx, hb, hml, hown, hg⟩ (c_M_lastAsked_ok l D cI cZ cJ cO o r0 l1 l2 l3 bb x1 ea c9 n1 f tl9 qn na nb nc ne hc9 hcn hn1 hea hnd hnC h0 b9 k9) (cwV 2 hg (gv g_562 g_564 g_8 g_18 g_565) rfl rfl rfl (by decide +kernel) ⟨Nat.le_of_ble_eq_true rfl, Nat.le_of_ble_eq_true rfl⟩) (pV hP hK hN (va_recv hK hP (ci := 3) (q0 := 0) rfl rfl)) rfl rfl hl.1 rfl (lv_room (Nat.le_of_ble_eq_true rfl)) d_M_ask_53 ⟨Nat.zero_le _, Nat.zero_le _⟩)) (fun e9 he9 => ?_)
        have hi : e9 < c9 := by rw [he9]; exact lq_lt hnC (by omega) 16 _ (by omega)
        refine W.eq (g2 := F0 m 56 ls [.ref (qn e9)]) rfl ?_
        refine lv_astore_n (lv' := [(3, .ref (qn e9)), (0, .ref o), (1, .int b9), (2, .int k9)]) hx hb d_M_ask_56 rfl hl (by decide) rfl (fun ls hl => ?_)
        refine lv_aload_n hx hb d_M_ask_57 rfl (lv_at hl 0 rfl) ?_
        refine vp_callSi (va_Run.run (va_runV (As := []) (rest := []) ⟨hx, hb, hml, hown, hg⟩ (c_N_isQuestion_ok l D cI cZ cJ cO (qn e9) (na e9) (nb e9) (nc e9) (ne e9)) (cwV 0 hg (gv g_578 g_571 g_572 g_38 g_573) rfl rfl rfl (by decide +kernel) ⟨Nat.le_of_ble_eq_true rfl, Nat.le_of_ble_eq_true rfl⟩) (pV (pk_c (pk_m (q := (qn e9, .inr (5, [.int (na e9), .int (nb e9), .int (nc e9), .int (ne e9)]))) hP (hnd e9 hi).2) pk_nil9) hK hN (va_recv hK (pk_c (pk_m (q := (qn e9, .inr (5, [.int (na e9), .int (nb e9), .int (nc e9), .int (ne e9)]))) hP (hnd e9 hi).2) pk_nil9) (ci := 5) (q0 := 0) rfl rfl)) rfl rfl hl.1 rfl (lv_room (Nat.le_of_ble_eq_true rfl)) d_M_ask_58 ⟨Nat.zero_le _, Nat.zero_le _⟩)) (fun r_5 hr_5 => ?_)
        subst hr_5
        refine lv_if_eq (tgt := 74) hx hb d_M_ask_61 (by decide) (fun c_61 => ?_) (fun c_61 => ?_)
        · refine lv_aload_n hx hb d_M_ask_74 rfl (lv_at hl 0 rfl) ?_
          refine va_getN (host := "RubbingMirrors") (D := D) (ci := 5) (v := .int (nb e9)) (C := Q_N) (T := F_N) (N := 4) hx hb hg in_N hown hK (pk_c (pk_m (q := (qn e9, .inr (5, [.int (na e9), .int (nb e9), .int (nc e9), .int (ne e9)]))) hP (hnd e9 hi).2) pk_nil9) 0 rfl rfl 1 (by decide) (va_Nw.use rfl (hN.1 _ nw_16)) (fun _ h9 => h9) rfl d_M_ask_75 ?_
          refine vx_ret ?_
          refine W.widen (k := 1) (n := 6) (by omega) (by omega) ?_
          exact W.iret hx hb hr (fun t9 ht hW => ⟨⟨_, ([(o, .inr (3, [.ref r0, .ref l1, .ref l2, .ref l3, .ref bb])), (l2, .inr (0, [.int x1, .ref ea, .int (nI c9)]))] ++ tl9), rfl, ⟨ca_0 c_7 c_17 hn0, rfl, by rw [← he9, aAsC, if_pos (Decidable.not_not.mp (of_decide_eq_false (bI_eq0 c_61)))]⟩, by rw [ht]; exact hP, va_K.moved hW.alike hK, hD⟩, hS.F ht⟩) hS.2.2 d_M_ask_78
        · refine lv_bipush (v := (-2)) hx hb d_M_ask_64 (by decide) ?_
          refine lv_aload_n hx hb d_M_ask_66 rfl (lv_at hl 0 rfl) ?_
          refine va_getN (host := "RubbingMirrors") (D := D) (ci := 5) (v := .int (na e9)) (C := Q_N) (T := F_N) (N := 4) hx hb hg in_N hown hK (pk_c (pk_m (q := (qn e9, .inr (5, [.int (na e9), .int (nb e9), .int (nc e9), .int (ne e9)]))) hP (hnd e9 hi).2) pk_nil9) 0 rfl rfl 0 (by decide) (va_Nw.use rfl (hN.1 _ nw_15)) (fun _ h9 => h9) rfl d_M_ask_67 ?_
          refine lv_isub hx hb d_M_ask_70 ?_
          refine lv_goto (tgt := 78) hx hb d_M_ask_71 (by decide) ?_
          refine vx_ret ?_
          refine W.widen (k := 1) (n := 6) (by omega) (by omega) ?_
          exact W.iret hx hb hr (fun t9 ht hW => ⟨⟨_, ([(o, .inr (3, [.ref r0, .ref l1, .ref l2, .ref l3, .ref bb])), (l2, .inr (0, [.int x1, .ref ea, .int (nI c9)]))] ++ tl9), rfl, ⟨ca_0 c_7 c_17 hn0, rfl, by rw [← he9, aAsC, if_neg (of_decide_eq_true (bI_ne0 c_61))]⟩, by rw [ht]; exact hP, va_K.moved hW.alike hK, hD⟩, hS.F ht⟩) hS.2.2 d_M_ask_78
      · exact thrw hx hb hlt hown hg hN x_S st_179 hU hV hS (by rw [hml]; exact hl.1) d_M_ask_40 d_M_ask_43 d_M_ask_44 d_M_ask_46 d_M_ask_49 hno (Nat.le_of_ble_eq_true rfl) (Nat.le_of_ble_eq_true rfl) (Nat.le_of_ble_eq_true rfl) (Nat.le_of_ble_eq_true rfl) hlocks hP hK hD rfl (Or.inr ⟨ca_3 c_7 c_17 (e0z (by omega) c_37), rfl⟩) (Nat.le_of_ble_eq_true rfl) (Nat.le_of_ble_eq_true rfl)
    · exact thrw hx hb hlt hown hg hN x_A st_173 hU hV hS (by rw [hml]; exact hl.1) d_M_ask_20 d_M_ask_23 d_M_ask_24 d_M_ask_26 d_M_ask_29 hno (Nat.le_of_ble_eq_true rfl) (Nat.le_of_ble_eq_true rfl) (Nat.le_of_ble_eq_true rfl) (Nat.le_of_ble_eq_true rfl) hlocks hP hK hD rfl (Or.inl ⟨ca_2 c_17, rfl⟩) (Nat.le_of_ble_eq_true rfl) (Nat.le_of_ble_eq_true rfl)


/-- the tale's span by the class: whether a rule holds, begin, end -/
def agC (n : Nat) (d : Nat → Int32) (F T : Nat → Nat) (ul ug uy uu : Nat → Int32) : Nat → Int32 × Int32 × Int32
  | 0 => (0, -10000, 10000)
  | r + 1 => if hol n d (ul r) (ug r) (F r) (T r + 1 - F r) = true then (1, (if (agC n d F T ul ug uy uu r).2.1 < uy r then uy r else (agC n d F T ul ug uy uu r).2.1), if uu r < (agC n d F T ul ug uy uu r).2.2 then uu r else (agC n d F T ul ug uy uu r).2.2) else agC n d F T ul ug uy uu r
def cAgC (w : Int32) (t : Int32 × Int32 × Int32) : Int32 := if iw w 0 1 then (if t.1 = 0 ∨ ¬ t.2.1 ≤ t.2.2 then 2 else 0) else 1
theorem cAgC_eq {w : Int32} {t : Int32 × Int32 × Int32} : cAgC w t = cAge w t := rfl
theorem ix_in {j c : Nat} (h : j ≤ c) (hc : c < 2 ^ 20) (h1 : ¬ nI c ≤ nI j) : j < c := by
  rcases Nat.lt_or_ge j c with q | q
  · exact q
  · exact absurd (by rw [show j = c by omega]; rw [ile]; exact Int.le_refl _) h1
theorem ix_out {j c : Nat} (h : j ≤ c) (hc : c < 2 ^ 20) (h1 : nI c ≤ nI j) : j = c := by
  rcases Nat.lt_or_ge j c with q | q
  · exact absurd h1 (by rw [ile, nI_toInt (by omega), nI_toInt (by omega)]; omega)
  · omega

set_option maxHeartbeats 4000000 in
set_option maxRecDepth 100000 in
/-- age -/
theorem c_M_age_ok (l : Launch) (hlt : l.stackTraces = false) (D : va_G) (cI cZ cJ cO : ClassId) (sz : Nat) (o r0 l1 l2 l3 bb da ga : Nat) (n : Nat) (d g : Nat → Int32) (h4 : 4 ≤ n) (h64 : n ≤ 64) (x1 : Int32) (ea c9 n1 : Nat) (f : Nat → Option Nat) (tl9 : va_W) (qu F T : Nat → Nat) (ul ug uy uu : Nat → Int32) (hc9 : c9 ≤ 8) (hcn : c9 ≤ n1) (hn1 : n1 ≤ 22) (hea : 0 < c9 → (ea, .inl (cO, n1, .inr (.inr (.inr (.inr f))))) ∈ tl9) (hnd : ∀ i, i < c9 → f i = some (qu i) ∧ (qu i, .inr (6, [.int (nI (F i)), .int (nI (T i)), .int (ul i), .int (ug i), .int (uy i), .int (uu i)])) ∈ tl9) (huC : ∀ i, i < c9 → F i ≤ T i ∧ T i < n) (w9 : Int32) : vx_Met l y_M_age (wq y_M_age c_M_age 7 (some .int)) ({ frames := 6, cells := 1, slots := 6, locals := 100 }) (tP D (TY cI cZ cJ cO) ([(o, .inr (3, [.ref r0, .ref l1, .ref l2, .ref l3, .ref bb])), (r0, .inr (2, [.ref da, .ref ga])), (da, .inl (cI, n, .inl d)), (ga, .inl (cZ, n, .inl g)), (l3, .inr (0, [.int x1, .ref ea, .int (nI c9)]))] ++ tl9) [.ref o, .int w9] sz) (va_Qi (fun (r : Int32) (u : va_W) => cAgC w9 (agC n d F T ul ug uy uu c9) = 0 ∧ u = [(o, .inr (3, [.ref r0, .ref l1, .ref l2, .ref l3, .ref bb])), (r0, .inr (2, [.ref da, .ref ga])), (da, .inl (cI, n, .inl d)), (ga, .inl (cZ, n, .inl g)), (l3, .inr (0, [.int x1, .ref ea, .int (nI c9)]))] ++ tl9 ∧ r = if w9 = 0 then (agC n d F T ul ug uy uu c9).2.1 else (agC n d F T ul ug uy uu c9).2.2) (mB D (TY cI cZ cJ cO) (va_A ([(o, .inr (3, [.ref r0, .ref l1, .ref l2, .ref l3, .ref bb])), (r0, .inr (2, [.ref da, .ref ga])), (da, .inl (cI, n, .inl d)), (ga, .inl (cZ, n, .inl g)), (l3, .inr (0, [.int x1, .ref ea, .int (nI c9)]))] ++ tl9) sz)) (va_A ([(o, .inr (3, [.ref r0, .ref l1, .ref l2, .ref l3, .ref bb])), (r0, .inr (2, [.ref da, .ref ga])), (da, .inl (cI, n, .inl d)), (ga, .inl (cZ, n, .inl g)), (l3, .inr (0, [.int x1, .ref ea, .int (nI c9)]))] ++ tl9) sz)) (vx_X (fun (u : va_W) => u = [(o, .inr (3, [.ref r0, .ref l1, .ref l2, .ref l3, .ref bb])), (r0, .inr (2, [.ref da, .ref ga])), (da, .inl (cI, n, .inl d)), (ga, .inl (cZ, n, .inl g)), (l3, .inr (0, [.int x1, .ref ea, .int (nI c9)]))] ++ tl9) (xB D (TY cI cZ cJ cO) (va_A ([(o, .inr (3, [.ref r0, .ref l1, .ref l2, .ref l3, .ref bb])), (r0, .inr (2, [.ref da, .ref ga])), (da, .inl (cI, n, .inl d)), (ga, .inl (cZ, n, .inl g)), (l3, .inr (0, [.int x1, .ref ea, .int (nI c9)]))] ++ tl9) sz) (fun E => (cAgC w9 (agC n d F T ul ug uy uu c9) = 1 ∧ E = eI) ∨ (cAgC w9 (agC n d F T ul ug uy uu c9) = 2 ∧ E = eS))) (va_A ([(o, .inr (3, [.ref r0, .ref l1, .ref l2, .ref l3, .ref bb])), (r0, .inr (2, [.ref da, .ref ga])), (da, .inl (cI, n, .inl d)), (ga, .inl (cZ, n, .inl g)), (l3, .inr (0, [.int x1, .ref ea, .int (nI c9)]))] ++ tl9) sz)) 1 6 (va_A ([(o, .inr (3, [.ref r0, .ref l1, .ref l2, .ref l3, .ref bb])), (r0, .inr (2, [.ref da, .ref ga])), (da, .inl (cI, n, .inl d)), (ga, .inl (cZ, n, .inl g)), (l3, .inr (0, [.int x1, .ref ea, .int (nI c9)]))] ++ tl9) sz) := by
  refine vx_ofW (cc := c_M_age) (maxL := 7) (ret := (some .int)) (by decide) rfl ?_
  intro p e s m args below meth c s₁ B hml hno hv
  obtain ⟨rfl, hsz, hP, hK, hD0, hN, hU, hV⟩ := hv
  have hx := B.exec
  have hb := B.bytes
  have hr := B.returns
  have hg := gt_h (atoms_spec (ws := (wq y_M_age c_M_age 7 (some .int))) B.pre)
  have hown : s.vm.findClass "RubbingMirrors" = some m.cls := findClass_of_methodNamed B.named
  have hlocks := B.notSynchronized
  subst hsz
  have hD := hD0.self (sz := s.heap.size)
  generalize hAe : va_A ([(o, .inr (3, [.ref r0, .ref l1, .ref l2, .ref l3, .ref bb])), (r0, .inr (2, [.ref da, .ref ga])), (da, .inl (cI, n, .inl d)), (ga, .inl (cZ, n, .inl g)), (l3, .inr (0, [.int x1, .ref ea, .int (nI c9)]))] ++ tl9) s.heap.size = A at hD hU hV ⊢
  have hA : ∀ q : Nat, s.heap.size ≤ q → A q := fun q h => by rw [← hAe]; exact Or.inr h
  have hS : va_S A s.heap s.heap [] := va_S.rf
  have hl := lv_entry ([.ref o, .int w9]) (n := 7) (Nat.le_of_ble_eq_true rfl)
  rw [lg_entry_eq]
  generalize (lg_sl ([.ref o, .int w9]) ++ List.replicate (7 - (lg_sl ([.ref o, .int w9])).length) Slot.unset).toArray = ls at hl ⊢
  have hl : lv_has ls 7 [(0, .ref o), (1, .int w9)] := hl
  refine lv_iload_n hx hb d_M_age_0 rfl (lv_at hl 1 rfl) ?_
  refine lv_iconst (v := 0) hx hb d_M_age_1 (by decide) ?_
  refine lv_iconst (v := 1) hx hb d_M_age_2 (by decide) ?_
  refine vp_callSi (va_Run.run (va_runS (As := [.int w9, .int 0, .int 1]) (rest := []) ⟨hx, hb, hml, hown, hg⟩ (c_M_isWithin_ok l D cI cZ cJ cO w9 0 1) (va_cwS 3 hg (gs2 g_233 g_234 g_18 g_235) rfl rfl rfl (by decide +kernel) ⟨Nat.le_of_ble_eq_true rfl, Nat.le_of_ble_eq_true rfl⟩) (pS ba_nil hK hN) rfl rfl hl.1 rfl (lv_room (Nat.le_of_ble_eq_true rfl)) d_M_age_3 ⟨Nat.zero_le _, Nat.zero_le _⟩)) (fun r_1 hr_1 => ?_)
  subst hr_1
  refine lv_if_ne (tgt := 19) hx hb d_M_age_6 (by decide) (fun c_6 => ?_) (fun c_6 => ?_)
  · refine lv_sipush (v := (-10000)) hx hb d_M_age_19 (by decide) ?_
    refine lv_istore_n (lv' := [(2, .int (-10000)), (0, .ref o), (1, .int w9)]) hx hb d_M_age_22 rfl hl (by decide) rfl (fun ls hl => ?_)
    refine lv_sipush (v := 10000) hx hb d_M_age_23 (by decide) ?_
    refine lv_istore_n (lv' := [(3, .int 10000), (2, .int (-10000)), (0, .ref o), (1, .int w9)]) hx hb d_M_age_26 rfl hl (by decide) rfl (fun ls hl => ?_)
    refine lv_iconst (v := 0) hx hb d_M_age_27 (by decide) ?_
    refine lv_istore (lv' := [(4, .int 0), (3, .int 10000), (2, .int (-10000)), (0, .ref o), (1, .int w9)]) hx hb d_M_age_28 hl (by decide) rfl (fun ls hl => ?_)
    refine lv_iconst (v := 0) hx hb d_M_age_30 (by decide) ?_
    refine lv_istore (lv' := [(5, .int 0), (4, .int 0), (3, .int 10000), (2, .int (-10000)), (0, .ref o), (1, .int w9)]) hx hb d_M_age_31 hl (by decide) rfl (fun ls hl => ?_)
    have loop_33 : ∀ (f33 : Nat) (j : Nat) (x2 : Int32) (x3 : Int32) (x4 : Int32) (x5 : Int32) (ls : Array Slot), (j ≤ c9 ∧ c9 < j + f33 ∧ x2 = (agC n d F T ul ug uy uu j).2.1 ∧ x3 = (agC n d F T ul ug uy uu j).2.2 ∧ x4 = (agC n d F T ul ug uy uu j).1 ∧ x5 = nI j) → lv_has ls 7 [(0, .ref o), (1, .int w9), (2, .int x2), (3, .int x3), (4, .int x4), (5, .int x5)] → W p l e (headSpec (wq y_M_age c_M_age 7 (some .int)) ({ frames := 6, cells := 1, slots := 6, locals := 100 })).room s m ([.ref o, .int w9] : List Value).toArray below meth c s.heap [] 0 0 (vx_MQ below (va_Qi (fun (r : Int32) (u : va_W) => cAgC w9 (agC n d F T ul ug uy uu c9) = 0 ∧ u = [(o, .inr (3, [.ref r0, .ref l1, .ref l2, .ref l3, .ref bb])), (r0, .inr (2, [.ref da, .ref ga])), (da, .inl (cI, n, .inl d)), (ga, .inl (cZ, n, .inl g)), (l3, .inr (0, [.int x1, .ref ea, .int (nI c9)]))] ++ tl9 ∧ r = if w9 = 0 then (agC n d F T ul ug uy uu c9).2.1 else (agC n d F T ul ug uy uu c9).2.2) (mB D (TY cI cZ cJ cO) A) A) (vx_X (fun (u : va_W) => u = [(o, .inr (3, [.ref r0, .ref l1, .ref l2, .ref l3, .ref bb])), (r0, .inr (2, [.ref da, .ref ga])), (da, .inl (cI, n, .inl d)), (ga, .inl (cZ, n, .inl g)), (l3, .inr (0, [.int x1, .ref ea, .int (nI c9)]))] ++ tl9) (xB D (TY cI cZ cJ cO) A (fun E => (cAgC w9 (agC n d F T ul ug uy uu c9) = 1 ∧ E = eI) ∨ (cAgC w9 (agC n d F T ul ug uy uu c9) = 2 ∧ E = eS))) A) ([.ref o, .int w9] : List Value).toArray s 1 6 A) (F0 m 33 ls []) := by
      intro f33
      induction f33 with
      | zero =>
        intro j x2 x3 x4 x5 ls hI hl
        obtain ⟨hj1, hj2, rfl, rfl, rfl, rfl⟩ := hI
        omega
      | succ f33 ih33 =>
        intro j x2 x3 x4 x5 ls hI hl
        obtain ⟨hj1, hj2, rfl, rfl, rfl, rfl⟩ := hI
        refine lv_iload hx hb d_M_age_33 (lv_at hl 5 rfl) ?_
        refine lv_aload_n hx hb d_M_age_35 rfl (lv_at hl 0 rfl) ?_
        refine va_get (D := D) (ci := 3) (v := .ref l3) (C := Q_M) (T := F_M) (N := 5) hx hb hg in_M hown hK hP 0 rfl rfl 3 (by decide) (hg _ g_128) (fun _ h9 => h9) rfl d_M_age_36 ?_
        refine vp_callSi (va_Run.run (va_runV (As := []) (rest := [.int (nI j)]) ⟨hx, hb, hml, hown, hg⟩ (c_A_size_ok l D cI cZ cJ cO l3 x1 (nI c9) ea) (cwV 0 hg (gv g_378 g_379 g_380 g_21 g_381) rfl rfl rfl (by decide +kernel) ⟨Nat.le_of_ble_eq_true rfl, Nat.le_of_ble_eq_true rfl⟩) (pV (pk_c (hP 4 (l3, .inr (0, [.int x1, .ref ea, .int (nI c9)])) rfl) pk_nil9) hK hN (va_recv hK (pk_c (hP 4 (l3, .inr (0, [.int x1, .ref ea, .int (nI c9)])) rfl) pk_nil9) (ci := 0) (q0 := 0) rfl rfl)) rfl rfl hl.1 rfl (lv_room (Nat.le_of_ble_eq_true rfl)) d_M_age_39 ⟨Nat.zero_le _, Nat.zero_le _⟩)) (fun r_2 hr_2 => ?_)
        subst hr_2
        refine lv_icmp_ge (tgt := 100) hx hb d_M_age_42 (by decide) (fun c_42 => ?_) (fun c_42 => ?_)
        · obtain rfl : c9 = j := (ix_out hj1 (by omega) c_42).symm
          obtain ⟨⟨t1, t2, t3⟩, ht9⟩ : ∃ t, t = (agC n d F T ul ug uy uu c9) := ⟨_, rfl⟩
          rw [← ht9] at hl ⊢
          have hl : lv_has ls 7 [(0, .ref o), (1, .int w9), (2, .int t2), (3, .int t3), (4, .int t1), (5, .int (nI c9))] := hl
          refine lv_iload hx hb d_M_age_100 (lv_at hl 4 rfl) ?_
          refine lv_if_ne (tgt := 115) hx hb d_M_age_102 (by decide) (fun c_102 => ?_) (fun c_102 => ?_)
          · refine lv_iload_n hx hb d_M_age_115 rfl (lv_at hl 2 rfl) ?_
            refine lv_iload_n hx hb d_M_age_116 rfl (lv_at hl 3 rfl) ?_
            refine lv_icmp_le (tgt := 130) hx hb d_M_age_117 (by decide) (fun c_117 => ?_) (fun c_117 => ?_)
            · refine lv_iload_n hx hb d_M_age_130 rfl (lv_at hl 1 rfl) ?_
              refine lv_if_ne (tgt := 138) hx hb d_M_age_131 (by decide) (fun c_131 => ?_) (fun c_131 => ?_)
              · refine lv_iload_n hx hb d_M_age_138 rfl (lv_at hl 3 rfl) ?_
                refine vx_ret ?_
                refine W.widen (k := 1) (n := 6) (by omega) (by omega) ?_
                exact W.iret hx hb hr (fun t9 ht hW => ⟨⟨_, ([(o, .inr (3, [.ref r0, .ref l1, .ref l2, .ref l3, .ref bb])), (r0, .inr (2, [.ref da, .ref ga])), (da, .inl (cI, n, .inl d)), (ga, .inl (cZ, n, .inl g)), (l3, .inr (0, [.int x1, .ref ea, .int (nI c9)]))] ++ tl9), rfl, ⟨cg_0 c_6 c_102 c_117, rfl, (if_neg c_131).symm⟩, by rw [ht]; exact hP, va_K.moved hW.alike hK, hD⟩, hS.F ht⟩) hS.2.2 d_M_age_139
              · refine lv_iload_n hx hb d_M_age_134 rfl (lv_at hl 2 rfl) ?_
                refine lv_goto (tgt := 139) hx hb d_M_age_135 (by decide) ?_
                refine vx_ret ?_
                refine W.widen (k := 1) (n := 6) (by omega) (by omega) ?_
                exact W.iret hx hb hr (fun t9 ht hW => ⟨⟨_, ([(o, .inr (3, [.ref r0, .ref l1, .ref l2, .ref l3, .ref bb])), (r0, .inr (2, [.ref da, .ref ga])), (da, .inl (cI, n, .inl d)), (ga, .inl (cZ, n, .inl g)), (l3, .inr (0, [.int x1, .ref ea, .int (nI c9)]))] ++ tl9), rfl, ⟨cg_0 c_6 c_102 c_117, rfl, (if_pos c_131).symm⟩, by rw [ht]; exact hP, va_K.moved hW.alike hK, hD⟩, hS.F ht⟩) hS.2.2 d_M_age_139
            · exact thrw hx hb hlt hown hg hN x_S st_221 hU hV hS (by rw [hml]; exact hl.1) d_M_age_120 d_M_age_123 d_M_age_124 d_M_age_126 d_M_age_129 hno (Nat.le_of_ble_eq_true rfl) (Nat.le_of_ble_eq_true rfl) (Nat.le_of_ble_eq_true rfl) (Nat.le_of_ble_eq_true rfl) hlocks hP hK hD rfl (Or.inr ⟨cg_3 c_6 c_117, rfl⟩) (Nat.le_of_ble_eq_true rfl) (Nat.le_of_ble_eq_true rfl)
          · exact thrw hx hb hlt hown hg hN x_S st_219 hU hV hS (by rw [hml]; exact hl.1) d_M_age_105 d_M_age_108 d_M_age_109 d_M_age_111 d_M_age_114 hno (Nat.le_of_ble_eq_true rfl) (Nat.le_of_ble_eq_true rfl) (Nat.le_of_ble_eq_true rfl) (Nat.le_of_ble_eq_true rfl) hlocks hP hK hD rfl (Or.inr ⟨cg_2 c_6 c_102, rfl⟩) (Nat.le_of_ble_eq_true rfl) (Nat.le_of_ble_eq_true rfl)
        · refine lv_aload_n hx hb d_M_age_45 rfl (lv_at hl 0 rfl) ?_
          refine va_get (D := D) (ci := 3) (v := .ref l3) (C := Q_M) (T := F_M) (N := 5) hx hb hg in_M hown hK hP 0 rfl rfl 3 (by decide) (hg _ g_128) (fun _ h9 => h9) rfl d_M_age_46 ?_
          refine lv_iload hx hb d_M_age_49 (lv_at hl 5 rfl) ?_
          have hi : j < c9 := ix_in hj1 (by omega) c_42
          refine va_csq (va_Run.run (va_runV (As := [.int (nI j)]) (rest := []) ⟨hx, hb, hml, hown, hg⟩ (c_A_get_ok l D cI cZ cJ cO l3 x1 ea c9 n1 f j hi hcn (by omega)) (cwV 1 hg (gv g_456 g_457 g_458 g_21 g_459) rfl rfl rfl (by decide +kernel) ⟨Nat.le_of_ble_eq_true rfl, Nat.le_of_ble_eq_true rfl⟩) (pV (pk_c (hP 4 (l3, .inr (0, [.int x1, .ref ea, .int (nI c9)])) rfl) (pk_c (pk_m (q := (ea, .inl (cO, n1, .inr (.inr (.inr (.inr f)))))) hP (hea (by omega))) pk_nil9)) hK hN (va_recv hK (pk_c (hP 4 (l3, .inr (0, [.int x1, .ref ea, .int (nI c9)])) rfl) (pk_c (pk_m (q := (ea, .inl (cO, n1, .inr (.inr (.inr (.inr f)))))) hP (hea (by omega))) pk_nil9)) (ci := 0) (q0 := 0) rfl rfl)) rfl rfl hl.1 rfl (lv_room (Nat.le_of_ble_eq_true rfl)) d_M_age_51 ⟨Nat.zero_le _, Nat.zero_le _⟩)) (fun r_3 hr_3 => ?_)
          subst hr_3
          rw [(hnd j hi).1]
          refine W.eq (g2 := F0 m 54 ls [.ref (qu j)]) rfl ?_
          refine va_castY (C := Q_U) hx hb hown (hg _ g_591) (hN.1 _ nw_22) (va_recv hK (pk_c (pk_m (q := (qu j, .inr (6, [.int (nI (F j)), .int (nI (T j)), .int (ul j), .int (ug j), .int (uy j), .int (uu j)]))) hP (hnd j hi).2) pk_nil9) (ci := 6) (q0 := 0) rfl rfl) d_M_age_54 ?_
          refine lv_astore (lv' := [(6, .ref (qu j)), (0, .ref o), (1, .int w9), (2, .int ((agC n d F T ul ug uy uu j).2.1)), (3, .int ((agC n d F T ul ug uy uu j).2.2)), (4, .int ((agC n d F T ul ug uy uu j).1)), (5, .int (nI j))]) hx hb d_M_age_57 hl (by decide) rfl (fun ls hl => ?_)
          refine lv_aload hx hb d_M_age_59 (lv_at hl 0 rfl) ?_
          refine lv_aload_n hx hb d_M_age_61 rfl (lv_at hl 1 rfl) ?_
          refine va_get (D := D) (ci := 3) (v := .ref r0) (C := Q_M) (T := F_M) (N := 5) hx hb hg in_M hown hK hP 0 rfl rfl 0 (by decide) (hg _ g_125) (fun _ h9 => h9) rfl d_M_age_62 ?_
          refine vp_callSi (va_Run.run (va_runV (As := [.ref r0]) (rest := []) ⟨hx, hb, hml, hown, hg⟩ (c_U_holdsOn_ok l D cI cZ cJ cO (qu j) (F j) (T j) (ul j) (ug j) (uy j) (uu j) (by have := huC j hi; omega) (by have := huC j hi; omega) r0 da ga n d g (by omega)) (cwV 1 hg (gv g_625 g_626 g_627 g_39 g_628) rfl rfl rfl (by decide +kernel) ⟨Nat.le_of_ble_eq_true rfl, Nat.le_of_ble_eq_true rfl⟩) (pV (pk_c (pk_m (q := (qu j, .inr (6, [.int (nI (F j)), .int (nI (T j)), .int (ul j), .int (ug j), .int (uy j), .int (uu j)]))) hP (hnd j hi).2) (pk_c (hP 1 (r0, .inr (2, [.ref da, .ref ga])) rfl) (pk_c (hP 2 (da, .inl (cI, n, .inl d)) rfl) (pk_c (hP 3 (ga, .inl (cZ, n, .inl g)) rfl) pk_nil9)))) hK hN (va_recv hK (pk_c (pk_m (q := (qu j, .inr (6, [.int (nI (F j)), .int (nI (T j)), .int (ul j), .int (ug j), .int (uy j), .int (uu j)]))) hP (hnd j hi).2) (pk_c (hP 1 (r0, .inr (2, [.ref da, .ref ga])) rfl) (pk_c (hP 2 (da, .inl (cI, n, .inl d)) rfl) (pk_c (hP 3 (ga, .inl (cZ, n, .inl g)) rfl) pk_nil9)))) (ci := 6) (q0 := 0) rfl rfl)) rfl rfl hl.1 rfl (lv_room (Nat.le_of_ble_eq_true rfl)) d_M_age_65 ⟨Nat.zero_le _, Nat.zero_le _⟩)) (fun r_4 hr_4 => ?_)
          subst hr_4
          refine lv_if_eq (tgt := 94) hx hb d_M_age_68 (by decide) (fun c_68 => ?_) (fun c_68 => ?_)
          · refine lv_iinc (v := (nI j) + 1) (lv' := [(5, .int ((nI j) + 1)), (6, .ref (qu j)), (0, .ref o), (1, .int w9), (2, .int ((agC n d F T ul ug uy uu j).2.1)), (3, .int ((agC n d F T ul ug uy uu j).2.2)), (4, .int ((agC n d F T ul ug uy uu j).1))]) hx hb d_M_age_94 hl (k := 6) rfl rfl (by decide) rfl (fun ls hl => ?_)
            refine lv_goto (tgt := 33) hx hb d_M_age_97 (by decide) ?_
            exact ih33 (j + 1) ((agC n d F T ul ug uy uu j).2.1) ((agC n d F T ul ug uy uu j).2.2) ((agC n d F T ul ug uy uu j).1) ((nI j) + 1) ls (⟨by omega, by omega, by rw [agC, if_neg (by rw [bI_eq0 c_68]; decide)], by rw [agC, if_neg (by rw [bI_eq0 c_68]; decide)], by rw [agC, if_neg (by rw [bI_eq0 c_68]; decide)], nI_1 j⟩) (lv_sub hl [2, 3, 4, 5, 6, 0] rfl)
          · refine lv_iconst (v := 1) hx hb d_M_age_71 (by decide) ?_
            refine lv_istore (lv' := [(4, .int 1), (6, .ref (qu j)), (0, .ref o), (1, .int w9), (2, .int ((agC n d F T ul ug uy uu j).2.1)), (3, .int ((agC n d F T ul ug uy uu j).2.2)), (5, .int (nI j))]) hx hb d_M_age_72 hl (by decide) rfl (fun ls hl => ?_)
            refine lv_iload_n hx hb d_M_age_74 rfl (lv_at hl 4 rfl) ?_
            refine lv_aload hx hb d_M_age_75 (lv_at hl 1 rfl) ?_
            refine va_getN (host := "RubbingMirrors") (D := D) (ci := 6) (v := .int (uy j)) (C := Q_U) (T := F_U) (N := 6) hx hb hg in_U hown hK (pk_c (pk_m (q := (qu j, .inr (6, [.int (nI (F j)), .int (nI (T j)), .int (ul j), .int (ug j), .int (uy j), .int (uu j)]))) hP (hnd j hi).2) pk_nil9) 0 rfl rfl 4 (by decide) (va_Nw.use rfl (hN.1 _ nw_17)) (fun _ h9 => h9) rfl d_M_age_77 ?_
            refine va_mmax hx hb (by rw [hml]; exact hl.1.symm) hown (hg _ g_106) (hg _ g_107) (hg _ g_24) (hg _ g_108) (Nat.le_of_ble_eq_true rfl) (Nat.le_of_ble_eq_true rfl) (Nat.le_of_ble_eq_true rfl) (Nat.le_of_ble_eq_true rfl) d_M_age_80 ?_
            refine lv_istore_n (lv' := [(2, .int (if ((agC n d F T ul ug uy uu j).2.1) < (uy j) then (uy j) else ((agC n d F T ul ug uy uu j).2.1))), (4, .int 1), (6, .ref (qu j)), (0, .ref o), (1, .int w9), (3, .int ((agC n d F T ul ug uy uu j).2.2)), (5, .int (nI j))]) hx hb d_M_age_83 rfl hl (by decide) rfl (fun ls hl => ?_)
            refine lv_iload_n hx hb d_M_age_84 rfl (lv_at hl 5 rfl) ?_
            refine lv_aload hx hb d_M_age_85 (lv_at hl 2 rfl) ?_
            refine va_getN (host := "RubbingMirrors") (D := D) (ci := 6) (v := .int (uu j)) (C := Q_U) (T := F_U) (N := 6) hx hb hg in_U hown hK (pk_c (pk_m (q := (qu j, .inr (6, [.int (nI (F j)), .int (nI (T j)), .int (ul j), .int (ug j), .int (uy j), .int (uu j)]))) hP (hnd j hi).2) pk_nil9) 0 rfl rfl 5 (by decide) (va_Nw.use rfl (hN.1 _ nw_18)) (fun _ h9 => h9) rfl d_M_age_87 ?_
            refine va_mmin hx hb (by rw [hml]; exact hl.1.symm) hown (hg _ g_103) (hg _ g_104) (hg _ g_24) (hg _ g_105) (Nat.le_of_ble_eq_true rfl) (Nat.le_of_ble_eq_true rfl) (Nat.le_of_ble_eq_true rfl) (Nat.le_of_ble_eq_true rfl) d_M_age_90 ?_
            refine lv_istore_n (lv' := [(3, .int (if (uu j) < ((agC n d F T ul ug uy uu j).2.2) then (uu j) else ((agC n d F T ul ug uy uu j).2.2))), (2, .int (if ((agC n d F T ul ug uy uu j).2.1) < (uy j) then (uy j) else ((agC n d F T ul ug uy uu j).2.1))), (4, .int 1), (6, .ref (qu j)), (0, .ref o), (1, .int w9), (5, .int (nI j))]) hx hb d_M_age_93 rfl hl (by decide) rfl (fun ls hl => ?_)
            refine lv_iinc (v := (nI j) + 1) (lv' := [(5, .int ((nI j) + 1)), (3, .int (if (uu j) < ((agC n d F T ul ug uy uu j).2.2) then (uu j) else ((agC n d F T ul ug uy uu j).2.2))), (2, .int (if ((agC n d F T ul ug uy uu j).2.1) < (uy j) then (uy j) else ((agC n d F T ul ug uy uu j).2.1))), (4, .int 1), (6, .ref (qu j)), (0, .ref o), (1, .int w9)]) hx hb d_M_age_94 hl (k := 6) rfl rfl (by decide) rfl (fun ls hl => ?_)
            refine lv_goto (tgt := 33) hx hb d_M_age_97 (by decide) ?_
            exact ih33 (j + 1) (if ((agC n d F T ul ug uy uu j).2.1) < (uy j) then (uy j) else ((agC n d F T ul ug uy uu j).2.1)) (if (uu j) < ((agC n d F T ul ug uy uu j).2.2) then (uu j) else ((agC n d F T ul ug uy uu j).2.2)) 1 ((nI j) + 1) ls (⟨by omega, by omega, by rw [agC, if_pos (bI_ne0 c_68)], by rw [agC, if_pos (bI_ne0 c_68)], by rw [agC, if_pos (bI_ne0 c_68)], nI_1 j⟩) (lv_sub hl [5, 6, 2, 1, 3, 0] rfl)
    exact loop_33 (c9 + 1) 0 (-10000) 10000 0 0 ls (⟨by omega, by omega, rfl, rfl, rfl, rfl⟩) (lv_sub hl [4, 5, 3, 2, 1, 0] rfl)
  · exact thrw hx hb hlt hown hg hN x_I st_71 hU hV hS (by rw [hml]; exact hl.1) d_M_age_9 d_M_age_12 d_M_age_13 d_M_age_15 d_M_age_18 hno (Nat.le_of_ble_eq_true rfl) (Nat.le_of_ble_eq_true rfl) (Nat.le_of_ble_eq_true rfl) (Nat.le_of_ble_eq_true rfl) hlocks hP hK hD rfl (Or.inl ⟨cg_1 c_6, rfl⟩) (Nat.le_of_ble_eq_true rfl) (Nat.le_of_ble_eq_true rfl)
