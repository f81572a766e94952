
/-! class and reference answer alike: pure rows -/
theorem a32 {x y : Int32} (h1 : -2147483648 ≤ x.toInt + y.toInt) (h2 : x.toInt + y.toInt < 2147483648) : (x + y).toInt = x.toInt + y.toInt := by
  rw [Int32.toInt_add]; exact Int.bmod_eq_of_le (by omega) (by omega)
theorem s32 {x y : Int32} (h1 : -2147483648 ≤ x.toInt - y.toInt) (h2 : x.toInt - y.toInt < 2147483648) : (x - y).toInt = x.toInt - y.toInt := by
  rw [Int32.toInt_sub]; exact Int.bmod_eq_of_le (by omega) (by omega)
theorem m32 {x y : Int32} (h1 : -2147483648 ≤ x.toInt * y.toInt) (h2 : x.toInt * y.toInt < 2147483648) : (x * y).toInt = x.toInt * y.toInt := by
  rw [Int32.toInt_mul]; exact Int.bmod_eq_of_le (by omega) (by omega)
theorem a64 {x y : Int64} (h1 : -2147483648 ≤ x.toInt + y.toInt) (h2 : x.toInt + y.toInt < 2147483648) : (x + y).toInt = x.toInt + y.toInt := by
  rw [Int64.toInt_add]; exact Int.bmod_eq_of_le (by omega) (by omega)
theorem leq {x y : Int64} (h : x.toInt = y.toInt) : x = y := Int64.toInt_inj.mp h
theorem kn_d {n : Nat} {d g : Nat → Int32} {x : Int} (hd : dOK n d) (h : kn n d g x = true) : -1 ≤ (d x.toNat).toInt ∧ (d x.toNat).toInt ≤ 255 := by
  unfold kn at h
  rw [Bool.and_eq_true, Bool.and_eq_true] at h
  have h1 := hs_iff.mp h.1.1
  exact hd _ (by omega)
theorem sq_b {a b : Int32} (ha : -1 ≤ a.toInt ∧ a.toInt ≤ 255) (hb : -1 ≤ b.toInt ∧ b.toInt ≤ 255) : 0 ≤ ((a - b) * (a - b)).toInt ∧ ((a - b) * (a - b)).toInt ≤ 65536 := by
  have e1 : (a - b).toInt = a.toInt - b.toInt := s32 (by omega) (by omega)
  have h1 : 0 ≤ (a.toInt - b.toInt) * (a.toInt - b.toInt) := by
    rcases Int.le_total 0 (a.toInt - b.toInt) with q | q
    · exact Int.mul_nonneg q q
    · exact Int.mul_nonneg_of_nonpos_of_nonpos q q
  have h2 : (a.toInt - b.toInt) * (a.toInt - b.toInt) ≤ 65536 := by
    have k1 : a.toInt - b.toInt ≤ 256 := by omega
    have k2 : -256 ≤ a.toInt - b.toInt := by omega
    have k3 : 0 ≤ (256 - (a.toInt - b.toInt)) * (256 + (a.toInt - b.toInt)) := Int.mul_nonneg (by omega) (by omega)
    have k4 : (256 - (a.toInt - b.toInt)) * (256 + (a.toInt - b.toInt)) = 65536 - (a.toInt - b.toInt) * (a.toInt - b.toInt) := by
      rw [Int.sub_mul, Int.mul_add, Int.mul_add]
      have := Int.mul_comm (a.toInt - b.toInt) 256
      omega
    omega
  have e2 : ((a - b) * (a - b)).toInt = (a.toInt - b.toInt) * (a.toInt - b.toInt) := by
    rw [← e1]; exact m32 (by rw [e1]; omega) (by rw [e1]; omega)
  omega
theorem mo_L {n : Nat} {d g : Nat → Int32} (hd : dOK n d) {A : Nat} : ∀ j : Nat, 2 * j ≤ A + 1 → j ≤ 200 → (moL n d g A j).toInt = (mo n d g A j).toInt ∧ 0 ≤ (mo n d g A j).toInt ∧ (mo n d g A j).toInt ≤ 65536 * j
  | 0, _, _ => ⟨rfl, by rw [mo]; decide, by rw [mo]; decide⟩
  | j + 1, hj, h2 => by
    obtain ⟨i1, i2, i3⟩ := mo_L (n := n) (d := d) (g := g) hd (A := A) j (by omega) (by omega)
    rw [moL, mo]
    by_cases c : (kn n d g (j : Int) && kn n d g ((A : Int) - j)) = true
    · rw [if_pos c, if_pos c]
      rw [Bool.and_eq_true] at c
      have q1 := kn_d hd c.1
      have q2 := kn_d hd c.2
      rw [show ((j : Int)).toNat = j by omega] at q1
      rw [show ((A : Int) - j).toNat = A - j by omega] at q2
      obtain ⟨b1, b2⟩ := sq_b q1 q2
      rw [a64 (by rw [Int32.toInt_toInt64]; omega) (by rw [Int32.toInt_toInt64]; omega), a32 (by omega) (by omega), Int32.toInt_toInt64]
      omega
    · rw [if_neg c, if_neg c, Int64.add_zero, Int32.add_zero]
      omega
theorem mo_64 {n : Nat} {d g : Nat → Int32} (hd : dOK n d) {A j : Nat} (h1 : 2 * j ≤ A + 1) (h2 : j ≤ 200) : moL n d g A j = (mo n d g A j).toInt64 := leq (by rw [Int32.toInt_toInt64]; exact (mo_L hd j h1 h2).1)
theorem mp_le {n : Nat} {d g : Nat → Int32} {A : Nat} : ∀ j : Nat, mp n d g A j ≤ j
  | 0 => Nat.le_refl _
  | j + 1 => by
    have := mp_le (n := n) (d := d) (g := g) (A := A) j
    rw [mp]; split <;> omega
theorem bt_eq {to co t c : Int32} : btL to.toInt64 co t.toInt64 c = btr to co t c := rfl
theorem idiv4 {n : Nat} (h : n ≤ 64) : nI n / 4 = nI (n / 4) := by
  have : ∀ n : Fin 65, nI n.val / 4 = nI (n.val / 4) := by decide
  exact this ⟨n, by omega⟩
theorem few_i {n m : Nat} (h : n ≤ 64) (hm : m ≤ 200) : nI m < few n ↔ ¬ (0 < nI m ∧ nI n / 4 ≤ nI m) := by
  have e1 : (1 : Int32).toInt = 1 := rfl
  rw [few, idiv4 h]
  by_cases c : (1 : Int32) < nI (n / 4)
  · rw [if_pos c]
    rw [ilt, e1, nI_toInt (by omega)] at c
    rw [ilt, ilt, ile, nI_toInt (by omega), nI_toInt (by omega), i0]; omega
  · rw [if_neg c]
    rw [ilt, e1, nI_toInt (by omega)] at c
    rw [ilt, ilt, ile, nI_toInt (by omega), nI_toInt (by omega), i0, e1]; omega
/-- the best held by the class, and the reference's -/
def rB (t : B5) (q : M4) : Prop := (t.1 = 0 ∧ q.1 = -1) ∨ (t.1 = 1 ∧ t.2.1 = q.1 ∧ ¬ q.1 = -1 ∧ q.2.2.1 = t.2.2.2.1.toInt64 ∧ q.2.2.2 = t.2.2.2.2)
theorem nI_n1 {j : Nat} (h : j < 2 ^ 20) : ¬ nI j = -1 := fun e => by
  have := congrArg Int32.toInt e
  rw [nI_toInt (by omega), im1] at this; omega
theorem rB_o {t : B5} {be bp bm : Int32} {bo : Int64} {s : Nat} {a to c : Int32} (hs : s < 2 ^ 20) (h : rB t (be, bp, bo, bm)) :
    ((decide (be = -1) || btL bo bm to.toInt64 c) = true ∧ offer t (nI s) a to c = (1, nI s, a, to, c)) ∨ ((decide (be = -1) || btL bo bm to.toInt64 c) = false ∧ offer t (nI s) a to c = t ∧ ¬ be = -1) := by
  rcases h with ⟨h1, h2⟩ | ⟨h1, h2, h3, h4, h5⟩
  · dsimp only at h2
    exact Or.inl ⟨by rw [decide_eq_true h2]; rfl, by rw [offer, if_pos (Or.inl h1)]⟩
  · dsimp only at h2 h3 h4 h5
    rw [decide_eq_false h3, Bool.false_or, h4, h5, bt_eq]
    cases hb : btr t.2.2.2.1 t.2.2.2.2 to c with
    | true => exact Or.inl ⟨rfl, by rw [offer, if_pos (Or.inr hb)]⟩
    | false => exact Or.inr ⟨rfl, by rw [offer, if_neg]; intro q; rcases q with q | q; (rw [h1] at q; cases q); (rw [hb] at q; cases q), h3⟩
theorem fm_rel {n : Nat} {d g : Nat → Int32} (hd : dOK n d) (h4 : 4 ≤ n) (h64 : n ≤ 64) {wh t2 to co : Int32} {bo : Int64} {bm : Int32} {bp : Int32} : ∀ j : Nat, j ≤ 2 * n - 1 → rB (fmC n d g (0, wh, t2, to, co) j) ((fmT n d g bo bm j).1, bp, (fmT n d g bo bm j).2)
  | 0, _ => Or.inl ⟨rfl, rfl⟩
  | j + 1, hj => by
    have ih := fm_rel (n := n) (d := d) (g := g) hd h4 h64 (wh := wh) (t2 := t2) (to := to) (co := co) (bo := bo) (bm := bm) (bp := bp) j (by omega)
    rw [fmC, fmT]
    generalize fmC n d g (0, wh, t2, to, co) j = t at ih ⊢
    generalize fmT n d g bo bm j = q at ih ⊢
    obtain ⟨be, bo1, bm1⟩ := q
    have hmp := mp_le (n := n) (d := d) (g := g) (A := j) ((j + 1) / 2)
    have hfi := few_i (n := n) (m := mp n d g j ((j + 1) / 2)) h64 (by omega)
    rw [fC, fT]
    by_cases c : nI (mp n d g j ((j + 1) / 2)) < few n
    · rw [if_pos c, if_neg (fun q => hfi.mp c ⟨q.1, q.2.1⟩)]; exact ih
    · rw [if_neg c]
      have c2 := Decidable.not_not.mp (fun q => c (hfi.mpr q))
      rw [mo_64 hd (by omega) (by omega)]
      rcases rB_o (s := j) (a := -1) (to := mo n d g j ((j + 1) / 2)) (c := nI (mp n d g j ((j + 1) / 2))) (by omega) ih with ⟨o1, o2⟩ | ⟨o1, o2, o3⟩
      · rw [o2, if_pos ⟨c2.1, c2.2, o1⟩]
        exact Or.inr ⟨rfl, rfl, nI_n1 (by omega), rfl, rfl⟩
      · rw [o2, if_neg (fun q => by have := q.2.2; dsimp only at this; rw [o1] at this; cases this)]
        exact ih
theorem mir_eq {n : Nat} {d g : Nat → Int32} (hd : dOK n d) (h4 : 4 ≤ n) (h64 : n ≤ 64) {wh t2 to co : Int32} {bo : Int64} {bm : Int32} (w : Int32) :
    cMiC (fmC n d g (0, wh, t2, to, co) (2 * n - 1)).1 w = cMir (fmT n d g bo bm (2 * n - 1)).1 w ∧ (cMir (fmT n d g bo bm (2 * n - 1)).1 w = 0 → aMiC (fmC n d g (0, wh, t2, to, co) (2 * n - 1)) w = aMir (fmT n d g bo bm (2 * n - 1)) w) := by
  rcases fm_rel (n := n) (d := d) (g := g) hd h4 h64 (wh := wh) (t2 := t2) (to := to) (co := co) (bo := bo) (bm := bm) (bp := 0) (2 * n - 1) (Nat.le_refl _) with ⟨h1, h2⟩ | ⟨h1, h2, h3, h4, h5⟩
  · dsimp only at h2
    rw [cMiC, cMir, if_pos h1, if_pos h2]
    exact ⟨rfl, fun q => by cases q⟩
  · dsimp only at h2 h3 h4 h5
    rw [cMiC, cMir, if_neg (by rw [h1]; decide), if_neg h3, aMiC, aMir, h2, h4, h5]
    exact ⟨rfl, fun _ => rfl⟩
/-! match -/
theorem abs_b {a b : Int32} (ha : 0 ≤ a.toInt ∧ a.toInt ≤ 255) (hb : -1 ≤ b.toInt ∧ b.toInt ≤ 255) : (absI (a - b)).toInt = (absT (b - a)).toInt ∧ 0 ≤ (absI (a - b)).toInt ∧ (absI (a - b)).toInt ≤ 256 := by
  have e1 : (a - b).toInt = a.toInt - b.toInt := s32 (by omega) (by omega)
  have e2 : (b - a).toInt = b.toInt - a.toInt := s32 (by omega) (by omega)
  have e3 : (0 - (a - b)).toInt = -(a.toInt - b.toInt) := by rw [s32 (by rw [i0, e1]; omega) (by rw [i0, e1]; omega), i0, e1]; omega
  have e4 : (-(b - a)).toInt = -(b.toInt - a.toInt) := by
    rw [← Int32.zero_sub, s32 (by rw [i0, e2]; omega) (by rw [i0, e2]; omega), i0, e2]; omega
  unfold absI absT
  split <;> split <;> rename_i c1 c2 <;> rw [ile, i0] at c1 c2 <;> omega
theorem dpt_b {n : Nat} {d : Nat → Int32} (hd : dOK n d) (x : Int) : -1 ≤ (dpt n d x).toInt ∧ (dpt n d x).toInt ≤ 255 := by
  unfold dpt
  split
  · rename_i h
    have := hs_iff.mp h
    exact hd _ (by omega)
  · rw [im1]; omega
theorem mss_L {n : Nat} {d f f2 : Nat → Int32} (hd : dOK n d) {p : Nat} : ∀ j : Nat, j ≤ 16 → (∀ k, k < j → f k = f2 k ∧ 0 ≤ (f k).toInt ∧ (f k).toInt ≤ 255) → (misL n d f2 p j).toInt = (mss n d f p j).toInt ∧ 0 ≤ (mss n d f p j).toInt ∧ (mss n d f p j).toInt ≤ 256 * j
  | 0, _, _ => ⟨rfl, by rw [mss]; decide, by rw [mss]; decide⟩
  | j + 1, h2, hf => by
    obtain ⟨i1, i2, i3⟩ := mss_L (n := n) (d := d) (f := f) (f2 := f2) hd (p := p) j (by omega) (fun k hk => hf k (by omega))
    rw [misL, mss]
    by_cases c : dpt n d ((p : Int) + j) = -1
    · rw [if_pos c, if_pos c, Int64.add_zero, Int32.add_zero]; omega
    · rw [if_neg c, if_neg c]
      obtain ⟨q1, q2, q3⟩ := hf j (by omega)
      obtain ⟨b1, b2, b3⟩ := abs_b (a := f j) (b := dpt n d ((p : Int) + j)) ⟨q2, q3⟩ (dpt_b hd _)
      rw [← q1]
      rw [a64 (by rw [Int32.toInt_toInt64]; omega) (by rw [Int32.toInt_toInt64]; omega), a32 (by omega) (by omega), Int32.toInt_toInt64]
      omega
theorem cv_le {n : Nat} {d : Nat → Int32} {p : Nat} : ∀ j : Nat, cv n d p j ≤ j
  | 0 => Nat.le_refl _
  | j + 1 => by
    have := cv_le (n := n) (d := d) (p := p) j
    rw [cv]; split <;> omega
theorem half_i {L m : Nat} (h : L ≤ 16) (hm : m ≤ 16) : nI m < (nI L + 1) / 2 ↔ ¬ nI L ≤ 2 * nI m := by
  have : ∀ (L m : Fin 17), nI m.val < (nI L.val + 1) / 2 ↔ ¬ nI L.val ≤ 2 * nI m.val := by decide
  exact this ⟨L, by omega⟩ ⟨m, by omega⟩
/-- the place is told too -/
def rC (t : B5) (q : M4) : Prop := rB t q ∧ (t.1 = 1 → t.2.2.1 = q.2.1)
theorem mc_step {n : Nat} {d f f2 : Nat → Int32} {L s p : Nat} (hd : dOK n d) (hL : L ≤ 16) (hs : s < 2 ^ 20) (hf : ∀ k, k < L → f k = f2 k ∧ 0 ≤ (f k).toInt ∧ (f k).toInt ≤ 255) {t : B5} {q : M4} (ih : rC t q) : rC (mc1 n d f L s p t) (mt1 n d f2 L s p q) := by
  obtain ⟨be, bp, bo, bm⟩ := q
  have hcv := cv_le (n := n) (d := d) (p := p) L
  have hh := half_i (L := L) (m := cv n d p L) hL (by omega)
  have hm : misL n d f2 p L = (mss n d f p L).toInt64 := leq (by rw [Int32.toInt_toInt64]; exact (mss_L hd L hL hf).1)
  rw [mc1, mt1]
  by_cases c : nI (cv n d p L) < (nI L + 1) / 2
  · rw [if_pos c, if_neg (fun q => hh.mp c q.1)]; exact ih
  · rw [if_neg c]
    have c2 := Decidable.not_not.mp (fun q => c (hh.mpr q))
    rw [hm]
    rcases rB_o (s := s) (a := nI p) (to := mss n d f p L) (c := nI (cv n d p L)) hs ih.1 with ⟨o1, o2⟩ | ⟨o1, o2, o3⟩
    · rw [o2, if_pos ⟨c2, o1⟩]
      exact ⟨Or.inr ⟨rfl, rfl, nI_n1 hs, rfl, rfl⟩, fun _ => rfl⟩
    · rw [o2, if_neg (fun q => by have := q.2; dsimp only at this; rw [o1] at this; cases this)]
      exact ih
theorem mcP_rel {n : Nat} {d f f2 : Nat → Int32} {L s : Nat} (hd : dOK n d) (hL : L ≤ 16) (hs : s < 2 ^ 20) (hf : ∀ k, k < L → f k = f2 k ∧ 0 ≤ (f k).toInt ∧ (f k).toInt ≤ 255) {t : B5} {q : M4} (ih : rC t q) : ∀ p, rC (mcP n d f L s t p) (mtP n d f2 L s q p)
  | 0 => ih
  | p + 1 => mc_step hd hL hs hf (mcP_rel hd hL hs hf ih p)
/-- shapes of class and reference -/
def sR (ns : Nat) (Ls : Nat → Nat) (cs : Nat → Nat → Int32) (sl cr : Nat → Int32) : Prop := ∀ i, i < ns → sl i = nI (Ls i) ∧ 2 ≤ Ls i ∧ Ls i ≤ 16 ∧ ∀ k, k < 16 → cs i k = cr (16 * i + k) ∧ 0 ≤ (cs i k).toInt ∧ (cs i k).toInt ≤ 255
theorem mcS_rel {n : Nat} {d sl cr : Nat → Int32} {Ls : Nat → Nat} {cs : Nat → Nat → Int32} {ns : Nat} (hd : dOK n d) (hns : ns ≤ 8) (hR : sR ns Ls cs sl cr) {t : B5} {q : M4} (ih : rC t q) : ∀ s, s ≤ ns → rC (mcS n d Ls cs t s) (mtS n d sl cr q s)
  | 0, _ => ih
  | s + 1, h => by
    obtain ⟨h1, h2, h3, h4⟩ := hR s (by omega)
    rw [mcS, mtS, h1, nI_clamp (by omega)]
    exact mcP_rel hd h3 (by omega) (fun k hk => h4 k (by omega)) (mcS_rel hd hns hR ih s (by omega)) n
theorem mat_eq {n : Nat} {d sl cr : Nat → Int32} {Ls : Nat → Nat} {cs : Nat → Nat → Int32} {ns : Nat} (hd : dOK n d) (hns : ns ≤ 8) (hR : sR ns Ls cs sl cr) {wh t2 to co : Int32} {bp : Int32} {bo : Int64} {bm : Int32} (w : Int32) :
    cMaC (mcS n d Ls cs (0, wh, t2, to, co) ns).1 w = cMat (mtS n d sl cr (-1, bp, bo, bm) ns).1 w ∧ (cMat (mtS n d sl cr (-1, bp, bo, bm) ns).1 w = 0 → aMaC (mcS n d Ls cs (0, wh, t2, to, co) ns) w = aMat (mtS n d sl cr (-1, bp, bo, bm) ns) w) := by
  have hb := mcS_rel (n := n) hd hns hR (t := (0, wh, t2, to, co)) (q := (-1, bp, bo, bm)) ⟨Or.inl ⟨rfl, rfl⟩, fun q => by cases q⟩ ns (Nat.le_refl _)
  obtain ⟨⟨h1, h2⟩ | ⟨h1, h2, h3, h4, h5⟩, h6⟩ := hb
  · rw [cMaC, cMat, if_pos h1, if_pos h2]
    exact ⟨rfl, fun q => by cases q⟩
  · rw [cMaC, cMat, if_neg (by rw [h1]; decide), if_neg h3, aMaC, aMat, h2, h4, h5, h6 h1]
    exact ⟨rfl, fun _ => by rw [Int32.toInt32_toInt64]⟩
/-! carve -/
theorem car_eq {s k v : Int32} {ns I L : Nat} {sl : Nat → Int32} (hs9 : s = nI I) (hI : I < ns) (hns : ns ≤ 8) (hsl : sl I = nI L) (hL : 2 ≤ L ∧ L ≤ 16) : cCar s k v ns sl = cCaS L k v := by
  have e1 : iw s 0 (nI ns - 1) = true := by rw [hs9]; exact bI_ne0 (iwI hI (by omega))
  have e2 : iw k 0 (nI L - 1) = hs L k.toInt := by
    rw [ln1 (by omega) (by omega), iw, i0, nI_toInt (by omega), hs]
    congr 1
    rw [decide_eq_decide]; omega
  rw [cCar, cCaS, if_pos e1, hs9, nI_clamp (by omega), hsl, e2]
theorem car_x {s k v : Int32} {ns : Nat} {sl : Nat → Int32} (h : bI (iw s 0 (nI ns - 1)) = 0) : cCar s k v ns sl = 1 := cc_1 h
theorem car_i {s : Int32} {ns : Nat} (hns : ns ≤ 8) (h : ¬ bI (iw s 0 (nI ns - 1)) = 0) : ∃ I, I < ns ∧ s = nI I := by
  have h := bI_ne0 h
  simp only [iw, Bool.and_eq_true, decide_eq_true_eq, i0] at h
  rcases Nat.eq_zero_or_pos ns with q | q
  · rw [q] at h
    have : (nI 0 - 1 : Int32).toInt = -1 := rfl
    omega
  · rw [ln1 q (by omega), nI_toInt (by omega)] at h
    exact ⟨s.toInt.toNat, by omega, nat_of (by omega)⟩
/-! ask -/
/-- nodes of class and reference -/
def nA (ak : Nat → Int32) (i : Nat) : Int32 := if 0 ≤ ak i then -1 else -1 - ak i
def nB (ak : Nat → Int32) (i : Nat) : Int32 := if 0 ≤ ak i then ak i else -1
def nX (ak no : Nat → Int32) (i : Nat) : Int32 := if 0 ≤ ak i then -1 else no i
def aOK (nn : Nat) (ak : Nat → Int32) : Prop := ∀ i, i < nn → ¬ 0 ≤ ak i → -16 ≤ (ak i).toInt
theorem nA_n {ak : Nat → Int32} {nn i : Nat} (h : aOK nn ak) (hi : i < nn) (c : ¬ 0 ≤ ak i) : ¬ nA ak i = -1 := by
  have h1 := h i hi c
  rw [nA, if_neg c]
  rw [ile, i0] at c
  intro e
  have := congrArg Int32.toInt e
  rw [s32 (by rw [im1]; omega) (by rw [im1]; omega), im1] at this
  omega
theorem nC_of {nn : Nat} {ak no ye : Nat → Int32} (h : nOK nn ak no ye) : nC nn (nA ak) (nX ak no) (nX ak ye) := by
  intro i hi hne
  by_cases c : 0 ≤ ak i
  · exact absurd (by rw [nA, if_pos c]) hne
  · obtain ⟨h1, h2⟩ := h i hi c
    rw [nX, nX, if_neg c, if_neg c]
    exact ⟨h1, h2⟩
theorem and1 (x : Int32) : x &&& 1 = 0 ∨ x &&& 1 = 1 := by
  have e : ∀ y : Int32, y.toBitVec.toNat = x.toBitVec.toNat % 2 → x &&& 1 = y := fun y hy => by
    apply Int32.toBitVec_inj.mp
    apply BitVec.eq_of_toNat_eq
    rw [Int32.toBitVec_and, BitVec.toNat_and, hy]
    exact Nat.and_one_is_mod _
  rcases Nat.mod_two_eq_zero_or_one x.toBitVec.toNat with h | h
  · exact Or.inl (e 0 (by rw [h]; rfl))
  · exact Or.inr (e 1 (by rw [h]; rfl))
theorem ask_eq {nn : Nat} {ak no ye : Nat → Int32} {b k : Int32} (h1 : nOK nn ak no ye) (h2 : aOK nn ak) (hnn : nn ≤ 16) : ∀ (f i : Nat), i < nn → i < f → ∀ s, i ≤ s → aAsC (nA ak) (nB ak) (lq (nA ak) (nX ak no) (nX ak ye) b k s i) = qa ak no ye b k f i
  | 0, i, _, h, _, _ => by omega
  | f + 1, i, hi, hf, s, hs => by
    rw [qa]
    by_cases c : 0 ≤ ak i
    · have e : nA ak i = -1 := by rw [nA, if_pos c]
      rw [if_pos c, lq_0 (by rw [e]; rfl), aAsC, if_pos e, nB, if_pos c]
    · have hn := nA_n h2 hi c
      have en : nA ak i = -1 - ak i := by rw [nA, if_neg c]
      rw [if_neg c, ← en]
      rcases and1 (k >>> (nA ak i &&& 31)) with q | q
      · rw [if_pos q, lq_0 (by rw [bit, q]; simp [bI]), aAsC, if_neg hn]
      · rw [if_neg (by rw [q]; decide)]
        have hb : ¬ bI (decide (nA ak i ≠ -1) && bit k (nA ak i)) = 0 := by rw [bit, q, decide_eq_true hn]; decide
        obtain ⟨x, hx, ex⟩ := nC_n (b := b) (nC_of h1) hi hb
        cases s with
        | zero => omega
        | succ s =>
          rw [lq_1 hb ex (by omega)]
          have e2 : (if b >>> (nA ak i &&& 31) &&& 1 = 1 then ye i else no i) = nI x := by
            rw [← ex, nX, nX, if_neg c, if_neg c, bit]
            by_cases z : b >>> (nA ak i &&& 31) &&& 1 = 1
            · rw [if_pos z, decide_eq_true z]; rfl
            · rw [if_neg z, decide_eq_false z]; rfl
          rw [e2, nI_clamp (by omega)]
          exact ask_eq h1 h2 hnn f x (by omega) (by omega) s (by omega)
/-! age -/
def yOK (nr : Nat) (tl : Nat → Int32) : Prop := ∀ r, r < nr → -10000 ≤ (tl (6 * r + 4)).toInt ∧ (tl (6 * r + 5)).toInt ≤ 10000
theorem ag_rel {n nr : Nat} {d tl : Nat → Int32} {F T : Nat → Nat} (hF : ∀ r, r < nr → tl (6 * r) = nI (F r) ∧ tl (6 * r + 1) = nI (T r) ∧ F r < 2 ^ 20 ∧ T r < 2 ^ 20) (hy : yOK nr tl) : ∀ r, r ≤ nr → ((agC n d F T (fun r => tl (6 * r + 2)) (fun r => tl (6 * r + 3)) (fun r => tl (6 * r + 4)) (fun r => tl (6 * r + 5)) r).1 = 0 ∧ (agT n d tl r).1 = 0 ∧ (agC n d F T (fun r => tl (6 * r + 2)) (fun r => tl (6 * r + 3)) (fun r => tl (6 * r + 4)) (fun r => tl (6 * r + 5)) r).2 = (-10000, 10000) ∧ (agT n d tl r).2 = (-20000, 20000)) ∨ ((agT n d tl r).1 = 1 ∧ agC n d F T (fun r => tl (6 * r + 2)) (fun r => tl (6 * r + 3)) (fun r => tl (6 * r + 4)) (fun r => tl (6 * r + 5)) r = agT n d tl r)
  | 0, _ => Or.inl ⟨rfl, rfl, rfl, rfl⟩
  | r + 1, hr => by
    obtain ⟨f1, f2, f3, f4⟩ := hF r (by omega)
    obtain ⟨y1, y2⟩ := hy r (by omega)
    have ih := ag_rel hF hy (n := n) (d := d) r (by omega)
    have eh := hld_e (n := n) (d := d) f1 f2 f3 f4
    rw [agC, agT, eh]
    by_cases c : hld n d tl r = true
    · rw [if_pos c, if_pos c]
      refine Or.inr ⟨rfl, ?_⟩
      have m1 : ∀ x y : Int32, (if x < y then y else x) = (if y ≤ x then x else y) := fun x y => by
        by_cases q : x < y
        · rw [if_pos q, if_neg (by rw [ile]; rw [ilt] at q; omega)]
        · rw [if_neg q, if_pos (by rw [ile]; rw [ilt] at q; omega)]
      have m2 : ∀ x y : Int32, (if y < x then y else x) = (if x ≤ y then x else y) := fun x y => by
        by_cases q : y < x
        · rw [if_pos q, if_neg (by rw [ile]; rw [ilt] at q; omega)]
        · rw [if_neg q, if_pos (by rw [ile]; rw [ilt] at q; omega)]
      have c1 : (-10000 : Int32).toInt = -10000 := rfl
      have c2 : (-20000 : Int32).toInt = -20000 := rfl
      have c3 : (10000 : Int32).toInt = 10000 := rfl
      have c4 : (20000 : Int32).toInt = 20000 := rfl
      rcases ih with ⟨i1, i2, i3, i4⟩ | ⟨i1, i2⟩
      · rw [i3, i4, m1, m2]
        dsimp only
        rw [if_neg (show ¬ tl (6 * r + 4) ≤ -20000 by rw [ile, c2]; omega), if_neg (show ¬ 20000 ≤ tl (6 * r + 5) by rw [ile, c4]; omega)]
        refine congrArg (Prod.mk _) (congr (congrArg Prod.mk ?_) ?_)
        · by_cases q : tl (6 * r + 4) ≤ -10000
          · rw [if_pos q]; rw [ile, c1] at q; exact ieq.mpr (by rw [c1]; omega)
          · rw [if_neg q]
        · by_cases q : 10000 ≤ tl (6 * r + 5)
          · rw [if_pos q]; rw [ile, c3] at q; exact ieq.mpr (by rw [c3]; omega)
          · rw [if_neg q]
      · rw [i2, m1, m2]
    · rw [if_neg c, if_neg c]; exact ih
theorem age_eq {n nr : Nat} {d tl : Nat → Int32} {F T : Nat → Nat} (hF : ∀ r, r < nr → tl (6 * r) = nI (F r) ∧ tl (6 * r + 1) = nI (T r) ∧ F r < 2 ^ 20 ∧ T r < 2 ^ 20) (hy : yOK nr tl) (w : Int32) :
    cAgC w (agC n d F T (fun r => tl (6 * r + 2)) (fun r => tl (6 * r + 3)) (fun r => tl (6 * r + 4)) (fun r => tl (6 * r + 5)) nr) = cAge w (agT n d tl nr) ∧ (cAge w (agT n d tl nr) = 0 → agC n d F T (fun r => tl (6 * r + 2)) (fun r => tl (6 * r + 3)) (fun r => tl (6 * r + 4)) (fun r => tl (6 * r + 5)) nr = agT n d tl nr) := by
  rcases ag_rel hF hy (n := n) (d := d) nr (Nat.le_refl _) with ⟨h1, h2, h3, h4⟩ | ⟨h1, h2⟩
  · rw [cAgC, cAge, if_pos (Or.inl h1), if_pos (Or.inl h2)]
    refine ⟨rfl, fun q => ?_⟩
    split at q <;> cases q
  · rw [h2]; exact ⟨rfl, fun _ => rfl⟩
