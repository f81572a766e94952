
/-- what holds of the reference's words beside the class's cells -/
def SI (n : Nat) (d : Nat → Int32) (ns nn : Nat) (ak no ye : Nat → Int32) (nr : Nat) (tl : Nat → Int32) : Prop := dOK n d ∧ ns ≤ 8 ∧ nn ≤ 16 ∧ nr ≤ 8 ∧ nOK nn ak no ye ∧ aOK nn ak ∧ uOK n nr tl ∧ yOK nr tl
section SIS
variable {n : Nat} {d g : Nat → Int32} {ns nn : Nat} {ak no ye : Nat → Int32} {nr : Nat} {tl : Nat → Int32}
theorem nI_up {c m : Nat} (h : c ≤ m) (h2 : ¬ nI c = nI m) : c + 1 ≤ m := by
  rcases Nat.lt_or_ge c m with q | q
  · exact q
  · exact absurd (by rw [show c = m by omega]) h2
theorem iw_i {s : Int32} {c : Nat} (hc : c ≤ 16) (h : iw s 0 (nI c - 1) = true) : ∃ I, I < c ∧ s = nI I := by
  simp only [iw, Bool.and_eq_true, decide_eq_true_eq, i0] at h
  rcases Nat.eq_zero_or_pos c with q | q
  · rw [q] at h
    have : (nI 0 - 1 : Int32).toInt = -1 := rfl
    omega
  · rw [ln1 q (by omega), nI_toInt (by omega)] at h
    exact ⟨s.toInt.toNat, by omega, nat_of (by omega)⟩
theorem si_dep {k v : Int32} (h : SI n d ns nn ak no ye nr tl) (hc : cDep n k v = 0) : SI n (dDep n d k v) ns nn ak no ye nr tl := by
  refine ⟨?_, h.2⟩
  have a : ¬ bI (hs n k.toInt) = 0 := fun z => by rw [cd_1 z] at hc; cases hc
  have b : ¬ bI (iw v (-1) 255) = 0 := fun z => by rw [cd_2 a z] at hc; cases hc
  have b := bI_ne0 b
  have e : (255 : Int32).toInt = 255 := rfl
  simp only [iw, Bool.and_eq_true, decide_eq_true_eq, im1, e] at b
  rw [dDep, if_pos hc]
  exact dOK_upd h.1 b
theorem si_fil {s a : Int32} (h : SI n d ns nn ak no ye nr tl) : SI n (fil n d g s a).1 ns nn ak no ye nr tl := by
  refine ⟨?_, h.2⟩
  rw [fil]
  by_cases c : cFil n s a = 0
  · rw [if_pos c]; exact dOK_fl h.1 n
  · rw [if_neg c]; exact h.1
theorem si_lgs (h : SI n d ns nn ak no ye nr tl) : SI n (lgs d g n).1 ns nn ak no ye nr tl := ⟨dOK_lgs h.1 n, h.2⟩
theorem si_sha {p : Int32} (h : SI n d ns nn ak no ye nr tl) (hc : cSha p ns = 0) : SI n d (ns + 1) nn ak no ye nr tl := by
  refine ⟨h.1, nI_up (m := 8) h.2.1 (fun z => ?_), h.2.2⟩
  rw [cSha, if_pos (show nI ns = 8 from z)] at hc
  by_cases a : iw p 2 16 = true
  · rw [if_pos a] at hc; cases hc
  · rw [if_neg a] at hc; cases hc
theorem si_kin {p : Int32} (h : SI n d ns nn ak no ye nr tl) (hc : cKin p nn = 0) : SI n d ns (nn + 1) (upd ak nn p) no ye nr tl := by
  obtain ⟨h1, h2, h3, h4, h5, h6, h7, h8⟩ := h
  have hk := kin_w hc
  have a : ¬ bI (iw p 0 1000) = 0 := fun z => by rw [ck_1 z] at hc; cases hc
  refine ⟨h1, h2, nI_up (m := 16) h3 (fun z => by rw [ck_2 a z] at hc; cases hc), h4, fun i hi hn => ?_, fun i hi hn => ?_, h7, h8⟩
  · rcases Nat.lt_or_ge i nn with q | q
    · rw [upd_n (by omega)] at hn; exact h5 i q hn
    · rw [show i = nn by omega, upd_s] at hn; exact absurd hk hn
  · rcases Nat.lt_or_ge i nn with q | q
    · rw [upd_n (by omega)] at hn ⊢; exact h6 i q hn
    · rw [show i = nn by omega, upd_s] at hn; exact absurd hk hn
theorem si_que {p a b : Int32} (h : SI n d ns nn ak no ye nr tl) (hc : cQue p a b nn = 0) : SI n d ns (nn + 1) (upd ak nn (-1 - p)) (upd no nn a) (upd ye nn b) nr tl := by
  obtain ⟨h1, h2, h3, h4, h5, h6, h7, h8⟩ := h
  obtain ⟨w1, w2, w3, w4, w5⟩ := que_w hc
  obtain ⟨I, hI, eI⟩ := iw_i h3 w1
  obtain ⟨J, hJ, eJ⟩ := iw_i h3 w2
  refine ⟨h1, h2, nI_up (m := 16) h3 w5, h4, fun i hi hn => ?_, fun i hi hn => ?_, h7, h8⟩
  · rcases Nat.lt_or_ge i nn with q | q
    · rw [upd_n (by omega)] at hn; rw [upd_n (by omega), upd_n (by omega)]; exact h5 i q hn
    · rw [show i = nn by omega, upd_s, upd_s]; exact ⟨⟨I, hI, eI⟩, ⟨J, hJ, eJ⟩⟩
  · rcases Nat.lt_or_ge i nn with q | q
    · rw [upd_n (by omega)] at hn ⊢; exact h6 i q hn
    · rw [show i = nn by omega, upd_s, s32 (by rw [im1]; omega) (by rw [im1]; omega), im1]; omega
theorem rul_w {f t lo hi y un : Int32} (h : cRul n nr f t lo hi y un = 0) : hs n f.toInt = true ∧ hs n t.toInt = true ∧ rOK f t lo hi y un = true ∧ ¬ nI nr = 8 := by
  have a : ¬ bI (hs n f.toInt) = 0 := fun z => by rw [cu_1 z] at h; cases h
  have b : ¬ bI (hs n t.toInt) = 0 := fun z => by rw [cu_2 z] at h; cases h
  have c : rOK f t lo hi y un = true := by
    cases hr : rOK f t lo hi y un with
    | true => rfl
    | false => rw [cu_w a b hr] at h; cases h
  exact ⟨bI_ne0 a, bI_ne0 b, c, fun z => by rw [cu_8 a b c z] at h; cases h⟩
theorem si_rul {f t lo hi y un : Int32} (h : SI n d ns nn ak no ye nr tl) (hc : cRul n nr f t lo hi y un = 0) : SI n d ns nn ak no ye (nr + 1) (tlR tl nr f t lo hi y un) := by
  obtain ⟨h1, h2, h3, h4, h5, h6, h7, h8⟩ := h
  obtain ⟨w1, w2, w3, w4⟩ := rul_w hc
  have w1 := hs_iff.mp w1
  have w2 := hs_iff.mp w2
  have e1 : (10000 : Int32).toInt = 10000 := rfl
  have e2 : (-10000 : Int32).toInt = -10000 := rfl
  have e3 : (255 : Int32).toInt = 255 := rfl
  simp only [rOK, Bool.and_eq_true, Bool.not_eq_true', decide_eq_false_iff_not, iw, decide_eq_true_eq, i0, e1, e2, e3] at w3
  obtain ⟨v1, ⟨v2, v3⟩, ⟨v4, v5⟩, ⟨v6, v7⟩, v8, v9⟩ := w3
  rw [ilt] at v1
  refine ⟨h1, h2, h3, nI_up (m := 8) h4 w4, h5, h6, fun r hr => ?_, fun r hr => ?_⟩
  · rcases Nat.lt_or_ge r nr with q | q
    · obtain ⟨F, T, g1, g2, g3⟩ := h7 r q
      rw [tlR_o (by omega), tlR_o (by omega), tlR_o (by omega)]
      exact ⟨F, T, g1, g2, g3⟩
    · rw [show r = nr by omega, tlR_0, tlR_1, tlR_2]
      exact ⟨f.toInt.toNat, t.toInt.toNat, nat_of w1.1, nat_of w2.1, by omega, by omega, v2⟩
  · rcases Nat.lt_or_ge r nr with q | q
    · rw [tlR_o (by omega), tlR_o (by omega)]; exact h8 r q
    · rw [show r = nr by omega, tlR_4, tlR_5]; exact ⟨v6, v9⟩
end SIS
