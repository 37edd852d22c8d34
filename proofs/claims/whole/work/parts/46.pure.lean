/-! what class and reference have in common: plans, pictures kept -/
section PLN
variable {nx : Nat → Nat → Option Nat} {gl : Nat → Bool} {mf : Nat → Nat → Nat} {K F K' F' : Nat} {lb lb' : Nat → Nat}
theorem mt_eq (hok : GOK nx) (hB : BIG mf K F) (hB' : BIG mf K' F') (hf : FIN nx gl mf K F lb) (hf' : FIN nx gl mf K' F' lb') {b M k r : Nat} (hb : b < 64) (hl : LX nx gl mf b M (k + 1)) : mt nx mf K lb b r = mt nx mf K' lb' b r :=
  Bool.eq_iff_iff.mpr ((mt_iff hok hB hf hb hl).trans (mt_iff hok hB' hf' hb hl).symm)
theorem fr_eq (hok : GOK nx) (hB : BIG mf K F) (hB' : BIG mf K' F') (hf : FIN nx gl mf K F lb) (hf' : FIN nx gl mf K' F' lb') {b M k : Nat} (hb : b < 64) (hl : LX nx gl mf b M (k + 1)) : frK nx mf K lb b = frK nx mf K' lb' b := by
  unfold frK
  rw [mt_eq hok hB hB' hf hf' (r := 0) hb hl, mt_eq hok hB hB' hf hf' (r := 1) hb hl, mt_eq hok hB hB' hf hf' (r := 2) hb hl]
theorem itb_eq (hok : GOK nx) (hB : BIG mf K F) (hB' : BIG mf K' F') (hf : FIN nx gl mf K F lb) (hf' : FIN nx gl mf K' F' lb') {b M n : Nat} (hb : b < 64) (hl : LX nx gl mf b M n) : ∀ i, i ≤ n → itb nx mf K lb b i = itb nx mf K' lb' b i
  | 0, _ => rfl
  | i + 1, hi => by
    have e := itb_eq hok hB hB' hf hf' hb hl i (by omega)
    obtain ⟨h1, M', h2⟩ := itb_ok hok hB hf hb hl i (by omega)
    rw [show n - i = (n - (i + 1)) + 1 by omega] at h2
    show (nx (itb nx mf K lb b i) (frK nx mf K lb (itb nx mf K lb b i))).getD 0 = (nx (itb nx mf K' lb' b i) (frK nx mf K' lb' (itb nx mf K' lb' b i))).getD 0
    rw [← e, fr_eq hok hB hB' hf hf' h1 h2]
theorem askV_eq (hok : GOK nx) (hB : BIG mf K F) (hB' : BIG mf K' F') (hf : FIN nx gl mf K F lb) (hf' : FIN nx gl mf K' F' lb') {b0 : Nat} (hb : b0 < 64) {z : Int32} : askV nx mf K F lb b0 z = askV nx mf K' F' lb' b0 z := by
  by_cases h : ∃ k M, CC nx gl mf k b0 M
  · obtain ⟨M, n, hl⟩ := LX_ex h
    have e1 := (hf b0 hb).1 M n hl
    have e2 := (hf' b0 hb).1 M n hl
    have f1 := opt_lt hok hB hb hl
    have f2 := opt_lt hok hB' hb hl
    have hn := LX_k hok hb hl
    have hK := hB.1
    have hK' := hB'.1
    have d1 : lb b0 / K = M := by rw [e1, Nat.mul_add_div (by omega), Nat.div_eq_of_lt (by omega), Nat.add_zero]
    have m1 : lb b0 % K = n := by rw [e1, Nat.mul_add_mod, Nat.mod_eq_of_lt (by omega)]
    have d2 : lb' b0 / K' = M := by rw [e2, Nat.mul_add_div (by omega), Nat.div_eq_of_lt (by omega), Nat.add_zero]
    have m2 : lb' b0 % K' = n := by rw [e2, Nat.mul_add_mod, Nat.mod_eq_of_lt (by omega)]
    unfold askV
    rw [if_neg (show ¬ lb b0 = F by omega), if_neg (show ¬ lb' b0 = F' by omega), d1, m1, d2, m2]
    by_cases c1 : z = -2
    · rw [if_pos c1, if_pos c1]
    · rw [if_neg c1, if_neg c1]
      by_cases c2 : z = -1
      · rw [if_pos c2, if_pos c2]
      · rw [if_neg c2, if_neg c2]
        by_cases c3 : n ≤ ix z
        · rw [if_pos c3, if_pos c3]
        · rw [if_neg c3, if_neg c3]
          obtain ⟨h1, M', h2⟩ := itb_ok hok hB hf hb hl (ix z) (by omega)
          rw [show n - ix z = (n - (ix z + 1)) + 1 by omega] at h2
          rw [← itb_eq hok hB hB' hf hf' hb hl (ix z) (by omega), fr_eq hok hB hB' hf hf' h1 h2]
  · unfold askV
    rw [if_pos ((hf b0 hb).2 h), if_pos ((hf' b0 hb).2 h)]
end PLN
theorem blw_pos {x : Int32} {n : Nat} (h : blw x n = true) : 0 < n := by
  obtain ⟨j, h1, _⟩ := blw_t h; omega
theorem ix_lt {x : Int32} {n : Nat} (h : blw x n = true) (hn : n ≤ 2 ^ 31) : ix x < n := by
  obtain ⟨j, h1, rfl⟩ := blw_t h
  rw [ix_n (by omega)]; exact h1
theorem AskP_eq {a : Nat → Nat → Nat} {x c z r r' : Int32} (hWF : WFA a) (h : AskP 1000 FAR a x c z r) (h' : AskP 100 NEV a x c z r') : r = r' := by
  rcases h with ⟨h1, h2⟩ | ⟨h1, h2, h3⟩ | ⟨h1, h2, lb, hf, h3⟩ <;> rcases h' with ⟨g1, g2⟩ | ⟨g1, g2, g3⟩ | ⟨g1, g2, lb', hf', g3⟩
  · rw [h2, g2]
  · rw [h1] at g1; cases g1
  · rw [h1] at g1; cases g1
  · rw [h1] at g1; cases g1
  · rw [h3, g3]
  · rw [h2] at g2; cases g2
  · rw [h1] at g1; cases g1
  · rw [h2] at g2; cases g2
  · rw [h3, g3]
    have hW := hWF.d (blw_pos ((Bool.and_eq_true _ _).mp h1).1)
    exact askV_eq (nxA_ok hW.2.1) (big_D hW) (mbig_D hW) hf hf' hW.2.2.2.2.2.1
theorem TreP_eq {a : Nat → Nat → Nat} {z r r' : Int32} (hWF : WFA a) (h : TreP 1000 FAR a z r) (h' : TreP 100 NEV a z r') : r = r' := by
  rcases h with ⟨h1, h2⟩ | ⟨h1, h2, h3⟩ | ⟨h1, h2, lb, hf, h3⟩ <;> rcases h' with ⟨g1, g2⟩ | ⟨g1, g2, g3⟩ | ⟨g1, g2, lb', hf', g3⟩
  · rw [h2, g2]
  · rw [h1] at g1; cases g1
  · rw [h1] at g1; cases g1
  · rw [h1] at g1; cases g1
  · rw [h3, g3]
  · exact absurd h2 g2
  · rw [h1] at g1; cases g1
  · exact absurd g2 h2
  · rw [h3, g3]
    have hW := hWF.g (by omega)
    exact askV_eq (nxA_ok hW.2.1) big_T mbig_T hf hf' hW.2.2.2.2.2.1
theorem WL_worth {a : Nat → Nat → Nat} {k m : Nat} (hm : m ≤ 9) (hW : WL a) : WL (setA a 9 k m) := by
  obtain ⟨w3, w8, wd1, wd6, wso, wb, wbs, wbp, wne, wrn, wgu, wdi, wre⟩ := hW
  refine ⟨w3, w8, wd1, wd6, wso, wb, wbs, wbp, wne, wrn, wgu, fun i hi => ?_, wre⟩
  by_cases e : i = k
  · rw [e, setA_s]; have := wdi i hi; rw [e] at this; exact ⟨this.1, hm⟩
  · rw [setA_i e]; exact wdi i hi
theorem WL_seat {a : Nat → Nat → Nat} {k m : Nat} (hm : m < a 0 0) (hW : WL a) : WL (setA a 8 k m) := by
  obtain ⟨w3, w8, wd1, wd6, wso, wb, wbs, wbp, wne, wrn, wgu, wdi, wre⟩ := hW
  refine ⟨w3, w8, wd1, wd6, wso, wb, wbs, wbp, wne, wrn, wgu, fun i hi => ?_, wre⟩
  by_cases e : i = k
  · rw [e, setA_s]; have := wdi i hi; rw [e] at this; exact ⟨hm, this.2⟩
  · rw [setA_i e]; exact wdi i hi
theorem WL_border {a : Nat → Nat → Nat} {b : Nat} (h1 : b < 64) (h2 : b / 8 < a 0 0) (h3 : b % 8 < a 0 0) (h4 : b / 8 ≠ b % 8) (hW : WL a) : WL (setA a 3 0 b) := by
  obtain ⟨w3, w8, wd1, wd6, wso, wb, wbs, wbp, wne, wrn, wgu, wdi, wre⟩ := hW
  exact ⟨w3, w8, wd1, wd6, wso, by rw [setA_s]; exact h1, by rw [setA_s]; exact h2, by rw [setA_s]; exact h3, by rw [setA_s]; exact h4, wrn, wgu, wdi, wre⟩
theorem WL_back {a : Nat → Nat → Nat} {m : Nat} (hm : m ≤ a 4 0) (hW : WL a) : WL (setA a 4 0 m) := by
  obtain ⟨w3, w8, wd1, wd6, wso, wb, wbs, wbp, wne, wrn, wgu, wdi, wre⟩ := hW
  exact ⟨w3, w8, wd1, wd6, wso, wb, wbs, wbp, wne, by rw [setA_s]; omega, wgu, wdi, fun i hi => by rw [setA_s] at hi; exact wre i (by omega)⟩
theorem WL_read {a : Nat → Nat → Nat} {k v : Nat} (hk : k < a 0 0) (hv : v ≤ 19) (h8 : a 4 0 < 8) (hW : WL a) : WL (setA (setA (setA a 10 (a 4 0) k) 11 (a 4 0) v) 4 0 (a 4 0 + 1)) := by
  obtain ⟨w3, w8, wd1, wd6, wso, wb, wbs, wbp, wne, wrn, wgu, wdi, wre⟩ := hW
  refine ⟨w3, w8, wd1, wd6, wso, wb, wbs, wbp, wne, by rw [setA_s]; omega, wgu, wdi, fun i hi => ?_⟩
  rw [setA_s] at hi
  rw [setA_c (c' := 10) (by decide), setA_c (c' := 10) (by decide), setA_c (c' := 0) (by decide), setA_c (c' := 0) (by decide), setA_c (c' := 0) (by decide), setA_c (c' := 11) (by decide)]
  by_cases e : i = a 4 0
  · rw [e, setA_s, setA_s]; exact ⟨hk, hv⟩
  · rw [setA_i e, setA_i e, setA_c (c' := 11) (by decide)]; exact wre i (by omega)
theorem WFA_chew {a : Nat → Nat → Nat} {x v : Int32} (h : WFA a) : WFA (sChew a x v) := by
  unfold sChew; split
  · rename_i q
    rw [Bool.and_eq_true] at q
    exact Or.inl (WL_mouth (Nat.le_of_lt_succ (ix_lt q.2 (by decide))) (h.g (blw_pos q.1)))
  · exact h
theorem WFA_cook {a : Nat → Nat → Nat} {v : Int32} (h : WFA a) : WFA (sCook a v) := by
  unfold sCook; split
  · rename_i q
    rw [Bool.and_eq_true] at q
    have q2 : ¬ a 0 0 = 0 := by intro e; rw [decide_eq_true e] at q; exact absurd q.2 (by decide)
    exact Or.inl (WL_soup (Nat.le_of_lt_succ (ix_lt q.1 (by decide))) (h.g (by omega)))
  · exact h
theorem WFA_rate {a : Nat → Nat → Nat} {x v : Int32} (h : WFA a) : WFA (sRate a x v) := by
  unfold sRate; split
  · rename_i q
    rw [Bool.and_eq_true] at q
    exact Or.inl (WL_worth (Nat.le_of_lt_succ (ix_lt q.2 (by decide))) (h.d (blw_pos q.1)))
  · exact h
theorem WFA_carry {a : Nat → Nat → Nat} {x v : Int32} (h : WFA a) : WFA (sCarry a x v) := by
  unfold sCarry; split
  · rename_i q
    rw [Bool.and_eq_true] at q
    have hW := h.d (blw_pos q.1)
    exact Or.inl (WL_seat (ix_lt q.2 (by have := hW.2.1; omega)) hW)
  · exact h
theorem WFA_pass {a : Nat → Nat → Nat} {x : Int32} (h : WFA a) : WFA (sPass a x) := by
  unfold sPass; split
  · rename_i q
    rw [Bool.and_eq_true] at q
    have q2 : ¬ a 0 0 = 0 := by intro e; rw [decide_eq_true e] at q; exact absurd q.2 (by decide)
    have hW := h.g (by omega)
    cases e : beh (a 0 0) (a 3 0) (ix x) with
    | none => exact h
    | some b =>
      have hb := beh_some hW.2.1 hW.2.2.2.2.2.2.1 hW.2.2.2.2.2.2.2.1 e
      exact Or.inl (WL_border hb.1 hb.2.1 hb.2.2.1 hb.2.2.2 hW)
  · exact h
theorem WFA_reading {a : Nat → Nat → Nat} {x v : Int32} (h : WFA a) : WFA (sReading a x v) := by
  unfold sReading; split
  · rename_i q
    rw [Bool.and_eq_true, Bool.and_eq_true] at q
    have hW := h.g (blw_pos q.1.1)
    exact Or.inl (WL_read (ix_lt q.1.1 (by have := hW.2.1; omega)) (Nat.le_of_lt_succ (ix_lt q.1.2 (by decide))) (of_decide_eq_true q.2) hW)
  · exact h
theorem WFA_back {a : Nat → Nat → Nat} {x : Int32} (h : WFA a) : WFA (sBack a x) := by
  unfold sBack; split
  · rcases h with hW | hZ
    · exact Or.inl (WL_back (by omega) hW)
    · obtain ⟨z0, z1, z2, z3, z4⟩ := hZ
      exact Or.inr ⟨z0, z1, z2, z3, by rw [setA_s]; omega⟩
  · exact h
theorem WFA_table {a : Nat → Nat → Nat} {h : HS} {x l i n : Int32} (hw : WFA a) : WFA (sTable a h x l i n) := by
  unfold sTable; split
  · rename_i q
    rw [Bool.and_eq_true] at q
    obtain ⟨g, m, e, hb, h3, h8, h1, h6⟩ := psr_ok q.2
    rw [e]
    exact Or.inl (pTab_WL hb h3 h8 h1 h6)
  · exact hw
theorem BH_sheet {h : HS} {x l y : Int32} (hb : BH h) : BH (sSheet h x l y) := by
  unfold sSheet; split
  · rename_i q
    rw [Bool.and_eq_true, Bool.and_eq_true, Bool.and_eq_true] at q
    obtain ⟨⟨q1, q2, q3⟩, q4⟩ := q
    have y0 : ¬ y < 0 := by intro e; rw [decide_eq_true e] at q4; exact absurd q4 (by decide)
    have y6 : ¬ nI 60 < y := by intro e; rw [decide_eq_true e] at q3; exact absurd q3 (by decide)
    obtain ⟨k, hk, rfl⟩ := nI_of y0
    have k6 : k ≤ 60 := (nI_leI hk (by decide)).mp (Int32.not_lt.mp y6)
    intro j hj ht
    by_cases e : j = ix x
    · refine ⟨?_, ?_⟩
      · show va_up h.2.1 (ix x) (ix l) j < 3
        unfold va_up; rw [if_pos e]; exact ix_lt q2 (by decide)
      · show va_up h.2.2.1 (ix x) (ix (nI k)) j ≤ 60
        unfold va_up; rw [if_pos e, ix_n hk]; exact k6
    · have ht : va_up h.1 (ix x) true j = true := ht
      unfold va_up at ht; rw [if_neg e] at ht
      have := hb j hj ht
      refine ⟨?_, ?_⟩
      · show va_up h.2.1 (ix x) (ix l) j < 3
        unfold va_up; rw [if_neg e]; exact this.1
      · show va_up h.2.2.1 (ix x) (ix (nI k)) j ≤ 60
        unfold va_up; rw [if_neg e]; exact this.2
  · exact hb
theorem BH_lose {h : HS} {x : Int32} (hb : BH h) : BH (sLose h x) := by
  unfold sLose; split
  · intro j hj ht
    have ht : va_up h.1 (ix x) false j = true := ht
    unfold va_up at ht
    by_cases e : j = ix x
    · rw [if_pos e] at ht; cases ht
    · rw [if_neg e] at ht; exact hb j hj ht
  · exact hb
theorem BH_put {h : HS} {x i v : Int32} (hb : BH h) : BH (sPut h x i v) := by
  unfold sPut; split
  · exact hb
  · exact hb
theorem BH_copy {h : HS} {x i y j n : Int32} (hb : BH h) : BH (sCopy h x i y j n) := by
  unfold sCopy; split
  · exact hb
  · exact hb
