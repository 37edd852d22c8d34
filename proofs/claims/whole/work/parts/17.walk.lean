/-! fill, the walk of salt, a dinner that is served -/
def wfL (L : Nat → Nat → Int64) (q : Nat) (f : Nat → Int64) (i : Nat) : Nat → Nat → Int64 := fun r k => if r = q then (if k < i then f k else L r k) else L r k
theorem wfL_0 {L : Nat → Nat → Int64} {q : Nat} {f : Nat → Int64} : wfL L q f 0 = L := by funext r k; simp [wfL]
theorem wfL_s {L : Nat → Nat → Int64} {q : Nat} {f : Nat → Int64} {i : Nat} : uL (wfL L q f i) q i (f i) = wfL L q f (i + 1) := by
  funext r k
  simp only [uL, wfL]
  by_cases h1 : r = q
  · rw [if_pos h1, if_pos h1, if_pos h1]
    by_cases h2 : k = i
    · rw [if_pos h2, if_pos (by omega), h2]
    · rw [if_neg h2]
      by_cases h3 : k < i
      · rw [if_pos h3, if_pos (by omega)]
      · rw [if_neg h3, if_neg (by omega)]
  · rw [if_neg h1, if_neg h1, if_neg h1]
theorem wfL_p {L : Nat → Nat → Int64} {q r : Nat} {f : Nat → Int64} {i : Nat} (h : r ≠ q) : wfL L q f i r = L r := by funext k; simp [wfL, h]
theorem wfL_i {L : Nat → Nat → Int64} {q : Nat} {f : Nat → Int64} {i k : Nat} (h : k < i) : wfL L q f i q k = f k := by simp [wfL, h]
def upN (f : Nat → Nat) (i v : Nat) : Nat → Nat := fun j => if j = i then v else f j
def wst (g p : Nat) (stays : Bool) (W : Nat → Nat) : Nat → Nat → Nat
  | 0 => fun _ => 0
  | k + 1 => if nb g (k / 2) (k % 2) = p then (if stays then upN (wst g p stays W k) (k / 2) (wst g p stays W k (k / 2) + W (k / 2)) else wst g p stays W k) else upN (wst g p stays W k) (nb g (k / 2) (k % 2)) (wst g p stays W k (nb g (k / 2) (k % 2)) + W (k / 2))
theorem wst_go {g p m k i : Nat} {sy : Bool} {W : Nat → Nat} (h1 : m / 2 = k) (h2 : m % 2 = i) (h : ¬ nb g k i = p) : wst g p sy W (m + 1) = upN (wst g p sy W m) (nb g k i) (wst g p sy W m (nb g k i) + W k) := by
  subst h1; subst h2; exact if_neg h
theorem wst_st {g p m k i : Nat} {sy : Bool} {W : Nat → Nat} (h1 : m / 2 = k) (h2 : m % 2 = i) (h : nb g k i = p) (hs : sy = true) : wst g p sy W (m + 1) = upN (wst g p sy W m) k (wst g p sy W m k + W k) := by
  subst h1; subst h2; exact (if_pos h).trans (if_pos hs)
theorem wst_no {g p m k i : Nat} {sy : Bool} {W : Nat → Nat} (h1 : m / 2 = k) (h2 : m % 2 = i) (h : nb g k i = p) (hs : sy = false) : wst g p sy W (m + 1) = wst g p sy W m := by
  subst h1; subst h2; exact (if_pos h).trans (if_neg (by rw [hs]; decide))
def wkN (g s p : Nat) (stays : Bool) : Nat → Nat → Nat
  | 0 => fun i => if i = s then 1 else 0
  | n + 1 => wst g p stays (wkN g s p stays n) (2 * g)
/-- a row of longs holds these numbers -/
def LW (L : Nat → Nat → Int64) (q g : Nat) (A : Nat → Nat) : Prop := ∀ i, i < g → L q i = lN (A i)
theorem LW_up {L : Nat → Nat → Int64} {q g k v : Nat} {A : Nat → Nat} (h : LW L q g A) : LW (uL L q k (lN v)) q g (upN A k v) := by
  intro i hi
  simp only [uL, upN, if_true]
  by_cases e : i = k
  · rw [if_pos e, if_pos e]
  · rw [if_neg e, if_neg e]; exact h i hi
set_option maxRecDepth 20000 in
theorem c_J7_fill_53178 {S : Nat → Nat → Int32} {L : Nat → Nat → Int64} {R : Nat × Nat × Nat} {d : Nat} {P n : Nat} {x : Int32} (hP : kd P = 8) (hlP : ln P = n) : TT mJ7_fill_53178 (d + 0) 0 [some (.ref P), some (.int (x)), none, none] [] (S, L, R) (rt none (wf S P (fun _ => x) n, L, R)) := by
  have hn : n ≤ 256 := by rw [← hlP]; exact ln_le P
  refine T_iconst (v := nI 0) dJ7_fill_53178_0 (by decide) ?_
  refine T_ist2 dJ7_fill_53178_1 (by decide) rfl ?_
  refine T_ald0 dJ7_fill_53178_2 ?_
  refine T_alen dJ7_fill_53178_3 hP ?_
  rw [hlP]
  refine T_ist3 dJ7_fill_53178_4 (by decide) rfl ?_
  skip
  have st0 : TT mJ7_fill_53178 (d + 0) 5 [some (.ref P), some (.int (x)), some (.int (nI 0)), some (.int (nI n))] [] (wf S P (fun _ => x) 0, L, R) (rt none (wf S P (fun _ => x) n, L, R)) := ?_
  · rw [wf_0] at st0; exact st0
  refine up_ind (P := fun i => TT mJ7_fill_53178 (d + 0) 5 [some (.ref P), some (.int (x)), some (.int (nI i)), some (.int (nI n))] [] (wf S P (fun _ => x) i, L, R) (rt none (wf S P (fun _ => x) n, L, R))) n ?_ ?_
  · refine T_ild2 dJ7_fill_53178_5 ?_
    refine T_ild3 dJ7_fill_53178_6 ?_
    refine T_cgeN (tgt := 20) dJ7_fill_53178_7 (by decide) (by omega) (by omega) (fun h7 => ?_) (fun h7 => by exfalso; omega)
    refine T_vret dJ7_fill_53178_20 rfl ?_
    exact rt_i
  · intro i hi ih
    refine T_ild2 dJ7_fill_53178_5 ?_
    refine T_ild3 dJ7_fill_53178_6 ?_
    refine T_cgeN (tgt := 20) dJ7_fill_53178_7 (by decide) (by omega) (by omega) (fun h7 => by exfalso; omega) (fun h7 => ?_)
    refine T_ald0 dJ7_fill_53178_10 ?_
    refine T_ild2 dJ7_fill_53178_11 ?_
    refine T_ild1 dJ7_fill_53178_12 ?_
    refine T_iast dJ7_fill_53178_13 hP (by rw [hlP]; omega) rfl ?_
    refine T_inc2N dJ7_fill_53178_14 (by decide) rfl ?_
    refine T_goto (tgt := 5) dJ7_fill_53178_17 (by decide) ?_
    rw [wf_s (f := fun _ => x)]; exact ih
set_option maxRecDepth 20000 in
theorem c_J7_fill_d0a16 {S : Nat → Nat → Int32} {L : Nat → Nat → Int64} {R : Nat × Nat × Nat} {d : Nat} {P n : Nat} {x : Int64} (hP : kd P = 9) (hlP : ln P = n) : TT mJ7_fill_d0a16 (d + 0) 0 [some (.ref P), some (.long x), none, none, none] [] (S, L, R) (rt none (S, wfL L P (fun _ => x) n, R)) := by
  have hn : n ≤ 256 := by rw [← hlP]; exact ln_le P
  refine T_iconst (v := nI 0) dJ7_fill_d0a16_0 (by decide) ?_
  refine T_ist3 dJ7_fill_d0a16_1 (by decide) rfl ?_
  refine T_ald0 dJ7_fill_d0a16_2 ?_
  refine T_alenL dJ7_fill_d0a16_3 hP ?_
  rw [hlP]
  refine T_ist4 dJ7_fill_d0a16_4 (by decide) rfl ?_
  skip
  have st0 : TT mJ7_fill_d0a16 (d + 0) 6 [some (.ref P), some (.long x), none, some (.int (nI 0)), some (.int (nI n))] [] (S, wfL L P (fun _ => x) 0, R) (rt none (S, wfL L P (fun _ => x) n, R)) := ?_
  · rw [wfL_0] at st0; exact st0
  refine up_ind (P := fun i => TT mJ7_fill_d0a16 (d + 0) 6 [some (.ref P), some (.long x), none, some (.int (nI i)), some (.int (nI n))] [] (S, wfL L P (fun _ => x) i, R) (rt none (S, wfL L P (fun _ => x) n, R))) n ?_ ?_
  · refine T_ild3 dJ7_fill_d0a16_6 ?_
    refine T_ild4 dJ7_fill_d0a16_7 ?_
    refine T_cgeN (tgt := 22) dJ7_fill_d0a16_9 (by decide) (by omega) (by omega) (fun h9 => ?_) (fun h9 => by exfalso; omega)
    refine T_vret dJ7_fill_d0a16_22 rfl ?_
    exact rt_i
  · intro i hi ih
    refine T_ild3 dJ7_fill_d0a16_6 ?_
    refine T_ild4 dJ7_fill_d0a16_7 ?_
    refine T_cgeN (tgt := 22) dJ7_fill_d0a16_9 (by decide) (by omega) (by omega) (fun h9 => by exfalso; omega) (fun h9 => ?_)
    refine T_ald0 dJ7_fill_d0a16_12 ?_
    refine T_ild3 dJ7_fill_d0a16_13 ?_
    refine T_lld1 dJ7_fill_d0a16_14 ?_
    refine T_last dJ7_fill_d0a16_15 hP (by rw [hlP]; omega) rfl ?_
    refine T_inc3N dJ7_fill_d0a16_16 (by decide) rfl ?_
    refine T_goto (tgt := 6) dJ7_fill_d0a16_19 (by decide) ?_
    rw [wfL_s (f := fun _ => x)]; exact ih
set_option maxRecDepth 20000 in
theorem c_X2_passFrom {S : Nat → Nat → Int32} {L : Nat → Nat → Int64} {R : Nat × Nat × Nat} {d : Nat} {T : Nat} (hT : T = 19 ∨ T = 28) {a : Nat → Nat → Nat} (hV : TV S T a) (hW : WL a) {k : Nat} {sy : Bool} {W : Nat → Nat} (hk : k < a 0 0) (h17 : LW L 17 (a 0 0) W) (h18 : LW L 18 (a 0 0) (wst (a 0 0) (a 3 0 % 8) sy W (2 * k))) : TT mX2_passFrom (d + 2) 0 [some (.ref 16), some (.ref T), some (.int (nI k)), some (.int (bI sy)), none, none, none] [] (S, L, R) (fun r σ' => r = none ∧ ∃ L', σ' = (S, L', R) ∧ (∀ q, q ≠ 18 → L' q = L q) ∧ LW L' 18 (a 0 0) (wst (a 0 0) (a 3 0 % 8) sy W (2 * k + 2))) := by
  obtain ⟨hg, hdn, hso, hbd, hrn, hgu, hdi, hre⟩ := id hV
  obtain ⟨w3, w8, wd1, wd6, wso, wb, wbs, wbp, wne, wrn, wgu, wdi, wre⟩ := id hW
  refine T_ild2 dX2_passFrom_0 ?_
  refine T_ald1 dX2_passFrom_1 ?_
  refine T_getN dX2_passFrom_2 lf_X2_24 (kT hT) rfl hbd ?_
  refine T_invSN1i (M' := mX6_pepperOf) dX2_passFrom_5 ml_X2_47 imX6_pepperOf (Nat.le_of_ble_eq_true rfl) rfl (Nat.le_of_ble_eq_true rfl) (c_X6_pepperOf (by omega)) ?_
  refine T_invSN2i (M' := mX6_borderOf) dX2_passFrom_8 ml_X2_50 imX6_borderOf (Nat.le_of_ble_eq_true rfl) rfl (Nat.le_of_ble_eq_true rfl) c_X6_borderOf ?_
  refine T_ist4 dX2_passFrom_11 (by decide) rfl ?_
  refine T_iconst (v := nI 0) dX2_passFrom_13 (by decide) ?_
  refine T_ist5 dX2_passFrom_14 (by decide) rfl ?_
  skip
  refine up_ind (P := fun i => ∀ L1 x6, (∀ q, q ≠ 18 → L1 q = L q) → LW L1 18 (a 0 0) (wst (a 0 0) (a 3 0 % 8) sy W (2 * k + i)) → TT mX2_passFrom (d + 2) 16 [some (.ref 16), some (.ref T), some (.int (nI k)), some (.int (bI sy)), some (.int (nI (8 * k + a 3 0 % 8))), some (.int (nI i)), x6] [] (S, L1, R) (fun r σ' => r = none ∧ ∃ L', σ' = (S, L', R) ∧ (∀ q, q ≠ 18 → L' q = L q) ∧ LW L' 18 (a 0 0) (wst (a 0 0) (a 3 0 % 8) sy W (2 * k + 2)))) 2 ?_ ?_ L none (fun _ _ => rfl) h18
  · intro L1 x6 g1 g2
    refine T_ild5 dX2_passFrom_16 ?_
    refine T_iconst (v := nI 2) dX2_passFrom_18 (by decide) ?_
    refine T_cgeN (tgt := 86) dX2_passFrom_19 (by decide) (by omega) (by omega) (fun h19 => ?_) (fun h19 => by exfalso; omega)
    refine T_vret dX2_passFrom_86 rfl ?_
    exact ⟨rfl, L1, rfl, g1, g2⟩
  · intro i hi ih L1 x6 g1 g2
    have e1 : (2 * k + i) / 2 = k := by omega
    have e2 : (2 * k + i) % 2 = i := by omega
    have e3 : (8 * k + a 3 0 % 8) / 8 = k := by omega
    have e4 : (8 * k + a 3 0 % 8) % 8 = a 3 0 % 8 := by omega
    have nl := nb_lt (r := i) hk
    have l17 : L1 17 k = lN (W k) := by rw [g1 17 (by decide)]; exact h17 k hk
    by_cases eb : nb (a 0 0) k i = a 3 0 % 8
    · have hbe : beh (a 0 0) (8 * k + a 3 0 % 8) i = none := by unfold beh; rw [if_pos hi, e3, e4, if_pos eb]
      refine T_ild5 dX2_passFrom_16 ?_
      refine T_iconst (v := nI 2) dX2_passFrom_18 (by decide) ?_
      refine T_cgeN (tgt := 86) dX2_passFrom_19 (by decide) (by omega) (by omega) (fun h19 => by exfalso; omega) (fun h19 => ?_)
      refine T_ald1 dX2_passFrom_22 ?_
      refine T_ild4 dX2_passFrom_23 ?_
      refine T_ild5 dX2_passFrom_25 ?_
      refine T_invV2i (M' := mX4_borderBehind) dX2_passFrom_27 ml_X2_54 imX4_borderBehind (kT hT) (Nat.le_of_ble_eq_true rfl) rfl (Nat.le_of_ble_eq_true rfl) rfl (Nat.le_of_ble_eq_true rfl) (c_bb_n hT hg w8 (by omega) (by omega) (by omega) (by omega) hbe) ?_
      refine T_ist6 dX2_passFrom_30 (by decide) rfl ?_
      refine T_ild6 dX2_passFrom_32 ?_
      refine T_bipush (v := -9) dX2_passFrom_34 (by decide) ?_
      refine T_ceq (tgt := 61) dX2_passFrom_36 (by decide) (fun h36 => ?_) (fun h36 => by exact absurd rfl h36)
      refine T_ild3 dX2_passFrom_61 ?_
      refine T_ifeqB (tgt := 80) dX2_passFrom_62 (by decide) (fun h62 => ?_) (fun h62 => ?_)
      · refine T_inc5N dX2_passFrom_80 (by decide) rfl ?_
        refine T_goto (tgt := 16) dX2_passFrom_83 (by decide) ?_
        first
          | (refine ih _ _ g1 ?_
             have e : wst (a 0 0) (a 3 0 % 8) sy W (2 * k + (i + 1)) = wst (a 0 0) (a 3 0 % 8) sy W (2 * k + i) := wst_no e1 e2 eb h62
             rw [e]; exact g2)
          | (rw [l17, g2 k hk, lN_add]
             refine ih _ _ (fun q hq => by rw [uL_p hq]; exact g1 q hq) ?_
             have e : wst (a 0 0) (a 3 0 % 8) sy W (2 * k + (i + 1)) = upN (wst (a 0 0) (a 3 0 % 8) sy W (2 * k + i)) k (wst (a 0 0) (a 3 0 % 8) sy W (2 * k + i) k + W k) := wst_st e1 e2 eb h62
             rw [e]; exact LW_up g2)
      · refine T_ald0 dX2_passFrom_65 ?_
        refine T_getR (q := 18) dX2_passFrom_66 lf_X2_15 rfl rfl rfl ?_
        refine T_ild2 dX2_passFrom_69 ?_
        refine T_dup2 dX2_passFrom_70 rfl rfl ?_
        refine T_lald dX2_passFrom_71 rfl (by show _ < 8; omega) rfl ?_
        refine T_ald0 dX2_passFrom_72 ?_
        refine T_getR (q := 17) dX2_passFrom_73 lf_X2_9 rfl rfl rfl ?_
        refine T_ild2 dX2_passFrom_76 ?_
        refine T_lald dX2_passFrom_77 rfl (by show _ < 8; omega) rfl ?_
        refine T_ladd dX2_passFrom_78 ?_
        refine T_last dX2_passFrom_79 rfl (by show _ < 8; omega) rfl ?_
        refine T_inc5N dX2_passFrom_80 (by decide) rfl ?_
        refine T_goto (tgt := 16) dX2_passFrom_83 (by decide) ?_
        first
          | (refine ih _ _ g1 ?_
             have e : wst (a 0 0) (a 3 0 % 8) sy W (2 * k + (i + 1)) = wst (a 0 0) (a 3 0 % 8) sy W (2 * k + i) := wst_no e1 e2 eb h62
             rw [e]; exact g2)
          | (rw [l17, g2 k hk, lN_add]
             refine ih _ _ (fun q hq => by rw [uL_p hq]; exact g1 q hq) ?_
             have e : wst (a 0 0) (a 3 0 % 8) sy W (2 * k + (i + 1)) = upN (wst (a 0 0) (a 3 0 % 8) sy W (2 * k + i)) k (wst (a 0 0) (a 3 0 % 8) sy W (2 * k + i) k + W k) := wst_st e1 e2 eb h62
             rw [e]; exact LW_up g2)
    · have hbe : beh (a 0 0) (8 * k + a 3 0 % 8) i = some (8 * nb (a 0 0) k i + a 3 0 % 8) := by unfold beh; rw [if_pos hi, e3, e4, if_neg eb]
      have e5 : (8 * nb (a 0 0) k i + a 3 0 % 8) / 8 = nb (a 0 0) k i := by omega
      refine T_ild5 dX2_passFrom_16 ?_
      refine T_iconst (v := nI 2) dX2_passFrom_18 (by decide) ?_
      refine T_cgeN (tgt := 86) dX2_passFrom_19 (by decide) (by omega) (by omega) (fun h19 => by exfalso; omega) (fun h19 => ?_)
      refine T_ald1 dX2_passFrom_22 ?_
      refine T_ild4 dX2_passFrom_23 ?_
      refine T_ild5 dX2_passFrom_25 ?_
      refine T_invV2i (M' := mX4_borderBehind) dX2_passFrom_27 ml_X2_54 imX4_borderBehind (kT hT) (Nat.le_of_ble_eq_true rfl) rfl (Nat.le_of_ble_eq_true rfl) rfl (Nat.le_of_ble_eq_true rfl) (c_bb_s hT hg w8 (by omega) (by omega) (by omega) (by omega) hbe) ?_
      refine T_ist6 dX2_passFrom_30 (by decide) rfl ?_
      refine T_ild6 dX2_passFrom_32 ?_
      refine T_bipush (v := -9) dX2_passFrom_34 (by decide) ?_
      refine T_ceq (tgt := 61) dX2_passFrom_36 (by decide) (fun h36 => by exact absurd h36 (nI_m9 (by omega))) (fun h36 => ?_)
      refine T_ald0 dX2_passFrom_39 ?_
      refine T_getR (q := 18) dX2_passFrom_40 lf_X2_15 rfl rfl rfl ?_
      refine T_ild6 dX2_passFrom_43 ?_
      refine T_invSN1i (M' := mX6_saltOf) dX2_passFrom_45 ml_X2_30 imX6_saltOf (Nat.le_of_ble_eq_true rfl) rfl (Nat.le_of_ble_eq_true rfl) (c_X6_saltOf (by omega)) ?_
      rw [e5]
      refine T_dup2 dX2_passFrom_48 rfl rfl ?_
      refine T_lald dX2_passFrom_49 rfl (by show _ < 8; omega) rfl ?_
      refine T_ald0 dX2_passFrom_50 ?_
      refine T_getR (q := 17) dX2_passFrom_51 lf_X2_9 rfl rfl rfl ?_
      refine T_ild2 dX2_passFrom_54 ?_
      refine T_lald dX2_passFrom_55 rfl (by show _ < 8; omega) rfl ?_
      refine T_ladd dX2_passFrom_56 ?_
      refine T_last dX2_passFrom_57 rfl (by show _ < 8; omega) rfl ?_
      refine T_goto (tgt := 80) dX2_passFrom_58 (by decide) ?_
      refine T_inc5N dX2_passFrom_80 (by decide) rfl ?_
      refine T_goto (tgt := 16) dX2_passFrom_83 (by decide) ?_
      rw [l17, g2 _ nl, lN_add]
      refine ih _ _ (fun q hq => by rw [uL_p hq]; exact g1 q hq) ?_
      have e : wst (a 0 0) (a 3 0 % 8) sy W (2 * k + (i + 1)) = upN (wst (a 0 0) (a 3 0 % 8) sy W (2 * k + i)) (nb (a 0 0) k i) (wst (a 0 0) (a 3 0 % 8) sy W (2 * k + i) (nb (a 0 0) k i) + W k) := wst_go e1 e2 eb
      rw [e]; exact LW_up g2
set_option maxRecDepth 20000 in
theorem c_X2_go {S : Nat → Nat → Int32} {L : Nat → Nat → Int64} {R : Nat × Nat × Nat} {d : Nat} {T : Nat} (hT : T = 19 ∨ T = 28) {a : Nat → Nat → Nat} (hV : TV S T a) (hW : WL a) {n : Nat} {sy : Bool} (hn : n < 100) : TT mX2_go (d + 3) 0 [some (.ref 16), some (.ref T), some (.int (nI n)), some (.int (bI sy)), none, none] [] (S, L, R) (fun r σ' => r = none ∧ ∃ L', σ' = (S, L', R) ∧ (∀ q, q ≠ 17 → q ≠ 18 → L' q = L q) ∧ LW L' 17 (a 0 0) (wkN (a 0 0) (a 3 0 / 8) (a 3 0 % 8) sy n)) := by
  obtain ⟨hg, hdn, hso, hbd, hrn, hgu, hdi, hre⟩ := id hV
  obtain ⟨w3, w8, wd1, wd6, wso, wb, wbs, wbp, wne, wrn, wgu, wdi, wre⟩ := id hW
  refine T_ald0 dX2_go_0 ?_
  refine T_getR (q := 17) dX2_go_1 lf_X2_9 rfl rfl rfl ?_
  refine T_lconst (v := lN 0) dX2_go_4 (by decide) ?_
  refine T_invS2v (M' := mJ7_fill_d0a16) dX2_go_5 ml_X2_18 imJ7_fill_d0a16 (Nat.le_of_ble_eq_true rfl) rfl (Nat.le_of_ble_eq_true rfl) (c_J7_fill_d0a16 (n := 8) rfl rfl) ?_
  refine T_ald0 dX2_go_8 ?_
  refine T_getR (q := 17) dX2_go_9 lf_X2_9 rfl rfl rfl ?_
  refine T_ald1 dX2_go_12 ?_
  refine T_getN dX2_go_13 lf_X2_24 (kT hT) rfl hbd ?_
  refine T_invSN1i (M' := mX6_saltOf) dX2_go_16 ml_X2_30 imX6_saltOf (Nat.le_of_ble_eq_true rfl) rfl (Nat.le_of_ble_eq_true rfl) (c_X6_saltOf (by omega)) ?_
  refine T_lconst (v := lN 1) dX2_go_19 (by decide) ?_
  refine T_last dX2_go_20 rfl (by show _ < 8; omega) rfl ?_
  refine T_iconst (v := nI 0) dX2_go_21 (by decide) ?_
  refine T_ist4 dX2_go_22 (by decide) rfl ?_
  skip
  refine up_ind (P := fun i => ∀ L1 x5, (∀ q, q ≠ 17 → q ≠ 18 → L1 q = L q) → LW L1 17 (a 0 0) (wkN (a 0 0) (a 3 0 / 8) (a 3 0 % 8) sy i) → TT mX2_go (d + 3) 24 [some (.ref 16), some (.ref T), some (.int (nI n)), some (.int (bI sy)), some (.int (nI i)), x5] [] (S, L1, R) (fun r σ' => r = none ∧ ∃ L', σ' = (S, L', R) ∧ (∀ q, q ≠ 17 → q ≠ 18 → L' q = L q) ∧ LW L' 17 (a 0 0) (wkN (a 0 0) (a 3 0 / 8) (a 3 0 % 8) sy n))) n ?_ ?_ _ none ?_ ?_
  · intro L1 x5 g1 g2
    refine T_ild4 dX2_go_24 ?_
    refine T_ild2 dX2_go_26 ?_
    refine T_cgeN (tgt := 85) dX2_go_27 (by decide) (by omega) (by omega) (fun h27 => ?_) (fun h27 => by exfalso; omega)
    refine T_vret dX2_go_85 rfl ?_
    exact ⟨rfl, L1, rfl, g1, g2⟩
  · intro m hm ihm L1 x5 g1 g2
    refine T_ild4 dX2_go_24 ?_
    refine T_ild2 dX2_go_26 ?_
    refine T_cgeN (tgt := 85) dX2_go_27 (by decide) (by omega) (by omega) (fun h27 => by exfalso; omega) (fun h27 => ?_)
    refine T_ald0 dX2_go_30 ?_
    refine T_getR (q := 18) dX2_go_31 lf_X2_15 rfl rfl rfl ?_
    refine T_lconst (v := lN 0) dX2_go_34 (by decide) ?_
    refine T_invS2v (M' := mJ7_fill_d0a16) dX2_go_35 ml_X2_18 imJ7_fill_d0a16 (Nat.le_of_ble_eq_true rfl) rfl (Nat.le_of_ble_eq_true rfl) (c_J7_fill_d0a16 (n := 8) rfl rfl) ?_
    refine T_iconst (v := nI 0) dX2_go_38 (by decide) ?_
    refine T_ist5 dX2_go_39 (by decide) rfl ?_
    skip
    refine up_ind (P := fun i => ∀ L2, (∀ q, q ≠ 17 → q ≠ 18 → L2 q = L q) → LW L2 18 (a 0 0) (wst (a 0 0) (a 3 0 % 8) sy (wkN (a 0 0) (a 3 0 / 8) (a 3 0 % 8) sy m) (2 * i)) → LW L2 17 (a 0 0) (wkN (a 0 0) (a 3 0 / 8) (a 3 0 % 8) sy m) → TT mX2_go (d + 3) 41 [some (.ref 16), some (.ref T), some (.int (nI n)), some (.int (bI sy)), some (.int (nI m)), some (.int (nI i))] [] (S, L2, R) (fun r σ' => r = none ∧ ∃ L', σ' = (S, L', R) ∧ (∀ q, q ≠ 17 → q ≠ 18 → L' q = L q) ∧ LW L' 17 (a 0 0) (wkN (a 0 0) (a 3 0 / 8) (a 3 0 % 8) sy n))) (a 0 0) ?_ ?_ _ ?_ ?_ ?_
    · intro L2 g3 g4 g5
      refine T_ild5 dX2_go_41 ?_
      refine T_ald1 dX2_go_43 ?_
      refine T_getN dX2_go_44 lf_X2_34 (kT hT) rfl hg ?_
      refine T_cgeN (tgt := 64) dX2_go_47 (by decide) (by omega) (by omega) (fun h47 => ?_) (fun h47 => by exfalso; omega)
      refine T_ald0 dX2_go_64 ?_
      refine T_getR (q := 18) dX2_go_65 lf_X2_15 rfl rfl rfl ?_
      refine T_iconst (v := nI 0) dX2_go_68 (by decide) ?_
      refine T_ald0 dX2_go_69 ?_
      refine T_getR (q := 17) dX2_go_70 lf_X2_9 rfl rfl rfl ?_
      refine T_iconst (v := nI 0) dX2_go_73 (by decide) ?_
      refine T_bipush (v := nI 8) dX2_go_74 (by decide) ?_
      refine T_copyL dX2_go_76 ml_X2_41 rfl rfl rfl rfl rfl (by show 0 + 8 ≤ 8; omega) (by show 0 + 8 ≤ 8; omega) (Nat.le_of_ble_eq_true rfl) ?_
      refine T_inc4N dX2_go_79 (by decide) rfl ?_
      refine T_goto (tgt := 24) dX2_go_82 (by decide) ?_
      refine ihm _ _ (fun q h1 h2 => ?_) (fun i hi => ?_)
      · show (if q = 17 then _ else _) = _
        rw [if_neg h1]; exact g3 q h1 h2
      · show (if 17 = 17 then va_cpy (L2 18) (L2 17) 0 0 8 else L2 17) i = _
        rw [if_pos rfl, pk_cpy_in (Nat.zero_le i) (by omega)]
        rw [show 0 + (i - 0) = i by omega]
        exact g4 i hi
    · intro i hi ih L2 g3 g4 g5
      refine T_ild5 dX2_go_41 ?_
      refine T_ald1 dX2_go_43 ?_
      refine T_getN dX2_go_44 lf_X2_34 (kT hT) rfl hg ?_
      refine T_cgeN (tgt := 64) dX2_go_47 (by decide) (by omega) (by omega) (fun h47 => by exfalso; omega) (fun h47 => ?_)
      refine T_ald0 dX2_go_50 ?_
      refine T_ald1 dX2_go_51 ?_
      refine T_ild5 dX2_go_52 ?_
      refine T_ild3 dX2_go_54 ?_
      refine T_invV3 (M' := mX2_passFrom) dX2_go_55 ml_X2_37 imX2_passFrom rfl (Nat.le_of_ble_eq_true rfl) rfl (Nat.le_of_ble_eq_true rfl) rfl (Nat.le_of_ble_eq_true rfl) (c_X2_passFrom hT hV hW hi g5 g4) (fun r σ' hq => ?_)
      obtain ⟨rfl, L3, rfl, g6, g7⟩ := hq
      refine T_inc5N dX2_go_58 (by decide) rfl ?_
      refine T_goto (tgt := 41) dX2_go_61 (by decide) ?_
      refine ih L3 (fun q h1 h2 => by rw [g6 q h2]; exact g3 q h1 h2) (by rw [show 2 * (i + 1) = 2 * i + 2 by omega]; exact g7) (fun j hj => by rw [g6 17 (by decide)]; exact g5 j hj)
    · intro q h1 h2
      rw [wfL_p h2]; exact g1 q h1 h2
    · intro i hi
      rw [wfL_i (by omega)]; rfl
    · intro i hi
      rw [wfL_p (by decide)]; exact g2 i hi
  · intro q h1 h2
    rw [uL_p h1, wfL_p h1]
  · intro i hi
    by_cases e : i = a 3 0 / 8
    · rw [e, uL_s]; show lN 1 = lN (if _ then 1 else 0); rw [if_pos rfl]
    · rw [uL_k e, wfL_i (by omega)]; show lN 0 = lN (if _ then 1 else 0); rw [if_neg e]
set_option maxRecDepth 20000 in
theorem c_X2_waysToOwn {S : Nat → Nat → Int32} {L : Nat → Nat → Int64} {R : Nat × Nat × Nat} {d : Nat} {T : Nat} (hT : T = 19 ∨ T = 28) {a : Nat → Nat → Nat} (hV : TV S T a) (hW : WL a) {e c : Nat} {W : Nat → Nat} (he : e < a 1 0) (h17 : LW L 17 (a 0 0) W) : TT mX2_waysToOwn (d + 3) 0 [some (.ref 16), some (.ref T), some (.int (nI e)), some (.int (nI c)), none, none, none, none] [] (S, L, R) (rt (some (.long (lN (sm (fun i => if who (a 0 0) (a 8 e) i (a 3 0 % 8) = nI c then W i else 0) (a 0 0))))) (S, L, R)) := by
  obtain ⟨hg, hdn, hso, hbd, hrn, hgu, hdi, hre⟩ := id hV
  obtain ⟨w3, w8, wd1, wd6, wso, wb, wbs, wbp, wne, wrn, wgu, wdi, wre⟩ := id hW
  refine T_lconst (v := lN 0) dX2_waysToOwn_0 (by decide) ?_
  refine T_lst4 dX2_waysToOwn_1 (by decide) rfl ?_
  refine T_iconst (v := nI 0) dX2_waysToOwn_3 (by decide) ?_
  refine T_ist6 dX2_waysToOwn_4 (by decide) rfl ?_
  skip
  refine up_ind (P := fun i => ∀ x7, TT mX2_waysToOwn (d + 3) 6 [some (.ref 16), some (.ref T), some (.int (nI e)), some (.int (nI c)), some (.long (lN (sm (fun i => if who (a 0 0) (a 8 e) i (a 3 0 % 8) = nI c then W i else 0) i))), none, some (.int (nI i)), x7] [] (S, L, R) (rt (some (.long (lN (sm (fun i => if who (a 0 0) (a 8 e) i (a 3 0 % 8) = nI c then W i else 0) (a 0 0))))) (S, L, R))) (a 0 0) ?_ ?_ none
  · intro x7
    refine T_ild6 dX2_waysToOwn_6 ?_
    refine T_ald1 dX2_waysToOwn_8 ?_
    refine T_getN dX2_waysToOwn_9 lf_X2_34 (kT hT) rfl hg ?_
    refine T_cgeN (tgt := 58) dX2_waysToOwn_12 (by decide) (by omega) (by omega) (fun h12 => ?_) (fun h12 => by exfalso; omega)
    refine T_lld4 dX2_waysToOwn_58 ?_
    refine T_lret dX2_waysToOwn_60 rfl ?_
    exact rt_i
  · intro i hi ih x7
    have e3 : (8 * i + a 3 0 % 8) / 8 = i := by omega
    have e4 : (8 * i + a 3 0 % 8) % 8 = a 3 0 % 8 := by omega
    refine T_ild6 dX2_waysToOwn_6 ?_
    refine T_ald1 dX2_waysToOwn_8 ?_
    refine T_getN dX2_waysToOwn_9 lf_X2_34 (kT hT) rfl hg ?_
    refine T_cgeN (tgt := 58) dX2_waysToOwn_12 (by decide) (by omega) (by omega) (fun h12 => by exfalso; omega) (fun h12 => ?_)
    refine T_ild6 dX2_waysToOwn_15 ?_
    refine T_ald1 dX2_waysToOwn_17 ?_
    refine T_getN dX2_waysToOwn_18 lf_X2_24 (kT hT) rfl hbd ?_
    refine T_invSN1i (M' := mX6_pepperOf) dX2_waysToOwn_21 ml_X2_47 imX6_pepperOf (Nat.le_of_ble_eq_true rfl) rfl (Nat.le_of_ble_eq_true rfl) (c_X6_pepperOf (by omega)) ?_
    refine T_invSN2i (M' := mX6_borderOf) dX2_waysToOwn_24 ml_X2_50 imX6_borderOf (Nat.le_of_ble_eq_true rfl) rfl (Nat.le_of_ble_eq_true rfl) c_X6_borderOf ?_
    refine T_ist7 dX2_waysToOwn_27 (by decide) rfl ?_
    refine T_ald1 dX2_waysToOwn_29 ?_
    refine T_ild2 dX2_waysToOwn_30 ?_
    refine T_ild7 dX2_waysToOwn_31 ?_
    refine T_invV2i (M' := mX4_ownerOfDish) dX2_waysToOwn_33 ml_X2_57 imX4_ownerOfDish (kT hT) (Nat.le_of_ble_eq_true rfl) rfl (Nat.le_of_ble_eq_true rfl) rfl (Nat.le_of_ble_eq_true rfl) (c_X4_ownerOfDish hT hV hW (by omega) (by omega) (by omega) he) ?_
    rw [e3, e4]
    refine T_ild3 dX2_waysToOwn_36 ?_
    refine T_cne (tgt := 52) dX2_waysToOwn_37 (by decide) (fun h37 => ?_) (fun h37 => ?_)
    · refine T_inc6N dX2_waysToOwn_52 (by decide) rfl ?_
      refine T_goto (tgt := 6) dX2_waysToOwn_55 (by decide) ?_
      first
        | (have q : sm (fun i => if who (a 0 0) (a 8 e) i (a 3 0 % 8) = nI c then W i else 0) (i + 1) = sm (fun i => if who (a 0 0) (a 8 e) i (a 3 0 % 8) = nI c then W i else 0) i := by
             show sm (fun i => if who (a 0 0) (a 8 e) i (a 3 0 % 8) = nI c then W i else 0) i + (if _ then _ else _) = _
             rw [if_neg h37]; rfl
           rw [q] at ih; exact ih _)
        | (have q : sm (fun i => if who (a 0 0) (a 8 e) i (a 3 0 % 8) = nI c then W i else 0) (i + 1) = sm (fun i => if who (a 0 0) (a 8 e) i (a 3 0 % 8) = nI c then W i else 0) i + W i := by
             show sm (fun i => if who (a 0 0) (a 8 e) i (a 3 0 % 8) = nI c then W i else 0) i + (if _ then _ else _) = _
             rw [if_pos h37]
           rw [h17 i hi, lN_add]; rw [q] at ih; exact ih _)
    · refine T_lld4 dX2_waysToOwn_40 ?_
      refine T_ald0 dX2_waysToOwn_42 ?_
      refine T_getR (q := 17) dX2_waysToOwn_43 lf_X2_9 rfl rfl rfl ?_
      refine T_ild6 dX2_waysToOwn_46 ?_
      refine T_lald dX2_waysToOwn_48 rfl (by show _ < 8; omega) rfl ?_
      refine T_ladd dX2_waysToOwn_49 ?_
      refine T_lst4 dX2_waysToOwn_50 (by decide) rfl ?_
      refine T_inc6N dX2_waysToOwn_52 (by decide) rfl ?_
      refine T_goto (tgt := 6) dX2_waysToOwn_55 (by decide) ?_
      first
        | (have q : sm (fun i => if who (a 0 0) (a 8 e) i (a 3 0 % 8) = nI c then W i else 0) (i + 1) = sm (fun i => if who (a 0 0) (a 8 e) i (a 3 0 % 8) = nI c then W i else 0) i := by
             show sm (fun i => if who (a 0 0) (a 8 e) i (a 3 0 % 8) = nI c then W i else 0) i + (if _ then _ else _) = _
             rw [if_neg h37]; rfl
           rw [q] at ih; exact ih _)
        | (have q : sm (fun i => if who (a 0 0) (a 8 e) i (a 3 0 % 8) = nI c then W i else 0) (i + 1) = sm (fun i => if who (a 0 0) (a 8 e) i (a 3 0 % 8) = nI c then W i else 0) i + W i := by
             show sm (fun i => if who (a 0 0) (a 8 e) i (a 3 0 % 8) = nI c then W i else 0) i + (if _ then _ else _) = _
             rw [if_pos h37]
           rw [h17 i hi, lN_add]; rw [q] at ih; exact ih _)
