/-! spilt, readings of the class's Table -/
theorem min_n {x y : Nat} (hx : x < 2 ^ 31) (hy : y < 2 ^ 31) : (if nI y < nI x then nI y else nI x) = nI (if y < x then y else x) := by
  by_cases h : y < x
  · rw [if_pos h, if_pos ((nI_ltI hy hx).mpr h)]
  · rw [if_neg h, if_neg (fun q => h ((nI_ltI hy hx).mp q))]
def wsI (f : Nat → Bool) : Nat → Int32
  | 0 => nI 0
  | n + 1 => if f n then wsI f n ||| (nI 1 <<< (nI n &&& 31)) else wsI f n
theorem wsI_t {f : Nat → Bool} {n : Nat} (h : f n = true) : wsI f (n + 1) = wsI f n ||| (nI 1 <<< (nI n &&& 31)) := if_pos h
theorem wsI_f {f : Nat → Bool} {n : Nat} (h : f n = false) : wsI f (n + 1) = wsI f n := if_neg (by rw [h]; decide)
def wetF (a : Nat → Nat → Nat) (k i : Nat) : Bool := decide ((if stp (a 0 0) i k < stp (a 0 0) k i then stp (a 0 0) i k else stp (a 0 0) k i) ≤ a 7 k)
def wetV (a : Nat → Nat → Nat) (k : Nat) : Int32 := wsI (wetF a k) (a 0 0)
theorem stp_lt {g a b : Nat} (ha : a < g) (hb : b < g) : stp g a b < g := by unfold stp; split <;> omega
def wal (w : Nat → Int32) (sp : Nat) : Nat → Int32
  | 0 => nI 0
  | n + 1 => if (nI sp >>> (nI n &&& 31)) &&& nI 1 = nI 1 then wal w sp n ||| w n else wal w sp n
theorem wal_t {w : Nat → Int32} {sp n : Nat} (h : (nI sp >>> (nI n &&& 31)) &&& nI 1 = nI 1) : wal w sp (n + 1) = wal w sp n ||| w n := if_pos h
theorem wal_f {w : Nat → Int32} {sp n : Nat} (h : ¬ (nI sp >>> (nI n &&& 31)) &&& nI 1 = nI 1) : wal w sp (n + 1) = wal w sp n := if_neg h
def pcn (n : Nat) : Nat := n % 2 + n / 2 % 2 + n / 4 % 2 + n / 8 % 2 + n / 16 % 2 + n / 32 % 2 + n / 64 % 2 + n / 128 % 2
theorem pcn_le (n : Nat) : pcn n ≤ 8 := by unfold pcn; omega
def bsN (w : Nat → Int32) (x : Int32) : Nat → Option Nat
  | 0 => none
  | i + 1 => match bsN w x i with
    | none => if w i = x then some i else none
    | some j => if w i = x ∧ pcn i < pcn j then some i else some j
def few : Option Nat → Nat
  | none => 9
  | some j => pcn j
theorem few_le (o : Option Nat) : few o ≤ 9 := by
  cases o with
  | none => exact Nat.le_refl 9
  | some j => have := pcn_le j; show pcn j ≤ 9; omega
theorem bsN_t {w : Nat → Int32} {x : Int32} {i : Nat} (h : w i = x) (h2 : pcn i < few (bsN w x i)) : bsN w x (i + 1) = some i := by
  unfold bsN
  cases e : bsN w x i with
  | none => exact if_pos h
  | some j => rw [e] at h2; exact if_pos ⟨h, h2⟩
theorem bsN_f {w : Nat → Int32} {x : Int32} {i : Nat} (h : ¬ (w i = x ∧ pcn i < few (bsN w x i))) : bsN w x (i + 1) = bsN w x i := by
  show (match bsN w x i with | none => _ | some j => _) = _
  cases e : bsN w x i with
  | none =>
    rw [e] at h
    exact if_neg (fun q => h ⟨q, by have := pcn_le i; show _ < 9; omega⟩)
  | some j => rw [e] at h; exact if_neg h
/-- a row filled up to i -/
def wf (S : Nat → Nat → Int32) (q : Nat) (f : Nat → Int32) (i : Nat) : Nat → Nat → Int32 := fun r k => if r = q then (if k < i then f k else S r k) else S r k
theorem wf_0 {S : Nat → Nat → Int32} {q : Nat} {f : Nat → Int32} : wf S q f 0 = S := by funext r k; simp [wf]
theorem wf_s {S : Nat → Nat → Int32} {q : Nat} {f : Nat → Int32} {i : Nat} : uI (wf S q f i) q i (f i) = wf S q f (i + 1) := by
  funext r k
  simp only [uI, wf]
  by_cases h1 : r = q
  · rw [if_pos h1, if_pos h1, if_pos h1]
    by_cases h2 : k = i
    · rw [if_pos h2, if_pos (by omega), h2]
    · rw [if_neg h2]
      by_cases h3 : k < i
      · rw [if_pos h3, if_pos (by omega)]
      · rw [if_neg h3, if_neg (by omega)]
  · rw [if_neg h1, if_neg h1, if_neg h1]
theorem wf_p {S : Nat → Nat → Int32} {q r : Nat} {f : Nat → Int32} {i : Nat} (h : r ≠ q) : wf S q f i r = S r := by funext k; simp [wf, h]
theorem wf_i {S : Nat → Nat → Int32} {q : Nat} {f : Nat → Int32} {i k : Nat} (h : k < i) : wf S q f i q k = f k := by simp [wf, h]
theorem TV.cong {S S' : Nat → Nat → Int32} {T : Nat} {a : Nat → Nat → Nat} (h : ∀ q, T ≤ q → q ≤ T + 8 → q ≠ T + 4 → S' q = S q) (hV : TV S T a) : TV S' T a := by
  unfold TV at hV ⊢
  rw [h T (by omega) (by omega) (by omega), h (T + 1) (by omega) (by omega) (by omega), h (T + 2) (by omega) (by omega) (by omega), h (T + 3) (by omega) (by omega) (by omega), h (T + 5) (by omega) (by omega) (by omega), h (T + 6) (by omega) (by omega) (by omega), h (T + 7) (by omega) (by omega) (by omega), h (T + 8) (by omega) (by omega) (by omega)]
  exact hV
def allN (f : Nat → Bool) : Nat → Bool
  | 0 => true
  | n + 1 => allN f n && f n
theorem allN_t {f : Nat → Bool} {n : Nat} (h1 : allN f n = true) (h2 : f n = true) : allN f (n + 1) = true := by show (allN f n && f n) = true; rw [h1, h2]; rfl
theorem allN_f {f : Nat → Bool} {i : Nat} (h : f i = false) : ∀ n, i < n → allN f n = false
  | 0, q => absurd q (Nat.not_lt_zero i)
  | n + 1, q => by
    show (allN f n && f n) = false
    by_cases e : i = n
    · rw [← e, h, Bool.and_false]
    · rw [allN_f h n (by omega), Bool.false_and]
def rso (a : Nat → Nat → Nat) (k x m so : Nat) (q : Nat) : Bool := decide (minN (if a 10 q = k then x else a 5 (a 10 q)) (if a 10 q = k then m else a 6 (a 10 q)) so = a 11 q)
set_option maxRecDepth 20000 in
theorem c_X4_wetBy {S : Nat → Nat → Int32} {L : Nat → Nat → Int64} {R : Nat × Nat × Nat} {d : Nat} {T : Nat} (hT : T = 19 ∨ T = 28) {a : Nat → Nat → Nat} (hV : TV S T a) (hW : WL a) {k : Nat} (hk : k < a 0 0) : TT mX4_wetBy (d + 1) 0 [some (.ref T), some (.int (nI k)), none, none] [] (S, L, R) (rt (some (.int (wetV a k))) (S, L, R)) := by
  obtain ⟨hg, hdn, hso, hbd, hrn, hgu, hdi, hre⟩ := id hV
  obtain ⟨w3, w8, wd1, wd6, wso, wb, wbs, wbp, wne, wrn, wgu, wdi, wre⟩ := id hW
  refine T_iconst (v := nI 0) dX4_wetBy_0 (by decide) ?_
  refine T_ist2 dX4_wetBy_1 (by decide) rfl ?_
  refine T_iconst (v := nI 0) dX4_wetBy_2 (by decide) ?_
  refine T_ist3 dX4_wetBy_3 (by decide) rfl ?_
  skip
  refine up_ind (P := fun i => TT mX4_wetBy (d + 1) 4 [some (.ref T), some (.int (nI k)), some (.int (wsI (wetF a k) i)), some (.int (nI i))] [] (S, L, R) (rt (some (.int (wetV a k))) (S, L, R))) (a 0 0) ?_ ?_
  · refine T_ild3 dX4_wetBy_4 ?_
    refine T_ald0 dX4_wetBy_5 ?_
    refine T_getN dX4_wetBy_6 lf_X4_36 (kT hT) rfl hg ?_
    refine T_cgeN (tgt := 48) dX4_wetBy_9 (by decide) (by omega) (by omega) (fun h9 => ?_) (fun h9 => by exfalso; omega)
    refine T_ild2 dX4_wetBy_48 ?_
    refine T_iret dX4_wetBy_49 rfl ?_
    exact rt_i
  · intro i hi ih
    have q1 := stp_lt hk hi
    have q2 := stp_lt hi hk
    have q3 := wgu k hk
    refine T_ild3 dX4_wetBy_4 ?_
    refine T_ald0 dX4_wetBy_5 ?_
    refine T_getN dX4_wetBy_6 lf_X4_36 (kT hT) rfl hg ?_
    refine T_cgeN (tgt := 48) dX4_wetBy_9 (by decide) (by omega) (by omega) (fun h9 => by exfalso; omega) (fun h9 => ?_)
    refine T_ald0 dX4_wetBy_12 ?_
    refine T_ild1 dX4_wetBy_13 ?_
    refine T_ild3 dX4_wetBy_14 ?_
    refine T_invV2i (M' := mX4_stepsBehind) dX4_wetBy_15 ml_X4_106 imX4_stepsBehind (kT hT) (Nat.le_of_ble_eq_true rfl) rfl (Nat.le_of_ble_eq_true rfl) rfl (Nat.le_of_ble_eq_true rfl) (c_X4_stepsBehind hT hg w8 (by omega) (by omega)) ?_
    refine T_ald0 dX4_wetBy_18 ?_
    refine T_ild3 dX4_wetBy_19 ?_
    refine T_ild1 dX4_wetBy_20 ?_
    refine T_invV2i (M' := mX4_stepsBehind) dX4_wetBy_21 ml_X4_106 imX4_stepsBehind (kT hT) (Nat.le_of_ble_eq_true rfl) rfl (Nat.le_of_ble_eq_true rfl) rfl (Nat.le_of_ble_eq_true rfl) (c_X4_stepsBehind hT hg w8 (by omega) (by omega)) ?_
    refine T_min dX4_wetBy_24 ml_X4_137 (Nat.le_of_ble_eq_true rfl) ?_
    rw [min_n (by omega) (by omega)]
    refine T_ald0 dX4_wetBy_27 ?_
    refine T_getR (q := T + 3) dX4_wetBy_28 lf_X4_18 (kT hT) rfl (rT3 hT) ?_
    refine T_ild1 dX4_wetBy_31 ?_
    refine T_ialdN dX4_wetBy_32 (kT3 hT) (by rw [lT3 hT]; omega) (hgu _ (by omega)).2.2 ?_
    have q4 : (if stp (a 0 0) i k < stp (a 0 0) k i then stp (a 0 0) i k else stp (a 0 0) k i) < 8 := by split <;> omega
    refine T_cgtN (tgt := 42) dX4_wetBy_33 (by decide) (by omega) (by omega) (fun h33 => ?_) (fun h33 => ?_)
    · refine T_inc3N dX4_wetBy_42 (by decide) rfl ?_
      refine T_goto (tgt := 4) dX4_wetBy_45 (by decide) ?_
      first | (rw [wsI_f (f := wetF a k) (decide_eq_false (by omega))] at ih; exact ih) | (rw [wsI_t (f := wetF a k) (decide_eq_true (by omega))] at ih; exact ih)
    · refine T_ild2 dX4_wetBy_36 ?_
      refine T_iconst (v := nI 1) dX4_wetBy_37 (by decide) ?_
      refine T_ild3 dX4_wetBy_38 ?_
      refine T_ishl dX4_wetBy_39 ?_
      refine T_ior dX4_wetBy_40 ?_
      refine T_ist2 dX4_wetBy_41 (by decide) rfl ?_
      refine T_inc3N dX4_wetBy_42 (by decide) rfl ?_
      refine T_goto (tgt := 4) dX4_wetBy_45 (by decide) ?_
      first | (rw [wsI_f (f := wetF a k) (decide_eq_false (by omega))] at ih; exact ih) | (rw [wsI_t (f := wetF a k) (decide_eq_true (by omega))] at ih; exact ih)
set_option maxRecDepth 20000 in
theorem c_X4_wetByAll {S : Nat → Nat → Int32} {L : Nat → Nat → Int64} {R : Nat × Nat × Nat} {d : Nat} {T : Nat} (hT : T = 19 ∨ T = 28) {g : Nat} (hg : S T 8 = nI g) (w8 : g ≤ 8) {w : Nat → Int32} (hw : ∀ i, i < g → S (T + 4) i = w i) {sp : Nat} : TT mX4_wetByAll (d + 0) 0 [some (.ref T), some (.int (nI sp)), none, none] [] (S, L, R) (rt (some (.int (wal w sp g))) (S, L, R)) := by
  refine T_iconst (v := nI 0) dX4_wetByAll_0 (by decide) ?_
  refine T_ist2 dX4_wetByAll_1 (by decide) rfl ?_
  refine T_iconst (v := nI 0) dX4_wetByAll_2 (by decide) ?_
  refine T_ist3 dX4_wetByAll_3 (by decide) rfl ?_
  skip
  refine up_ind (P := fun i => TT mX4_wetByAll (d + 0) 4 [some (.ref T), some (.int (nI sp)), some (.int (wal w sp i)), some (.int (nI i))] [] (S, L, R) (rt (some (.int (wal w sp g))) (S, L, R))) g ?_ ?_
  · refine T_ild3 dX4_wetByAll_4 ?_
    refine T_ald0 dX4_wetByAll_5 ?_
    refine T_getN dX4_wetByAll_6 lf_X4_36 (kT hT) rfl hg ?_
    refine T_cgeN (tgt := 36) dX4_wetByAll_9 (by decide) (by omega) (by omega) (fun h9 => ?_) (fun h9 => by exfalso; omega)
    refine T_ild2 dX4_wetByAll_36 ?_
    refine T_iret dX4_wetByAll_37 rfl ?_
    exact rt_i
  · intro i hi ih
    refine T_ild3 dX4_wetByAll_4 ?_
    refine T_ald0 dX4_wetByAll_5 ?_
    refine T_getN dX4_wetByAll_6 lf_X4_36 (kT hT) rfl hg ?_
    refine T_cgeN (tgt := 36) dX4_wetByAll_9 (by decide) (by omega) (by omega) (fun h9 => by exfalso; omega) (fun h9 => ?_)
    refine T_ild1 dX4_wetByAll_12 ?_
    refine T_ild3 dX4_wetByAll_13 ?_
    refine T_ishr dX4_wetByAll_14 ?_
    refine T_iconst (v := nI 1) dX4_wetByAll_15 (by decide) ?_
    refine T_iand dX4_wetByAll_16 ?_
    refine T_iconst (v := nI 1) dX4_wetByAll_17 (by decide) ?_
    refine T_cne (tgt := 30) dX4_wetByAll_18 (by decide) (fun h18 => ?_) (fun h18 => ?_)
    · refine T_inc3N dX4_wetByAll_30 (by decide) rfl ?_
      refine T_goto (tgt := 4) dX4_wetByAll_33 (by decide) ?_
      first | (rw [wal_f h18] at ih; exact ih) | (rw [wal_t h18] at ih; exact ih)
    · refine T_ild2 dX4_wetByAll_21 ?_
      refine T_ald0 dX4_wetByAll_22 ?_
      refine T_getR (q := T + 4) dX4_wetByAll_23 lf_X4_21 (kT hT) rfl (rT4 hT) ?_
      refine T_ild3 dX4_wetByAll_26 ?_
      refine T_ialdV dX4_wetByAll_27 (kT4 hT) (by rw [lT4 hT]; omega) (hw i hi) ?_
      refine T_ior dX4_wetByAll_28 ?_
      refine T_ist2 dX4_wetByAll_29 (by decide) rfl ?_
      refine T_inc3N dX4_wetByAll_30 (by decide) rfl ?_
      refine T_goto (tgt := 4) dX4_wetByAll_33 (by decide) ?_
      first | (rw [wal_f h18] at ih; exact ih) | (rw [wal_t h18] at ih; exact ih)
set_option maxRecDepth 20000 in
theorem c_J6_bitCount_0f7a4 {S : Nat → Nat → Int32} {L : Nat → Nat → Int64} {R : Nat × Nat × Nat} {d : Nat} {n : Nat} (hn : n < 256) : TT mJ6_bitCount_0f7a4 (d + 0) 0 [some (.int (nI n))] [] (S, L, R) (rt (some (.int (nI (pcn n)))) (S, L, R)) := by
  refine T_ild0 dJ6_bitCount_0f7a4_0 ?_
  refine T_ild0 dJ6_bitCount_0f7a4_1 ?_
  refine T_iconst (v := nI 1) dJ6_bitCount_0f7a4_2 (by decide) ?_
  refine T_iushr dJ6_bitCount_0f7a4_3 ?_
  refine T_ldcw ct_J6_265 dJ6_bitCount_0f7a4_4 ?_
  refine T_iand dJ6_bitCount_0f7a4_7 ?_
  refine T_isub dJ6_bitCount_0f7a4_8 ?_
  refine T_ist0 dJ6_bitCount_0f7a4_9 (by decide) rfl ?_
  refine T_ild0 dJ6_bitCount_0f7a4_10 ?_
  refine T_ldcw ct_J6_266 dJ6_bitCount_0f7a4_11 ?_
  refine T_iand dJ6_bitCount_0f7a4_14 ?_
  refine T_ild0 dJ6_bitCount_0f7a4_15 ?_
  refine T_iconst (v := nI 2) dJ6_bitCount_0f7a4_16 (by decide) ?_
  refine T_iushr dJ6_bitCount_0f7a4_17 ?_
  refine T_ldcw ct_J6_266 dJ6_bitCount_0f7a4_18 ?_
  refine T_iand dJ6_bitCount_0f7a4_21 ?_
  refine T_iadd dJ6_bitCount_0f7a4_22 ?_
  refine T_ist0 dJ6_bitCount_0f7a4_23 (by decide) rfl ?_
  refine T_ild0 dJ6_bitCount_0f7a4_24 ?_
  refine T_ild0 dJ6_bitCount_0f7a4_25 ?_
  refine T_iconst (v := nI 4) dJ6_bitCount_0f7a4_26 (by decide) ?_
  refine T_iushr dJ6_bitCount_0f7a4_27 ?_
  refine T_iadd dJ6_bitCount_0f7a4_28 ?_
  refine T_ldcw ct_J6_267 dJ6_bitCount_0f7a4_29 ?_
  refine T_iand dJ6_bitCount_0f7a4_32 ?_
  refine T_ist0 dJ6_bitCount_0f7a4_33 (by decide) rfl ?_
  refine T_ild0 dJ6_bitCount_0f7a4_34 ?_
  refine T_ild0 dJ6_bitCount_0f7a4_35 ?_
  refine T_bipush (v := nI 8) dJ6_bitCount_0f7a4_36 (by decide) ?_
  refine T_iushr dJ6_bitCount_0f7a4_38 ?_
  refine T_iadd dJ6_bitCount_0f7a4_39 ?_
  refine T_ist0 dJ6_bitCount_0f7a4_40 (by decide) rfl ?_
  refine T_ild0 dJ6_bitCount_0f7a4_41 ?_
  refine T_ild0 dJ6_bitCount_0f7a4_42 ?_
  refine T_bipush (v := nI 16) dJ6_bitCount_0f7a4_43 (by decide) ?_
  refine T_iushr dJ6_bitCount_0f7a4_45 ?_
  refine T_iadd dJ6_bitCount_0f7a4_46 ?_
  refine T_ist0 dJ6_bitCount_0f7a4_47 (by decide) rfl ?_
  refine T_ild0 dJ6_bitCount_0f7a4_48 ?_
  refine T_bipush (v := nI 63) dJ6_bitCount_0f7a4_49 (by decide) ?_
  refine T_iand dJ6_bitCount_0f7a4_51 ?_
  refine T_iret dJ6_bitCount_0f7a4_52 rfl ?_
  refine ⟨congrArg (fun v => some (Value.int v)) ?_, rfl⟩
  revert hn; revert n; decide +kernel
theorem shl_n : ∀ g, g < 20 → nI 1 <<< (nI g &&& 31) = nI (2 ^ g) := by decide +kernel
theorem pow_le {g : Nat} (h : g ≤ 8) : 2 ^ g ≤ 256 := Nat.pow_le_pow_right (by decide) h
set_option maxRecDepth 20000 in
theorem c_X4_fewestWhoWet {S : Nat → Nat → Int32} {L : Nat → Nat → Int64} {R : Nat × Nat × Nat} {d : Nat} {T : Nat} (hT : T = 19 ∨ T = 28) {a : Nat → Nat → Nat} (hV : TV S T a) (hW : WL a) {x : Int32} : TT mX4_fewestWhoWet (d + 2) 0 [some (.ref T), some (.int (x)), none, none, none, none] [] (S, L, R) (rt (some (.int (oI (bsN (fun sp => wal (wetV a) sp (a 0 0)) x (2 ^ a 0 0))))) (wf S (T + 4) (wetV a) (a 0 0), L, R)) := by
  obtain ⟨hg, hdn, hso, hbd, hrn, hgu, hdi, hre⟩ := id hV
  obtain ⟨w3, w8, wd1, wd6, wso, wb, wbs, wbp, wne, wrn, wgu, wdi, wre⟩ := id hW
  refine T_iconst (v := nI 0) dX4_fewestWhoWet_0 (by decide) ?_
  refine T_ist2 dX4_fewestWhoWet_1 (by decide) rfl ?_
  skip
  have hV2 : ∀ i, TV (wf S (T + 4) (wetV a) i) T a := fun i => hV.cong (fun q _ _ h => wf_p h)
  have hg2 : ∀ i, wf S (T + 4) (wetV a) i T 8 = nI (a 0 0) := fun i => (hV2 i).1
  have st0 : TT mX4_fewestWhoWet (d + 2) 2 [some (.ref T), some (.int (x)), some (.int (nI 0)), none, none, none] [] (wf S (T + 4) (wetV a) 0, L, R) (rt (some (.int (oI (bsN (fun sp => wal (wetV a) sp (a 0 0)) x (2 ^ a 0 0))))) (wf S (T + 4) (wetV a) (a 0 0), L, R)) := ?_
  · rw [wf_0] at st0; exact st0
  refine up_ind (P := fun i => TT mX4_fewestWhoWet (d + 2) 2 [some (.ref T), some (.int (x)), some (.int (nI i)), none, none, none] [] (wf S (T + 4) (wetV a) i, L, R) (rt (some (.int (oI (bsN (fun sp => wal (wetV a) sp (a 0 0)) x (2 ^ a 0 0))))) (wf S (T + 4) (wetV a) (a 0 0), L, R))) (a 0 0) ?_ ?_
  · refine T_ild2 dX4_fewestWhoWet_2 ?_
    refine T_ald0 dX4_fewestWhoWet_3 ?_
    refine T_getN dX4_fewestWhoWet_4 lf_X4_36 (kT hT) rfl (hg2 _) ?_
    refine T_cgeN (tgt := 27) dX4_fewestWhoWet_7 (by decide) (by omega) (by omega) (fun h7 => ?_) (fun h7 => by exfalso; omega)
    refine T_bipush (v := -9) dX4_fewestWhoWet_27 (by decide) ?_
    refine T_ist2 dX4_fewestWhoWet_29 (by decide) rfl ?_
    refine T_bipush (v := nI 9) dX4_fewestWhoWet_30 (by decide) ?_
    refine T_ist3 dX4_fewestWhoWet_32 (by decide) rfl ?_
    refine T_iconst (v := nI 0) dX4_fewestWhoWet_33 (by decide) ?_
    refine T_ist4 dX4_fewestWhoWet_34 (by decide) rfl ?_
    skip
    have p8 := pow_le w8
    refine up_ind (P := fun i => ∀ x5, TT mX4_fewestWhoWet (d + 2) 36 [some (.ref T), some (.int (x)), some (.int (oI (bsN (fun sp => wal (wetV a) sp (a 0 0)) x i))), some (.int (nI (few (bsN (fun sp => wal (wetV a) sp (a 0 0)) x i)))), some (.int (nI i)), x5] [] (wf S (T + 4) (wetV a) (a 0 0), L, R) (rt (some (.int (oI (bsN (fun sp => wal (wetV a) sp (a 0 0)) x (2 ^ a 0 0))))) (wf S (T + 4) (wetV a) (a 0 0), L, R))) (2 ^ a 0 0) ?_ ?_ none
    · intro x5
      refine T_ild4 dX4_fewestWhoWet_36 ?_
      refine T_iconst (v := nI 1) dX4_fewestWhoWet_38 (by decide) ?_
      refine T_ald0 dX4_fewestWhoWet_39 ?_
      refine T_getN dX4_fewestWhoWet_40 lf_X4_36 (kT hT) rfl (hg2 _) ?_
      refine T_ishl dX4_fewestWhoWet_43 ?_
      rw [shl_n _ (by omega)]
      refine T_cgeN (tgt := 82) dX4_fewestWhoWet_44 (by decide) (by omega) (by omega) (fun h44 => ?_) (fun h44 => by exfalso; omega)
      refine T_ild2 dX4_fewestWhoWet_82 ?_
      refine T_iret dX4_fewestWhoWet_83 rfl ?_
      exact rt_i
    · intro i hi ih x5
      have f1 := few_le (bsN (fun sp => wal (wetV a) sp (a 0 0)) x i)
      have f2 := pcn_le i
      refine T_ild4 dX4_fewestWhoWet_36 ?_
      refine T_iconst (v := nI 1) dX4_fewestWhoWet_38 (by decide) ?_
      refine T_ald0 dX4_fewestWhoWet_39 ?_
      refine T_getN dX4_fewestWhoWet_40 lf_X4_36 (kT hT) rfl (hg2 _) ?_
      refine T_ishl dX4_fewestWhoWet_43 ?_
      rw [shl_n _ (by omega)]
      refine T_cgeN (tgt := 82) dX4_fewestWhoWet_44 (by decide) (by omega) (by omega) (fun h44 => by exfalso; omega) (fun h44 => ?_)
      refine T_ild4 dX4_fewestWhoWet_47 ?_
      refine T_invS1i (M' := mJ6_bitCount_0f7a4) dX4_fewestWhoWet_49 ml_X4_143 imJ6_bitCount_0f7a4 (Nat.le_of_ble_eq_true rfl) rfl (Nat.le_of_ble_eq_true rfl) (c_J6_bitCount_0f7a4 (by omega)) ?_
      refine T_ist5 dX4_fewestWhoWet_52 (by decide) rfl ?_
      refine T_ild5 dX4_fewestWhoWet_54 ?_
      refine T_ild3 dX4_fewestWhoWet_56 ?_
      refine T_cgeN (tgt := 76) dX4_fewestWhoWet_57 (by decide) (by omega) (by omega) (fun h57 => ?_) (fun h57 => ?_)
      · refine T_inc4N dX4_fewestWhoWet_76 (by decide) rfl ?_
        refine T_goto (tgt := 36) dX4_fewestWhoWet_79 (by decide) ?_
        first | (have e : bsN (fun sp => wal (wetV a) sp (a 0 0)) x (i + 1) = some i := bsN_t (w := fun sp => wal (wetV a) sp (a 0 0)) h67 h57; rw [e] at ih; exact ih _) | (have e : bsN (fun sp => wal (wetV a) sp (a 0 0)) x (i + 1) = bsN (fun sp => wal (wetV a) sp (a 0 0)) x i := bsN_f (w := fun sp => wal (wetV a) sp (a 0 0)) (fun q => by first | exact h67 q.1 | omega); rw [e] at ih; exact ih _)
      · refine T_ald0 dX4_fewestWhoWet_60 ?_
        refine T_ild4 dX4_fewestWhoWet_61 ?_
        refine T_invV1i (M' := mX4_wetByAll) dX4_fewestWhoWet_63 ml_X4_148 imX4_wetByAll (kT hT) (Nat.le_of_ble_eq_true rfl) rfl (Nat.le_of_ble_eq_true rfl) rfl (Nat.le_of_ble_eq_true rfl) (c_X4_wetByAll hT (hg2 _) w8 (w := wetV a) (fun k hk => wf_i hk)) ?_
        refine T_ild1 dX4_fewestWhoWet_66 ?_
        refine T_cne (tgt := 76) dX4_fewestWhoWet_67 (by decide) (fun h67 => ?_) (fun h67 => ?_)
        · refine T_inc4N dX4_fewestWhoWet_76 (by decide) rfl ?_
          refine T_goto (tgt := 36) dX4_fewestWhoWet_79 (by decide) ?_
          first | (have e : bsN (fun sp => wal (wetV a) sp (a 0 0)) x (i + 1) = some i := bsN_t (w := fun sp => wal (wetV a) sp (a 0 0)) h67 h57; rw [e] at ih; exact ih _) | (have e : bsN (fun sp => wal (wetV a) sp (a 0 0)) x (i + 1) = bsN (fun sp => wal (wetV a) sp (a 0 0)) x i := bsN_f (w := fun sp => wal (wetV a) sp (a 0 0)) (fun q => by first | exact h67 q.1 | omega); rw [e] at ih; exact ih _)
        · refine T_ild4 dX4_fewestWhoWet_70 ?_
          refine T_ist2 dX4_fewestWhoWet_72 (by decide) rfl ?_
          refine T_ild5 dX4_fewestWhoWet_73 ?_
          refine T_ist3 dX4_fewestWhoWet_75 (by decide) rfl ?_
          refine T_inc4N dX4_fewestWhoWet_76 (by decide) rfl ?_
          refine T_goto (tgt := 36) dX4_fewestWhoWet_79 (by decide) ?_
          first | (have e : bsN (fun sp => wal (wetV a) sp (a 0 0)) x (i + 1) = some i := bsN_t (w := fun sp => wal (wetV a) sp (a 0 0)) h67 h57; rw [e] at ih; exact ih _) | (have e : bsN (fun sp => wal (wetV a) sp (a 0 0)) x (i + 1) = bsN (fun sp => wal (wetV a) sp (a 0 0)) x i := bsN_f (w := fun sp => wal (wetV a) sp (a 0 0)) (fun q => by first | exact h67 q.1 | omega); rw [e] at ih; exact ih _)
  · intro i hi ih
    refine T_ild2 dX4_fewestWhoWet_2 ?_
    refine T_ald0 dX4_fewestWhoWet_3 ?_
    refine T_getN dX4_fewestWhoWet_4 lf_X4_36 (kT hT) rfl (hg2 _) ?_
    refine T_cgeN (tgt := 27) dX4_fewestWhoWet_7 (by decide) (by omega) (by omega) (fun h7 => by exfalso; omega) (fun h7 => ?_)
    refine T_ald0 dX4_fewestWhoWet_10 ?_
    refine T_getR (q := T + 4) dX4_fewestWhoWet_11 lf_X4_21 (kT hT) rfl (rT4 hT) ?_
    refine T_ild2 dX4_fewestWhoWet_14 ?_
    refine T_ald0 dX4_fewestWhoWet_15 ?_
    refine T_ild2 dX4_fewestWhoWet_16 ?_
    refine T_invV1i (M' := mX4_wetBy) dX4_fewestWhoWet_17 ml_X4_140 imX4_wetBy (kT hT) (Nat.le_of_ble_eq_true rfl) rfl (Nat.le_of_ble_eq_true rfl) rfl (Nat.le_of_ble_eq_true rfl) (c_X4_wetBy hT (hV2 i) hW hi) ?_
    refine T_iast dX4_fewestWhoWet_20 (kT4 hT) (by rw [lT4 hT]; omega) rfl ?_
    refine T_inc2N dX4_fewestWhoWet_21 (by decide) rfl ?_
    refine T_goto (tgt := 2) dX4_fewestWhoWet_24 (by decide) ?_
    rw [wf_s]; exact ih
set_option maxRecDepth 20000 in
theorem c_X4_areReadingsSo {S : Nat → Nat → Int32} {L : Nat → Nat → Int64} {R : Nat × Nat × Nat} {d : Nat} {T : Nat} (hT : T = 19 ∨ T = 28) {a : Nat → Nat → Nat} (hV : TV S T a) (hW : WL a) {k x m so : Nat} (hx : x ≤ 2) (hm : m ≤ 9) (hs : so ≤ 3) (hk : k < 2 ^ 31) : TT mX4_areReadingsSo (d + 2) 0 [some (.ref T), some (.int (nI k)), some (.int (nI x)), some (.int (nI m)), some (.int (nI so)), none, none, none] [] (S, L, R) (rt (some (.int (bI (allN (rso a k x m so) (a 4 0))))) (S, L, R)) := by
  obtain ⟨hg, hdn, hso, hbd, hrn, hgu, hdi, hre⟩ := id hV
  obtain ⟨w3, w8, wd1, wd6, wso, wb, wbs, wbp, wne, wrn, wgu, wdi, wre⟩ := id hW
  refine T_iconst (v := nI 0) dX4_areReadingsSo_0 (by decide) ?_
  refine T_ist5 dX4_areReadingsSo_1 (by decide) rfl ?_
  skip
  refine up_ind (P := fun i => allN (rso a k x m so) i = true → ∀ x6 x7, TT mX4_areReadingsSo (d + 2) 3 [some (.ref T), some (.int (nI k)), some (.int (nI x)), some (.int (nI m)), some (.int (nI so)), some (.int (nI i)), x6, x7] [] (S, L, R) (rt (some (.int (bI (allN (rso a k x m so) (a 4 0))))) (S, L, R))) (a 4 0) ?_ ?_ rfl none none
  · intro hal x6 x7
    refine T_ild5 dX4_areReadingsSo_3 ?_
    refine T_ald0 dX4_areReadingsSo_5 ?_
    refine T_getN dX4_areReadingsSo_6 lf_X4_40 (kT hT) rfl hrn ?_
    refine T_cgeN (tgt := 78) dX4_areReadingsSo_9 (by decide) (by omega) (by omega) (fun h9 => ?_) (fun h9 => by exfalso; omega)
    refine T_iconst (v := bI true) dX4_areReadingsSo_78 (by decide) ?_
    refine T_bretB dX4_areReadingsSo_79 rfl ?_
    rw [hal]; exact rt_i
  · intro i hi ih hal x6 x7
    have q1 := wre i hi
    have q2 := wgu _ q1.1
    have q3 := minN_le (k := if a 10 i = k then x else a 5 (a 10 i)) (m := if a 10 i = k then m else a 6 (a 10 i)) (so := so)
    have q4 : (if a 10 i = k then m else a 6 (a 10 i)) ≤ 9 := by split <;> omega
    by_cases ek : a 10 i = k
    · rw [if_pos ek, if_pos ek] at q3
      have ee : rso a k x m so i = decide (minN x m so = a 11 i) := by unfold rso; rw [if_pos ek, if_pos ek]
      refine T_ild5 dX4_areReadingsSo_3 ?_
      refine T_ald0 dX4_areReadingsSo_5 ?_
      refine T_getN dX4_areReadingsSo_6 lf_X4_40 (kT hT) rfl hrn ?_
      refine T_cgeN (tgt := 78) dX4_areReadingsSo_9 (by decide) (by omega) (by omega) (fun h9 => by exfalso; omega) (fun h9 => ?_)
      refine T_ald0 dX4_areReadingsSo_12 ?_
      refine T_getR (q := T + 7) dX4_areReadingsSo_13 lf_X4_30 (kT hT) rfl (rT7 hT) ?_
      refine T_ild5 dX4_areReadingsSo_16 ?_
      refine T_ialdN dX4_areReadingsSo_18 (kT7 hT) (by rw [lT7 hT]; omega) (hre _ (by omega)).1 ?_
      refine T_ist6 dX4_areReadingsSo_19 (by decide) rfl ?_
      refine T_ild6 dX4_areReadingsSo_21 ?_
      refine T_ild1 dX4_areReadingsSo_23 ?_
      refine T_cneN (tgt := 37) dX4_areReadingsSo_24 (by decide) (by omega) (by omega) (fun h24 => by exfalso; omega) (fun h24 => ?_)
      refine T_ild2 dX4_areReadingsSo_27 ?_
      refine T_ild3 dX4_areReadingsSo_28 ?_
      refine T_ild4 dX4_areReadingsSo_29 ?_
      refine T_invS3i (M' := mX4_minutesAs) dX4_areReadingsSo_31 ml_X4_117 imX4_minutesAs (Nat.le_of_ble_eq_true rfl) rfl (Nat.le_of_ble_eq_true rfl) (c_X4_minutesAs (by omega) (by omega) (by omega)) ?_
      refine T_goto (tgt := 56) dX4_areReadingsSo_34 (by decide) ?_
      refine T_ist7 dX4_areReadingsSo_56 (by decide) rfl ?_
      refine T_ild7 dX4_areReadingsSo_58 ?_
      refine T_ald0 dX4_areReadingsSo_60 ?_
      refine T_getR (q := T + 8) dX4_areReadingsSo_61 lf_X4_33 (kT hT) rfl (rT8 hT) ?_
      refine T_ild5 dX4_areReadingsSo_64 ?_
      refine T_ialdN dX4_areReadingsSo_66 (kT8 hT) (by rw [lT8 hT]; omega) (hre _ (by omega)).2 ?_
      refine T_ceqN (tgt := 72) dX4_areReadingsSo_67 (by decide) (by omega) (by omega) (fun h67 => ?_) (fun h67 => ?_)
      · refine T_inc5N dX4_areReadingsSo_72 (by decide) rfl ?_
        refine T_goto (tgt := 3) dX4_areReadingsSo_75 (by decide) ?_
        exact ih (allN_t hal (by rw [ee]; exact decide_eq_true h67)) _ _
      · refine T_iconst (v := bI false) dX4_areReadingsSo_70 (by decide) ?_
        refine T_bretB dX4_areReadingsSo_71 rfl ?_
        rw [allN_f (i := i) (by rw [ee]; exact decide_eq_false h67) _ hi]; exact rt_i
    · rw [if_neg ek, if_neg ek] at q3
      have ee : rso a k x m so i = decide (minN (a 5 (a 10 i)) (a 6 (a 10 i)) so = a 11 i) := by unfold rso; rw [if_neg ek, if_neg ek]
      refine T_ild5 dX4_areReadingsSo_3 ?_
      refine T_ald0 dX4_areReadingsSo_5 ?_
      refine T_getN dX4_areReadingsSo_6 lf_X4_40 (kT hT) rfl hrn ?_
      refine T_cgeN (tgt := 78) dX4_areReadingsSo_9 (by decide) (by omega) (by omega) (fun h9 => by exfalso; omega) (fun h9 => ?_)
      refine T_ald0 dX4_areReadingsSo_12 ?_
      refine T_getR (q := T + 7) dX4_areReadingsSo_13 lf_X4_30 (kT hT) rfl (rT7 hT) ?_
      refine T_ild5 dX4_areReadingsSo_16 ?_
      refine T_ialdN dX4_areReadingsSo_18 (kT7 hT) (by rw [lT7 hT]; omega) (hre _ (by omega)).1 ?_
      refine T_ist6 dX4_areReadingsSo_19 (by decide) rfl ?_
      refine T_ild6 dX4_areReadingsSo_21 ?_
      refine T_ild1 dX4_areReadingsSo_23 ?_
      refine T_cneN (tgt := 37) dX4_areReadingsSo_24 (by decide) (by omega) (by omega) (fun h24 => ?_) (fun h24 => by exfalso; omega)
      refine T_ald0 dX4_areReadingsSo_37 ?_
      refine T_getR (q := T + 1) dX4_areReadingsSo_38 lf_X4_9 (kT hT) rfl (rT1 hT) ?_
      refine T_ild6 dX4_areReadingsSo_41 ?_
      refine T_ialdN dX4_areReadingsSo_43 (kT1 hT) (by rw [lT1 hT]; omega) (hgu _ (by omega)).1 ?_
      refine T_ald0 dX4_areReadingsSo_44 ?_
      refine T_getR (q := T + 2) dX4_areReadingsSo_45 lf_X4_15 (kT hT) rfl (rT2 hT) ?_
      refine T_ild6 dX4_areReadingsSo_48 ?_
      refine T_ialdN dX4_areReadingsSo_50 (kT2 hT) (by rw [lT2 hT]; omega) (hgu _ (by omega)).2.1 ?_
      refine T_ild4 dX4_areReadingsSo_51 ?_
      refine T_invS3i (M' := mX4_minutesAs) dX4_areReadingsSo_53 ml_X4_117 imX4_minutesAs (Nat.le_of_ble_eq_true rfl) rfl (Nat.le_of_ble_eq_true rfl) (c_X4_minutesAs (by omega) (by omega) (by omega)) ?_
      refine T_ist7 dX4_areReadingsSo_56 (by decide) rfl ?_
      refine T_ild7 dX4_areReadingsSo_58 ?_
      refine T_ald0 dX4_areReadingsSo_60 ?_
      refine T_getR (q := T + 8) dX4_areReadingsSo_61 lf_X4_33 (kT hT) rfl (rT8 hT) ?_
      refine T_ild5 dX4_areReadingsSo_64 ?_
      refine T_ialdN dX4_areReadingsSo_66 (kT8 hT) (by rw [lT8 hT]; omega) (hre _ (by omega)).2 ?_
      refine T_ceqN (tgt := 72) dX4_areReadingsSo_67 (by decide) (by omega) (by omega) (fun h67 => ?_) (fun h67 => ?_)
      · refine T_inc5N dX4_areReadingsSo_72 (by decide) rfl ?_
        refine T_goto (tgt := 3) dX4_areReadingsSo_75 (by decide) ?_
        exact ih (allN_t hal (by rw [ee]; exact decide_eq_true h67)) _ _
      · refine T_iconst (v := bI false) dX4_areReadingsSo_70 (by decide) ?_
        refine T_bretB dX4_areReadingsSo_71 rfl ?_
        rw [allN_f (i := i) (by rw [ee]; exact decide_eq_false h67) _ hi]; exact rt_i
