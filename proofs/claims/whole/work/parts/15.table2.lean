/-! game, spilt, readings of the class's Table -/
theorem nI_m9 {n : Nat} (h : n < 2 ^ 31) : ¬ nI n = -9 := by
  intro e
  have h2 := congrArg Int32.toInt e
  rw [nI_toInt h] at h2
  have h3 : (-9 : Int32).toInt = -9 := by decide
  omega
def zI (z : Int) : Int32 := Int32.ofInt z
theorem zI_toInt {z : Int} (h1 : -10000 ≤ z) (h2 : z ≤ 10000) : (zI z).toInt = z := Int32.toInt_ofInt_of_le (by omega) (by omega)
theorem zI_lt {x y : Int} (h1 : -10000 ≤ x) (h2 : x ≤ 10000) (h3 : -10000 ≤ y) (h4 : y ≤ 10000) : zI x < zI y ↔ x < y := by
  rw [Int32.lt_iff_toInt_lt, zI_toInt h1 h2, zI_toInt h3 h4]
theorem zI_le {x y : Int} (h1 : -10000 ≤ x) (h2 : x ≤ 10000) (h3 : -10000 ≤ y) (h4 : y ≤ 10000) : zI x ≤ zI y ↔ x ≤ y := by
  rw [Int32.le_iff_toInt_le, zI_toInt h1 h2, zI_toInt h3 h4]
theorem zI_eq {x y : Int} (h1 : -10000 ≤ x) (h2 : x ≤ 10000) (h3 : -10000 ≤ y) (h4 : y ≤ 10000) : zI x = zI y ↔ x = y := by
  rw [← Int32.toInt_inj, zI_toInt h1 h2, zI_toInt h3 h4]
theorem nI_zI (n : Nat) : nI n = zI n := (Int32.ofInt_eq_ofNat).symm
theorem zI_sub (x y : Int) : zI x - zI y = zI (x - y) := (Int32.ofInt_sub x y).symm
theorem zI_add (x y : Int) : zI x + zI y = zI (x + y) := (Int32.ofInt_add x y).symm
theorem zI_neg (x : Int) : -zI x = zI (-x) := (Int32.ofInt_neg x).symm
def mxs (f : Nat → Int) : Nat → Int
  | 0 => -1000
  | k + 1 => if mxs f k < f k then f k else mxs f k
def GM (a : Nat → Nat → Nat) : Nat → Nat → Nat → Int
  | 0, c, b => (land a c b : Int) - (land a (1 - c) b : Int)
  | n + 1, c, b => mxs (fun r => match beh (a 0 0) b r with
    | none => -1000
    | some b' => - GM a n (1 - c) b') 4
def MB (a : Nat → Nat → Nat) (n c b r : Nat) : Int := match beh (a 0 0) b r with
  | none => -1000
  | some b' => - GM a n (1 - c) b'
theorem GM_s (a : Nat → Nat → Nat) (n c b : Nat) : GM a (n + 1) c b = mxs (MB a n c b) 4 := rfl
theorem mxs_b {f : Nat → Int} (h : ∀ r, -1000 ≤ f r ∧ f r ≤ 1000) : ∀ k, -1000 ≤ mxs f k ∧ mxs f k ≤ 1000
  | 0 => by simp [mxs]
  | k + 1 => by
    have h1 := mxs_b h k
    have h2 := h k
    unfold mxs; split <;> omega
theorem GM_b {a : Nat → Nat → Nat} (hW : WL a) : ∀ n c b, -1000 ≤ GM a n c b ∧ GM a n c b ≤ 1000
  | 0, c, b => by
    have h1 := land_le (c := c) (b := b) hW
    have h2 := land_le (c := 1 - c) (b := b) hW
    show -1000 ≤ ((land a c b : Int) - (land a (1 - c) b : Int)) ∧ ((land a c b : Int) - (land a (1 - c) b : Int)) ≤ 1000
    omega
  | n + 1, c, b => by
    rw [GM_s]
    refine mxs_b (fun r => ?_) 4
    unfold MB
    split
    · omega
    · have := GM_b hW n (1 - c)
      rename_i b' _
      have := this b'
      omega
theorem MB_b {a : Nat → Nat → Nat} (hW : WL a) (n c b r : Nat) : -1000 ≤ MB a n c b r ∧ MB a n c b r ≤ 1000 := by
  unfold MB
  split
  · omega
  · rename_i b' _
    have := GM_b hW n (1 - c) b'
    omega
theorem zI_max {x y : Int} (h1 : -1000 ≤ x ∧ x ≤ 1000) (h2 : -1000 ≤ y ∧ y ≤ 1000) : (if zI x < zI y then zI y else zI x) = zI (if x < y then y else x) := by
  by_cases h : x < y
  · rw [if_pos h, if_pos ((zI_lt (by omega) (by omega) (by omega) (by omega)).mpr h)]
  · rw [if_neg h, if_neg (fun q => h ((zI_lt (by omega) (by omega) (by omega) (by omega)).mp q))]
set_option maxRecDepth 20000 in
theorem c_bb_n {S : Nat → Nat → Int32} {L : Nat → Nat → Int64} {R : Nat × Nat × Nat} {d : Nat} {T : Nat} (hT : T = 19 ∨ T = 28) {g : Nat} (hg : S T 8 = nI g) (hg8 : g ≤ 8) {b r : Nat} (hb : b < 64) (hs : b / 8 < g) (hp : b % 8 < g) (hr : r < 4) (h : beh g b r = none) : TT mX4_borderBehind (d + 1) 0 [some (.ref T), some (.int (nI b)), some (.int (nI r)), none, none] [] (S, L, R) (rt (some (.int (-9))) (S, L, R)) := by
  have q := c_X4_borderBehind (L := L) (R := R) (d := d) hT hg hg8 hb hs hp hr
  rw [h] at q; exact q
theorem c_bb_s {S : Nat → Nat → Int32} {L : Nat → Nat → Int64} {R : Nat × Nat × Nat} {d : Nat} {T : Nat} (hT : T = 19 ∨ T = 28) {g : Nat} (hg : S T 8 = nI g) (hg8 : g ≤ 8) {b r b' : Nat} (hb : b < 64) (hs : b / 8 < g) (hp : b % 8 < g) (hr : r < 4) (h : beh g b r = some b') : TT mX4_borderBehind (d + 1) 0 [some (.ref T), some (.int (nI b)), some (.int (nI r)), none, none] [] (S, L, R) (rt (some (.int (nI b'))) (S, L, R)) := by
  have q := c_X4_borderBehind (L := L) (R := R) (d := d) hT hg hg8 hb hs hp hr
  rw [h] at q; exact q
set_option maxRecDepth 20000 in
theorem c_mb_open {S : Nat → Nat → Int32} {L : Nat → Nat → Int64} {R : Nat × Nat × Nat} {T : Nat} (hT : T = 19 ∨ T = 28) {a : Nat → Nat → Nat} (hV : TV S T a) (hW : WL a) {n : Nat} (IH : ∀ d c b : Nat, c ≤ 1 → b < 64 → b / 8 < a 0 0 → b % 8 < a 0 0 → TT mX4_bestMargin (d + 2 * n + 3) 0 [some (.ref T), some (.int (nI b)), some (.int (nI c)), some (.int (nI n)), none, none] [] (S, L, R) (rt (some (.int (zI (GM a n c b)))) (S, L, R))) (d : Nat) {c r : Nat} (hc : c ≤ 1) {b : Nat} (hb : b < 64) (hs : b / 8 < a 0 0) (hp : b % 8 < a 0 0) (hr : r < 4) (hn : n ≤ 4) : TT mX4_marginBehind (d + 2 * n + 4) 0 [some (.ref T), some (.int (nI b)), some (.int (nI c)), some (.int (nI (n + 1))), some (.int (nI r)), none] [] (S, L, R) (rt (some (.int (zI (MB a n c b r)))) (S, L, R)) := by
  obtain ⟨hg, hdn, hso, hbd, hrn, hgu, hdi, hre⟩ := id hV
  obtain ⟨w3, w8, wd1, wd6, wso, wb, wbs, wbp, wne, wrn, wgu, wdi, wre⟩ := id hW
  cases hbe : beh (a 0 0) b r with
  | none =>
    refine T_ald0 dX4_marginBehind_0 ?_
    refine T_ild1 dX4_marginBehind_1 ?_
    refine T_ild4 dX4_marginBehind_2 ?_
    refine T_invV2i (M' := mX4_borderBehind) dX4_marginBehind_4 ml_X4_131 imX4_borderBehind (kT hT) (Nat.le_of_ble_eq_true rfl) rfl (Nat.le_of_ble_eq_true rfl) rfl (Nat.le_of_ble_eq_true rfl) (c_bb_n hT hg w8 hb hs hp hr hbe) ?_
    refine T_ist5 dX4_marginBehind_7 (by decide) rfl ?_
    refine T_ild5 dX4_marginBehind_9 ?_
    refine T_bipush (v := -9) dX4_marginBehind_11 (by decide) ?_
    refine T_cne (tgt := 22) dX4_marginBehind_13 (by decide) (fun h13 => by exact absurd rfl h13) (fun h13 => ?_)
    refine T_sipush (v := -1000) dX4_marginBehind_16 (by decide) ?_
    refine T_goto (tgt := 35) dX4_marginBehind_19 (by decide) ?_
    refine T_iret dX4_marginBehind_35 rfl ?_
    rw [show MB a n c b r = -1000 by unfold MB; rw [hbe]]; exact rt_i
  | some b' =>
    have q := beh_some w8 hs hp hbe
    refine T_ald0 dX4_marginBehind_0 ?_
    refine T_ild1 dX4_marginBehind_1 ?_
    refine T_ild4 dX4_marginBehind_2 ?_
    refine T_invV2i (M' := mX4_borderBehind) dX4_marginBehind_4 ml_X4_131 imX4_borderBehind (kT hT) (Nat.le_of_ble_eq_true rfl) rfl (Nat.le_of_ble_eq_true rfl) rfl (Nat.le_of_ble_eq_true rfl) (c_bb_s hT hg w8 hb hs hp hr hbe) ?_
    refine T_ist5 dX4_marginBehind_7 (by decide) rfl ?_
    refine T_ild5 dX4_marginBehind_9 ?_
    refine T_bipush (v := -9) dX4_marginBehind_11 (by decide) ?_
    refine T_cne (tgt := 22) dX4_marginBehind_13 (by decide) (fun h13 => ?_) (fun h13 => by exact absurd h13 (nI_m9 (by omega)))
    refine T_ald0 dX4_marginBehind_22 ?_
    refine T_ild5 dX4_marginBehind_23 ?_
    refine T_iconst (v := nI 1) dX4_marginBehind_25 (by decide) ?_
    refine T_ild2 dX4_marginBehind_26 ?_
    refine T_isubN dX4_marginBehind_27 (by omega) ?_
    refine T_ild3 dX4_marginBehind_28 ?_
    refine T_iconst (v := nI 1) dX4_marginBehind_29 (by decide) ?_
    refine T_isubN dX4_marginBehind_30 (by omega) ?_
    refine T_invV3i (M' := mX4_bestMargin) dX4_marginBehind_31 ml_X4_134 imX4_bestMargin (kT hT) (Nat.le_of_ble_eq_true rfl) rfl (Nat.le_of_ble_eq_true rfl) rfl (Nat.le_of_ble_eq_true rfl) (IH d (1 - c) b' (by omega) q.1 q.2.1 q.2.2.1) ?_
    refine T_ineg dX4_marginBehind_34 ?_
    refine T_iret dX4_marginBehind_35 rfl ?_
    rw [zI_neg, show -GM a n (1 - c) b' = MB a n c b r by unfold MB; rw [hbe]]; exact rt_i
set_option maxRecDepth 20000 in
theorem c_bm {S : Nat → Nat → Int32} {L : Nat → Nat → Int64} {R : Nat × Nat × Nat} {T : Nat} (hT : T = 19 ∨ T = 28) {a : Nat → Nat → Nat} (hV : TV S T a) (hW : WL a) : ∀ n, n ≤ 4 → ∀ d c b : Nat, c ≤ 1 → b < 64 → b / 8 < a 0 0 → b % 8 < a 0 0 → TT mX4_bestMargin (d + 2 * n + 3) 0 [some (.ref T), some (.int (nI b)), some (.int (nI c)), some (.int (nI n)), none, none] [] (S, L, R) (rt (some (.int (zI (GM a n c b)))) (S, L, R)) := by
  intro n
  obtain ⟨hg, hdn, hso, hbd, hrn, hgu, hdi, hre⟩ := id hV
  obtain ⟨w3, w8, wd1, wd6, wso, wb, wbs, wbp, wne, wrn, wgu, wdi, wre⟩ := id hW
  induction n with
  | zero =>
    intro _ d c b hc hb hs hp
    have l1 := land_le (c := c) (b := b) hW
    have l2 := land_le (c := 1 - c) (b := b) hW
    refine T_ild3 dX4_bestMargin_0 ?_
    refine T_ifgtN (tgt := 20) dX4_bestMargin_1 (by decide) (by omega) (fun h1 => by exfalso; omega) (fun h1 => ?_)
    refine T_ald0 dX4_bestMargin_4 ?_
    refine T_ild2 dX4_bestMargin_5 ?_
    refine T_ild1 dX4_bestMargin_6 ?_
    refine T_invV2i (M' := mX4_landOf) dX4_bestMargin_7 ml_X4_124 imX4_landOf (kT hT) (Nat.le_of_ble_eq_true rfl) rfl (Nat.le_of_ble_eq_true rfl) rfl (Nat.le_of_ble_eq_true rfl) (c_X4_landOf hT hV hW hb hs hp) ?_
    refine T_ald0 dX4_bestMargin_10 ?_
    refine T_iconst (v := nI 1) dX4_bestMargin_11 (by decide) ?_
    refine T_ild2 dX4_bestMargin_12 ?_
    refine T_isubN dX4_bestMargin_13 (by omega) ?_
    refine T_ild1 dX4_bestMargin_14 ?_
    refine T_invV2i (M' := mX4_landOf) dX4_bestMargin_15 ml_X4_124 imX4_landOf (kT hT) (Nat.le_of_ble_eq_true rfl) rfl (Nat.le_of_ble_eq_true rfl) rfl (Nat.le_of_ble_eq_true rfl) (c_X4_landOf hT hV hW hb hs hp) ?_
    refine T_isub dX4_bestMargin_18 ?_
    refine T_iret dX4_bestMargin_19 rfl ?_
    rw [nI_zI, nI_zI, zI_sub]; exact rt_i
  | succ n ih =>
    intro hn d c b hc hb hs hp
    have IH := ih (by omega)
    refine T_ild3 dX4_bestMargin_0 ?_
    refine T_ifgtN (tgt := 20) dX4_bestMargin_1 (by decide) (by omega) (fun h1 => ?_) (fun h1 => by exfalso; omega)
    refine T_sipush (v := -1000) dX4_bestMargin_20 (by decide) ?_
    refine T_ist4 dX4_bestMargin_23 (by decide) rfl ?_
    refine T_iconst (v := nI 0) dX4_bestMargin_25 (by decide) ?_
    refine T_ist5 dX4_bestMargin_26 (by decide) rfl ?_
    refine up_ind (P := fun i => TT mX4_bestMargin (d + 2 * (n + 1) + 3) 28 [some (.ref T), some (.int (nI b)), some (.int (nI c)), some (.int (nI (n + 1))), some (.int (zI (mxs (MB a n c b) i))), some (.int (nI i))] [] (S, L, R) (rt (some (.int (zI (GM a (n + 1) c b)))) (S, L, R))) 4 ?_ ?_
    · refine T_ild5 dX4_bestMargin_28 ?_
      refine T_iconst (v := nI 4) dX4_bestMargin_30 (by decide) ?_
      refine T_cgeN (tgt := 56) dX4_bestMargin_31 (by decide) (by omega) (by omega) (fun h31 => ?_) (fun h31 => by exfalso; omega)
      refine T_ild4 dX4_bestMargin_56 ?_
      refine T_iret dX4_bestMargin_58 rfl ?_
      exact rt_i
    · intro i hi ih
      refine T_ild5 dX4_bestMargin_28 ?_
      refine T_iconst (v := nI 4) dX4_bestMargin_30 (by decide) ?_
      refine T_cgeN (tgt := 56) dX4_bestMargin_31 (by decide) (by omega) (by omega) (fun h31 => by exfalso; omega) (fun h31 => ?_)
      refine T_ild4 dX4_bestMargin_34 ?_
      refine T_ald0 dX4_bestMargin_36 ?_
      refine T_ild1 dX4_bestMargin_37 ?_
      refine T_ild2 dX4_bestMargin_38 ?_
      refine T_ild3 dX4_bestMargin_39 ?_
      refine T_ild5 dX4_bestMargin_40 ?_
      refine T_invV4i (M' := mX4_marginBehind) dX4_bestMargin_42 ml_X4_127 imX4_marginBehind (kT hT) (Nat.le_of_ble_eq_true rfl) rfl (Nat.le_of_ble_eq_true rfl) rfl (Nat.le_of_ble_eq_true rfl) (c_mb_open hT hV hW IH d hc hb hs hp hi (by omega)) ?_
      refine T_max dX4_bestMargin_45 ml_X4_112 (Nat.le_of_ble_eq_true rfl) ?_
      rw [zI_max (mxs_b (MB_b hW n c b) i) (MB_b hW n c b i)]
      refine T_ist4 dX4_bestMargin_48 (by decide) rfl ?_
      refine T_inc5N dX4_bestMargin_50 (by decide) rfl ?_
      refine T_goto (tgt := 28) dX4_bestMargin_53 (by decide) ?_
      exact ih
def mxt (f : Nat → Int) : Nat → Int
  | 0 => f 0
  | k + 1 => if mxt f k < f (k + 1) then f (k + 1) else mxt f k
def arx (f : Nat → Int) : Nat → Nat
  | 0 => 0
  | k + 1 => if mxt f k < f (k + 1) then k + 1 else arx f k
theorem mxt_b {f : Nat → Int} (h : ∀ r, -1000 ≤ f r ∧ f r ≤ 1000) : ∀ k, -1000 ≤ mxt f k ∧ mxt f k ≤ 1000
  | 0 => h 0
  | k + 1 => by
    have h1 := mxt_b h k
    have h2 := h (k + 1)
    unfold mxt; split <;> omega
set_option maxRecDepth 20000 in
theorem c_X4_bestRequest {S : Nat → Nat → Int32} {L : Nat → Nat → Int64} {R : Nat × Nat × Nat} {d : Nat} {T : Nat} (hT : T = 19 ∨ T = 28) {a : Nat → Nat → Nat} (hV : TV S T a) (hW : WL a) {n c : Nat} (hn : n < 4) (hc : c ≤ 1) : TT mX4_bestRequest (d + 2 * n + 5) 0 [some (.ref T), some (.int (nI c)), some (.int (nI (n + 1))), none, none, none, none] [] (S, L, R) (rt (some (.int (nI (arx (MB a n c (a 3 0)) 3)))) (S, L, R)) := by
  obtain ⟨hg, hdn, hso, hbd, hrn, hgu, hdi, hre⟩ := id hV
  obtain ⟨w3, w8, wd1, wd6, wso, wb, wbs, wbp, wne, wrn, wgu, wdi, wre⟩ := id hW
  have IH := c_bm (L := L) (R := R) hT hV hW n (by omega)
  refine T_iconst (v := nI 0) dX4_bestRequest_0 (by decide) ?_
  refine T_ist3 dX4_bestRequest_1 (by decide) rfl ?_
  refine T_ald0 dX4_bestRequest_2 ?_
  refine T_ald0 dX4_bestRequest_3 ?_
  refine T_getN dX4_bestRequest_4 lf_X4_91 (kT hT) rfl hbd ?_
  refine T_ild1 dX4_bestRequest_7 ?_
  refine T_ild2 dX4_bestRequest_8 ?_
  refine T_iconst (v := nI 0) dX4_bestRequest_9 (by decide) ?_
  refine T_invV4i (M' := mX4_marginBehind) dX4_bestRequest_10 ml_X4_127 imX4_marginBehind (kT hT) (Nat.le_of_ble_eq_true rfl) rfl (Nat.le_of_ble_eq_true rfl) rfl (Nat.le_of_ble_eq_true rfl) (c_mb_open hT hV hW IH d hc wb wbs wbp (by omega) (by omega)) ?_
  refine T_ist4 dX4_bestRequest_13 (by decide) rfl ?_
  refine T_iconst (v := nI 1) dX4_bestRequest_15 (by decide) ?_
  refine T_ist5 dX4_bestRequest_16 (by decide) rfl ?_
  skip
  refine up_ind (P := fun i => ∀ x6, TT mX4_bestRequest (d + 2 * n + 5) 18 [some (.ref T), some (.int (nI c)), some (.int (nI (n + 1))), some (.int (nI (arx (MB a n c (a 3 0)) i))), some (.int (zI (mxt (MB a n c (a 3 0)) i))), some (.int (nI (i + 1))), x6] [] (S, L, R) (rt (some (.int (nI (arx (MB a n c (a 3 0)) 3)))) (S, L, R))) 3 ?_ ?_ none
  · intro x6
    refine T_ild5 dX4_bestRequest_18 ?_
    refine T_iconst (v := nI 4) dX4_bestRequest_20 (by decide) ?_
    refine T_cgeN (tgt := 58) dX4_bestRequest_21 (by decide) (by omega) (by omega) (fun h21 => ?_) (fun h21 => by exfalso; omega)
    refine T_ild3 dX4_bestRequest_58 ?_
    refine T_iret dX4_bestRequest_59 rfl ?_
    exact rt_i
  · intro i hi ih x6
    have z1 := mxt_b (MB_b hW n c (a 3 0)) i
    have z2 := MB_b hW n c (a 3 0) (i + 1)
    refine T_ild5 dX4_bestRequest_18 ?_
    refine T_iconst (v := nI 4) dX4_bestRequest_20 (by decide) ?_
    refine T_cgeN (tgt := 58) dX4_bestRequest_21 (by decide) (by omega) (by omega) (fun h21 => by exfalso; omega) (fun h21 => ?_)
    refine T_ald0 dX4_bestRequest_24 ?_
    refine T_ald0 dX4_bestRequest_25 ?_
    refine T_getN dX4_bestRequest_26 lf_X4_91 (kT hT) rfl hbd ?_
    refine T_ild1 dX4_bestRequest_29 ?_
    refine T_ild2 dX4_bestRequest_30 ?_
    refine T_ild5 dX4_bestRequest_31 ?_
    refine T_invV4i (M' := mX4_marginBehind) dX4_bestRequest_33 ml_X4_127 imX4_marginBehind (kT hT) (Nat.le_of_ble_eq_true rfl) rfl (Nat.le_of_ble_eq_true rfl) rfl (Nat.le_of_ble_eq_true rfl) (c_mb_open hT hV hW IH d hc wb wbs wbp (by omega) (by omega)) ?_
    refine T_ist6 dX4_bestRequest_36 (by decide) rfl ?_
    refine T_ild6 dX4_bestRequest_38 ?_
    refine T_ild4 dX4_bestRequest_40 ?_
    refine T_cle (tgt := 52) dX4_bestRequest_42 (by decide) (fun h42 => ?_) (fun h42 => ?_)
    · refine T_inc5N dX4_bestRequest_52 (by decide) rfl ?_
      refine T_goto (tgt := 18) dX4_bestRequest_55 (by decide) ?_
      first | (have q := (zI_le (by omega) (by omega) (by omega) (by omega)).mp h42; have e1 : arx (MB a n c (a 3 0)) (i + 1) = arx (MB a n c (a 3 0)) i := if_neg (by omega); have e2 : mxt (MB a n c (a 3 0)) (i + 1) = mxt (MB a n c (a 3 0)) i := if_neg (by omega); rw [e1, e2] at ih; exact ih _) | (have q : ¬ MB a n c (a 3 0) (i + 1) ≤ mxt (MB a n c (a 3 0)) i := fun q => h42 ((zI_le (by omega) (by omega) (by omega) (by omega)).mpr q); have e1 : arx (MB a n c (a 3 0)) (i + 1) = i + 1 := if_pos (by omega); have e2 : mxt (MB a n c (a 3 0)) (i + 1) = MB a n c (a 3 0) (i + 1) := if_pos (by omega); rw [e1, e2] at ih; exact ih _)
    · refine T_ild5 dX4_bestRequest_45 ?_
      refine T_ist3 dX4_bestRequest_47 (by decide) rfl ?_
      refine T_ild6 dX4_bestRequest_48 ?_
      refine T_ist4 dX4_bestRequest_50 (by decide) rfl ?_
      refine T_inc5N dX4_bestRequest_52 (by decide) rfl ?_
      refine T_goto (tgt := 18) dX4_bestRequest_55 (by decide) ?_
      first | (have q := (zI_le (by omega) (by omega) (by omega) (by omega)).mp h42; have e1 : arx (MB a n c (a 3 0)) (i + 1) = arx (MB a n c (a 3 0)) i := if_neg (by omega); have e2 : mxt (MB a n c (a 3 0)) (i + 1) = mxt (MB a n c (a 3 0)) i := if_neg (by omega); rw [e1, e2] at ih; exact ih _) | (have q : ¬ MB a n c (a 3 0) (i + 1) ≤ mxt (MB a n c (a 3 0)) i := fun q => h42 ((zI_le (by omega) (by omega) (by omega) (by omega)).mpr q); have e1 : arx (MB a n c (a 3 0)) (i + 1) = i + 1 := if_pos (by omega); have e2 : mxt (MB a n c (a 3 0)) (i + 1) = MB a n c (a 3 0) (i + 1) := if_pos (by omega); rw [e1, e2] at ih; exact ih _)
